/-! methods 2. By program (wip/gen) out of the bytecode: vc_KEY: what must hold of a call; ct_KEY: then the machine does it. -/
def rm_X4_countOutOf : Room := { frames := 0, cells := 0, slots := 0, locals := 0 }
theorem dX4_countOutOf_0 : decode cX4_countOutOf 0 = .ok (.iconst 0, 1) := by decide +kernel
theorem dX4_countOutOf_1 : decode cX4_countOutOf 1 = .ok (.istore_n 2, 1) := by decide +kernel
theorem dX4_countOutOf_2 : decode cX4_countOutOf 2 = .ok (.aload_n 0, 1) := by decide +kernel
theorem dX4_countOutOf_3 : decode cX4_countOutOf 3 = .ok (.getfield 37, 3) := by decide +kernel
theorem dX4_countOutOf_6 : decode cX4_countOutOf 6 = .ok (.astore_n 3, 1) := by decide +kernel
theorem dX4_countOutOf_7 : decode cX4_countOutOf 7 = .ok (.aload_n 3, 1) := by decide +kernel
theorem dX4_countOutOf_8 : decode cX4_countOutOf 8 = .ok (.ifnull 27, 3) := by decide +kernel
theorem dX4_countOutOf_11 : decode cX4_countOutOf 11 = .ok (.iload_n 2, 1) := by decide +kernel
theorem dX4_countOutOf_12 : decode cX4_countOutOf 12 = .ok (.aload_n 3, 1) := by decide +kernel
theorem dX4_countOutOf_13 : decode cX4_countOutOf 13 = .ok (.getfield 51, 3) := by decide +kernel
theorem dX4_countOutOf_16 : decode cX4_countOutOf 16 = .ok (.aload_n 1, 1) := by decide +kernel
theorem dX4_countOutOf_17 : decode cX4_countOutOf 17 = .ok (.if_acmp .ne 7, 3) := by decide +kernel
theorem dX4_countOutOf_20 : decode cX4_countOutOf 20 = .ok (.iconst 1, 1) := by decide +kernel
theorem dX4_countOutOf_21 : decode cX4_countOutOf 21 = .ok (.goto 4, 3) := by decide +kernel
theorem dX4_countOutOf_24 : decode cX4_countOutOf 24 = .ok (.iconst 0, 1) := by decide +kernel
theorem dX4_countOutOf_25 : decode cX4_countOutOf 25 = .ok (.iadd, 1) := by decide +kernel
theorem dX4_countOutOf_26 : decode cX4_countOutOf 26 = .ok (.istore_n 2, 1) := by decide +kernel
theorem dX4_countOutOf_27 : decode cX4_countOutOf 27 = .ok (.aload_n 3, 1) := by decide +kernel
theorem dX4_countOutOf_28 : decode cX4_countOutOf 28 = .ok (.getfield 44, 3) := by decide +kernel
theorem dX4_countOutOf_31 : decode cX4_countOutOf 31 = .ok (.astore_n 3, 1) := by decide +kernel
theorem dX4_countOutOf_32 : decode cX4_countOutOf 32 = .ok (.goto (-25), 3) := by decide +kernel
theorem dX4_countOutOf_35 : decode cX4_countOutOf 35 = .ok (.iload_n 2, 1) := by decide +kernel
theorem dX4_countOutOf_36 : decode cX4_countOutOf 36 = .ok (.ireturn, 1) := by decide +kernel
def vb_X4_countOutOf_25 (k7 : Nat → Int32 → Nat → mj_M → Prop) (post : Int32 → mj_M → Prop) (l1 : Nat) (l3 : Nat) (s0 : Int32) (s1 : Bool) (M : mj_M) : Prop := mj_tag M l3 = 4 ∧ k7 l1 (s0 + (mj_b s1)) (mj_r M l3 1) M
def vb_X4_countOutOf_7 (post : Int32 → mj_M → Prop) : Nat → Nat → Int32 → Nat → mj_M → Prop
  | 0 => fun _ _ _ _ => False
  | f + 1 => fun l1 l2 l3 M => if l3 = 0 then (post l2 M) else (mj_tag M l3 = 4 ∧ if (mj_r M l3 2) = l1 then (vb_X4_countOutOf_25 (vb_X4_countOutOf_7 post f) post l1 l3 l2 true M) else (vb_X4_countOutOf_25 (vb_X4_countOutOf_7 post f) post l1 l3 l2 false M))
def vc_X4_countOutOf (l0 : Nat) (l1 : Nat) (M : mj_M) (post : Int32 → mj_M → Prop) : Prop := mj_tag M l0 = 5 ∧ vb_X4_countOutOf_7 post 60 l1 0 (mj_r M l0 1) M
set_option maxHeartbeats 4000000 in
set_option maxRecDepth 100000 in
theorem xb_X4_countOutOf_25 {g : mj_G} {post : Int32 → mj_M → Prop} (hC : mj_C g yX4_countOutOf cX4_countOutOf 4 (some .int) rm_X4_countOutOf) (hE : mj_E g mj_jI post 0 0) {k7 : Nat → Int32 → Nat → mj_M → Prop} (hk7 : ∀ (l1 : Nat) (l2 : Int32) (l3 : Nat) (M : mj_M), k7 l1 l2 l3 M → mj_X g 7 [(1, vR l1), (2, vI l2), (3, vR l3)] [] M 0 0) (l1 : Nat) (l3 : Nat) (s0 : Int32) (s1 : Bool) (M : mj_M) (h : vb_X4_countOutOf_25 k7 post l1 l3 s0 s1 M) : mj_X g 25 [(1, vR l1), (3, vR l3)] [vI (mj_b s1), vI s0] M 0 0 := by
  simp only [vb_X4_countOutOf_25] at h
  refine mx_iadd hC dX4_countOutOf_25 ?_
  refine mx_istore_n (L' := [(2, vI (s0 + (mj_b s1))), (1, vR l1), (3, vR l3)]) hC dX4_countOutOf_26 rfl (by decide) rfl ?_
  refine mx_aload_n (j := 2) hC dX4_countOutOf_27 rfl rfl ?_
  obtain ⟨ht1, h⟩ := h
  refine mx_get (v := vR (mj_r M l3 1)) hC tf_X4_44 ht1 rfl dX4_countOutOf_28 ?_
  refine mx_astore_n (L' := [(3, vR (mj_r M l3 1)), (2, vI (s0 + (mj_b s1))), (1, vR l1)]) hC dX4_countOutOf_31 rfl (by decide) rfl ?_
  refine mx_goto (tgt := 7) hC dX4_countOutOf_32 (by decide) ?_
  refine mx_sub (L' := [(1, vR l1), (2, vI (s0 + (mj_b s1))), (3, vR (mj_r M l3 1))]) [2, 1, 0] rfl ?_
  exact show mj_X g 7 [(1, vR l1), (2, vI (s0 + (mj_b s1))), (3, vR (mj_r M l3 1))] [] M 0 0 from (hk7 l1 (s0 + (mj_b s1)) (mj_r M l3 1) M h)
set_option maxHeartbeats 4000000 in
set_option maxRecDepth 100000 in
theorem xb_X4_countOutOf_7 {g : mj_G} {post : Int32 → mj_M → Prop} (hC : mj_C g yX4_countOutOf cX4_countOutOf 4 (some .int) rm_X4_countOutOf) (hE : mj_E g mj_jI post 0 0) : ∀ (f : Nat) (l1 : Nat) (l2 : Int32) (l3 : Nat) (M : mj_M), vb_X4_countOutOf_7 post f l1 l2 l3 M → mj_X g 7 [(1, vR l1), (2, vI l2), (3, vR l3)] [] M 0 0 := by
  intro f
  induction f with
  | zero => exact fun _ _ _ _ h => absurd h (fun z => z)
  | succ f ih =>
    intro l1 l2 l3 M h
    simp only [vb_X4_countOutOf_7] at h
    refine mx_aload_n (j := 2) hC dX4_countOutOf_7 rfl rfl ?_
    refine mx_ifnull (tgt := 35) hC dX4_countOutOf_8 (by decide) (fun hc2 => ?_) (fun hc2 => ?_)
    · replace h := mj_yy hc2 h
      refine mx_iload_n (j := 1) hC dX4_countOutOf_35 rfl rfl ?_
      exact mx_iret hC hE rfl dX4_countOutOf_36 h
    · replace h := mj_nn hc2 h
      refine mx_iload_n (j := 1) hC dX4_countOutOf_11 rfl rfl ?_
      refine mx_aload_n (j := 2) hC dX4_countOutOf_12 rfl rfl ?_
      obtain ⟨ht3, h⟩ := h
      refine mx_get (v := vR (mj_r M l3 2)) hC tf_X4_51 ht3 rfl dX4_countOutOf_13 ?_
      refine mx_aload_n (j := 0) hC dX4_countOutOf_16 rfl rfl ?_
      refine mx_acmpne (tgt := 24) hC dX4_countOutOf_17 (by decide) (fun hc4 => ?_) (fun hc4 => ?_)
      · replace h := mj_nn hc4 h
        refine mx_iconst (v := 0) hC dX4_countOutOf_24 (by decide) ?_
        refine mx_sub (L' := [(1, vR l1), (3, vR l3)]) [0, 2] rfl ?_
        exact show mj_X g 25 [(1, vR l1), (3, vR l3)] [vI (mj_b false), vI l2] M 0 0 from (xb_X4_countOutOf_25 hC hE ih l1 l3 l2 false M h)
      · replace h := mj_yy hc4 h
        refine mx_iconst (v := 1) hC dX4_countOutOf_20 (by decide) ?_
        refine mx_goto (tgt := 25) hC dX4_countOutOf_21 (by decide) ?_
        refine mx_sub (L' := [(1, vR l1), (3, vR l3)]) [0, 2] rfl ?_
        exact show mj_X g 25 [(1, vR l1), (3, vR l3)] [vI (mj_b true), vI l2] M 0 0 from (xb_X4_countOutOf_25 hC hE ih l1 l3 l2 true M h)
set_option maxHeartbeats 4000000 in
set_option maxRecDepth 100000 in
theorem ct_X4_countOutOf {l : Launch} {base : Nat} {D : va_G} {A : mj_AT} (l0 : Nat) (l1 : Nat) (M : mj_M) (post : Int32 → mj_M → Prop) (h : vc_X4_countOutOf l0 l1 M post) : mj_Met l base D A mj_jI yX4_countOutOf cX4_countOutOf 4 (some .int) rm_X4_countOutOf 0 0 [vR l0, vR l1] M post := by
  refine mj_entry (by decide +kernel) (Nat.le_of_ble_eq_true rfl) (fun g hC hE h1 h2 h3 h4 => ?_)
  show mj_X g 0 [(0, vR l0), (1, vR l1)] [] M 0 0
  simp only [vc_X4_countOutOf] at h
  refine mx_iconst (v := 0) hC dX4_countOutOf_0 (by decide) ?_
  refine mx_istore_n (L' := [(2, vI 0), (0, vR l0), (1, vR l1)]) hC dX4_countOutOf_1 rfl (by decide) rfl ?_
  refine mx_aload_n (j := 1) hC dX4_countOutOf_2 rfl rfl ?_
  obtain ⟨ht5, h⟩ := h
  refine mx_get (v := vR (mj_r M l0 1)) hC tf_X4_37 ht5 rfl dX4_countOutOf_3 ?_
  refine mx_astore_n (L' := [(3, vR (mj_r M l0 1)), (2, vI 0), (0, vR l0), (1, vR l1)]) hC dX4_countOutOf_6 rfl (by decide) rfl ?_
  refine mx_sub (L' := [(1, vR l1), (2, vI 0), (3, vR (mj_r M l0 1))]) [3, 1, 0] rfl ?_
  exact show mj_X g 7 [(1, vR l1), (2, vI 0), (3, vR (mj_r M l0 1))] [] M 0 0 from (xb_X4_countOutOf_7 hC hE 60 l1 0 (mj_r M l0 1) M h)
theorem tw435 : (Jvm.Cond.methodLink "LeaseLand$Land" (163 : Nat) ({ cls := "LeaseLand$Holding", name := "hasFloor", desc := "(I)Z" } : Jvm.MethodName)) ∈ mj_tbl := mj_w 441 (by decide +kernel) (by decide +kernel)
theorem tw438 : (Jvm.Cond.code ({ cls := "LeaseLand$Holding", name := "hasFloor", desc := "(I)Z" } : Jvm.MethodName) prog_5_method_4_code (2 : Nat) (Option.some Jvm.ClassFile.FieldType.boolean)) ∈ mj_tbl := mj_w 444 (by decide +kernel) (by decide +kernel)
theorem tw436 : (Jvm.Cond.instanceMethod ({ cls := "LeaseLand$Holding", name := "hasFloor", desc := "(I)Z" } : Jvm.MethodName)) ∈ mj_tbl := mj_w 442 (by decide +kernel) (by decide +kernel)
theorem tw437 : (Jvm.Cond.selects "LeaseLand$Holding" ({ cls := "LeaseLand$Holding", name := "hasFloor", desc := "(I)Z" } : Jvm.MethodName) ({ cls := "LeaseLand$Holding", name := "hasFloor", desc := "(I)Z" } : Jvm.MethodName)) ∈ mj_tbl := mj_w 443 (by decide +kernel) (by decide +kernel)
theorem ty_X3_hasFloor : mj_YV 3 yX3_hasFloor cX3_hasFloor 2 (some .boolean) 1 := ⟨⟨tw438, tw11, by decide +kernel, by decide +kernel, by decide +kernel⟩, tw436, tw437, _, rfl, rfl⟩
def rm_X4_nextOf : Room := { frames := 2, cells := 0, slots := 0, locals := 41 }
theorem dX4_nextOf_0 : decode cX4_nextOf 0 = .ok (.aload_n 0, 1) := by decide +kernel
theorem dX4_nextOf_1 : decode cX4_nextOf 1 = .ok (.getfield 37, 3) := by decide +kernel
theorem dX4_nextOf_4 : decode cX4_nextOf 4 = .ok (.astore_n 3, 1) := by decide +kernel
theorem dX4_nextOf_5 : decode cX4_nextOf 5 = .ok (.aload_n 3, 1) := by decide +kernel
theorem dX4_nextOf_6 : decode cX4_nextOf 6 = .ok (.ifnull 40, 3) := by decide +kernel
theorem dX4_nextOf_9 : decode cX4_nextOf 9 = .ok (.aload_n 3, 1) := by decide +kernel
theorem dX4_nextOf_10 : decode cX4_nextOf 10 = .ok (.getfield 51, 3) := by decide +kernel
theorem dX4_nextOf_13 : decode cX4_nextOf 13 = .ok (.aload_n 1, 1) := by decide +kernel
theorem dX4_nextOf_14 : decode cX4_nextOf 14 = .ok (.if_acmp .ne 24, 3) := by decide +kernel
theorem dX4_nextOf_17 : decode cX4_nextOf 17 = .ok (.aload_n 3, 1) := by decide +kernel
theorem dX4_nextOf_18 : decode cX4_nextOf 18 = .ok (.iload_n 2, 1) := by decide +kernel
theorem dX4_nextOf_19 : decode cX4_nextOf 19 = .ok (.invokevirtual 163, 3) := by decide +kernel
theorem dX4_nextOf_22 : decode cX4_nextOf 22 = .ok (.ifCond .eq 16, 3) := by decide +kernel
theorem dX4_nextOf_25 : decode cX4_nextOf 25 = .ok (.aload_n 3, 1) := by decide +kernel
theorem dX4_nextOf_26 : decode cX4_nextOf 26 = .ok (.aload_n 0, 1) := by decide +kernel
theorem dX4_nextOf_27 : decode cX4_nextOf 27 = .ok (.getfield 28, 3) := by decide +kernel
theorem dX4_nextOf_30 : decode cX4_nextOf 30 = .ok (.invokevirtual 31, 3) := by decide +kernel
theorem dX4_nextOf_33 : decode cX4_nextOf 33 = .ok (.ifCond .eq 5, 3) := by decide +kernel
theorem dX4_nextOf_36 : decode cX4_nextOf 36 = .ok (.aload_n 3, 1) := by decide +kernel
theorem dX4_nextOf_37 : decode cX4_nextOf 37 = .ok (.areturn, 1) := by decide +kernel
theorem dX4_nextOf_38 : decode cX4_nextOf 38 = .ok (.aload_n 3, 1) := by decide +kernel
theorem dX4_nextOf_39 : decode cX4_nextOf 39 = .ok (.getfield 44, 3) := by decide +kernel
theorem dX4_nextOf_42 : decode cX4_nextOf 42 = .ok (.astore_n 3, 1) := by decide +kernel
theorem dX4_nextOf_43 : decode cX4_nextOf 43 = .ok (.goto (-38), 3) := by decide +kernel
theorem dX4_nextOf_46 : decode cX4_nextOf 46 = .ok (.aconst_null, 1) := by decide +kernel
theorem dX4_nextOf_47 : decode cX4_nextOf 47 = .ok (.areturn, 1) := by decide +kernel
def vb_X4_nextOf_5 (post : Nat → mj_M → Prop) : Nat → Nat → Nat → Int32 → Nat → mj_M → Prop
  | 0 => fun _ _ _ _ _ => False
  | f + 1 => fun l0 l1 l2 l3 M => if l3 = 0 then (post 0 M) else (mj_tag M l3 = 4 ∧ if (mj_r M l3 2) = l1 then (vc_X3_hasFloor l3 l2 M (fun r4 M5 => if r4 = true then (mj_tag M5 l0 = 5 ∧ mj_tag M5 l3 = 4 ∧ vc_X3_isInForce l3 (mj_i M5 l0 0) M5 (fun r10 M11 => if r10 = true then (post l3 M11) else (mj_tag M11 l3 = 4 ∧ vb_X4_nextOf_5 post f l0 l1 l2 (mj_r M11 l3 1) M11))) else (mj_tag M5 l3 = 4 ∧ vb_X4_nextOf_5 post f l0 l1 l2 (mj_r M5 l3 1) M5))) else (vb_X4_nextOf_5 post f l0 l1 l2 (mj_r M l3 1) M))
def vc_X4_nextOf (l0 : Nat) (l1 : Nat) (l2 : Int32) (M : mj_M) (post : Nat → mj_M → Prop) : Prop := mj_tag M l0 = 5 ∧ vb_X4_nextOf_5 post 60 l0 l1 l2 (mj_r M l0 1) M
set_option maxHeartbeats 4000000 in
set_option maxRecDepth 100000 in
theorem xb_X4_nextOf_5 {g : mj_G} {post : Nat → mj_M → Prop} (hC : mj_C g yX4_nextOf cX4_nextOf 4 (some (.object "LeaseLand$Holding")) rm_X4_nextOf) (hE : mj_E g mj_jR post 0 0) : ∀ (f : Nat) (l0 : Nat) (l1 : Nat) (l2 : Int32) (l3 : Nat) (M : mj_M), vb_X4_nextOf_5 post f l0 l1 l2 l3 M → mj_X g 5 [(0, vR l0), (1, vR l1), (2, vI l2), (3, vR l3)] [] M 0 0 := by
  intro f
  induction f with
  | zero => exact fun _ _ _ _ _ h => absurd h (fun z => z)
  | succ f ih =>
    intro l0 l1 l2 l3 M h
    simp only [vb_X4_nextOf_5] at h
    refine mx_aload_n (j := 3) hC dX4_nextOf_5 rfl rfl ?_
    refine mx_ifnull (tgt := 46) hC dX4_nextOf_6 (by decide) (fun hc1 => ?_) (fun hc1 => ?_)
    · replace h := mj_yy hc1 h
      refine mx_null hC dX4_nextOf_46 ?_
      exact mx_aret hC hE rfl (Or.inl ⟨_, rfl⟩) dX4_nextOf_47 h
    · replace h := mj_nn hc1 h
      refine mx_aload_n (j := 3) hC dX4_nextOf_9 rfl rfl ?_
      obtain ⟨ht2, h⟩ := h
      refine mx_get (v := vR (mj_r M l3 2)) hC tf_X4_51 ht2 rfl dX4_nextOf_10 ?_
      refine mx_aload_n (j := 1) hC dX4_nextOf_13 rfl rfl ?_
      refine mx_acmpne (tgt := 38) hC dX4_nextOf_14 (by decide) (fun hc3 => ?_) (fun hc3 => ?_)
      · replace h := mj_nn hc3 h
        refine mx_aload_n (j := 3) hC dX4_nextOf_38 rfl rfl ?_
        refine mx_get (v := vR (mj_r M l3 1)) hC tf_X4_44 ht2 rfl dX4_nextOf_39 ?_
        refine mx_astore_n (L' := [(3, vR (mj_r M l3 1)), (0, vR l0), (1, vR l1), (2, vI l2)]) hC dX4_nextOf_42 rfl (by decide) rfl ?_
        refine mx_goto (tgt := 5) hC dX4_nextOf_43 (by decide) ?_
        refine mx_sub (L' := [(0, vR l0), (1, vR l1), (2, vI l2), (3, vR (mj_r M l3 1))]) [1, 2, 3, 0] rfl ?_
        exact show mj_X g 5 [(0, vR l0), (1, vR l1), (2, vI l2), (3, vR (mj_r M l3 1))] [] M 0 0 from (ih l0 l1 l2 (mj_r M l3 1) M h)
      · replace h := mj_yy hc3 h
        refine mx_aload_n (j := 3) hC dX4_nextOf_17 rfl rfl ?_
        refine mx_iload_n (j := 2) hC dX4_nextOf_18 rfl rfl ?_
        refine mx_callV (inj := mj_jB) (As := [vI l2]) (st := []) hC (ct_X3_hasFloor l3 l2 M _ h) ty_X3_hasFloor tw435 ht2 rfl (Nat.le_of_ble_eq_true rfl) ⟨rfl, rfl, ⟨by decide, by decide⟩, by decide, by decide⟩ dX4_nextOf_19 (fun r4 M5 h => ?_)
        show mj_X g 22 [(0, vR l0), (1, vR l1), (2, vI l2), (3, vR l3)] [vI (mj_b r4)] M5 0 0
        refine mx_ifeqB (tgt := 38) hC dX4_nextOf_22 (by decide) (fun hc6 => ?_) (fun hc6 => ?_)
        · replace h := mj_nn hc6 h
          refine mx_aload_n (j := 3) hC dX4_nextOf_38 rfl rfl ?_
          obtain ⟨ht7, h⟩ := h
          refine mx_get (v := vR (mj_r M5 l3 1)) hC tf_X4_44 ht7 rfl dX4_nextOf_39 ?_
          refine mx_astore_n (L' := [(3, vR (mj_r M5 l3 1)), (0, vR l0), (1, vR l1), (2, vI l2)]) hC dX4_nextOf_42 rfl (by decide) rfl ?_
          refine mx_goto (tgt := 5) hC dX4_nextOf_43 (by decide) ?_
          refine mx_sub (L' := [(0, vR l0), (1, vR l1), (2, vI l2), (3, vR (mj_r M5 l3 1))]) [1, 2, 3, 0] rfl ?_
          exact show mj_X g 5 [(0, vR l0), (1, vR l1), (2, vI l2), (3, vR (mj_r M5 l3 1))] [] M5 0 0 from (ih l0 l1 l2 (mj_r M5 l3 1) M5 h)
        · replace h := mj_yy hc6 h
          refine mx_aload_n (j := 3) hC dX4_nextOf_25 rfl rfl ?_
          refine mx_aload_n (j := 0) hC dX4_nextOf_26 rfl rfl ?_
          obtain ⟨ht8, h⟩ := h
          refine mx_get (v := vI (mj_i M5 l0 0)) hC tf_X4_28 ht8 rfl dX4_nextOf_27 ?_
          obtain ⟨ht9, h⟩ := h
          refine mx_callV (inj := mj_jB) (As := [vI (mj_i M5 l0 0)]) (st := []) hC (ct_X3_isInForce l3 (mj_i M5 l0 0) M5 _ h) ty_X3_isInForce tw439 ht9 rfl (Nat.le_of_ble_eq_true rfl) ⟨rfl, rfl, ⟨by decide, by decide⟩, by decide, by decide⟩ dX4_nextOf_30 (fun r10 M11 h => ?_)
          show mj_X g 33 [(0, vR l0), (1, vR l1), (2, vI l2), (3, vR l3)] [vI (mj_b r10)] M11 0 0
          refine mx_ifeqB (tgt := 38) hC dX4_nextOf_33 (by decide) (fun hc12 => ?_) (fun hc12 => ?_)
          · replace h := mj_nn hc12 h
            refine mx_aload_n (j := 3) hC dX4_nextOf_38 rfl rfl ?_
            obtain ⟨ht13, h⟩ := h
            refine mx_get (v := vR (mj_r M11 l3 1)) hC tf_X4_44 ht13 rfl dX4_nextOf_39 ?_
            refine mx_astore_n (L' := [(3, vR (mj_r M11 l3 1)), (0, vR l0), (1, vR l1), (2, vI l2)]) hC dX4_nextOf_42 rfl (by decide) rfl ?_
            refine mx_goto (tgt := 5) hC dX4_nextOf_43 (by decide) ?_
            refine mx_sub (L' := [(0, vR l0), (1, vR l1), (2, vI l2), (3, vR (mj_r M11 l3 1))]) [1, 2, 3, 0] rfl ?_
            exact show mj_X g 5 [(0, vR l0), (1, vR l1), (2, vI l2), (3, vR (mj_r M11 l3 1))] [] M11 0 0 from (ih l0 l1 l2 (mj_r M11 l3 1) M11 h)
          · replace h := mj_yy hc12 h
            refine mx_aload_n (j := 3) hC dX4_nextOf_36 rfl rfl ?_
            exact mx_aret hC hE rfl (Or.inl ⟨_, rfl⟩) dX4_nextOf_37 h
set_option maxHeartbeats 4000000 in
set_option maxRecDepth 100000 in
theorem ct_X4_nextOf {l : Launch} {base : Nat} {D : va_G} {A : mj_AT} (l0 : Nat) (l1 : Nat) (l2 : Int32) (M : mj_M) (post : Nat → mj_M → Prop) (h : vc_X4_nextOf l0 l1 l2 M post) : mj_Met l base D A mj_jR yX4_nextOf cX4_nextOf 4 (some (.object "LeaseLand$Holding")) rm_X4_nextOf 0 0 [vR l0, vR l1, vI l2] M post := by
  refine mj_entry (by decide +kernel) (Nat.le_of_ble_eq_true rfl) (fun g hC hE h1 h2 h3 h4 => ?_)
  show mj_X g 0 [(0, vR l0), (1, vR l1), (2, vI l2)] [] M 0 0
  simp only [vc_X4_nextOf] at h
  refine mx_aload_n (j := 0) hC dX4_nextOf_0 rfl rfl ?_
  obtain ⟨ht14, h⟩ := h
  refine mx_get (v := vR (mj_r M l0 1)) hC tf_X4_37 ht14 rfl dX4_nextOf_1 ?_
  refine mx_astore_n (L' := [(3, vR (mj_r M l0 1)), (0, vR l0), (1, vR l1), (2, vI l2)]) hC dX4_nextOf_4 rfl (by decide) rfl ?_
  refine mx_sub (L' := [(0, vR l0), (1, vR l1), (2, vI l2), (3, vR (mj_r M l0 1))]) [1, 2, 3, 0] rfl ?_
  exact show mj_X g 5 [(0, vR l0), (1, vR l1), (2, vI l2), (3, vR (mj_r M l0 1))] [] M 0 0 from (xb_X4_nextOf_5 hC hE 60 l0 l1 l2 (mj_r M l0 1) M h)
theorem tw914 : (Jvm.Cond.methodLink "LeaseLand$Land" (166 : Nat) ({ cls := "LeaseLand$Land", name := "nextOf", desc := "(LLeaseLand$Holding;I)LLeaseLand$Holding;" } : Jvm.MethodName)) ∈ mj_tbl := mj_w 920 (by decide +kernel) (by decide +kernel)
theorem tw434 : (Jvm.Cond.code ({ cls := "LeaseLand$Land", name := "nextOf", desc := "(LLeaseLand$Holding;I)LLeaseLand$Holding;" } : Jvm.MethodName) prog_6_method_30_code (4 : Nat) (Option.some (Jvm.ClassFile.FieldType.object "LeaseLand$Holding"))) ∈ mj_tbl := mj_w 440 (by decide +kernel) (by decide +kernel)
theorem tw432 : (Jvm.Cond.instanceMethod ({ cls := "LeaseLand$Land", name := "nextOf", desc := "(LLeaseLand$Holding;I)LLeaseLand$Holding;" } : Jvm.MethodName)) ∈ mj_tbl := mj_w 438 (by decide +kernel) (by decide +kernel)
theorem tw433 : (Jvm.Cond.selects "LeaseLand$Land" ({ cls := "LeaseLand$Land", name := "nextOf", desc := "(LLeaseLand$Holding;I)LLeaseLand$Holding;" } : Jvm.MethodName) ({ cls := "LeaseLand$Land", name := "nextOf", desc := "(LLeaseLand$Holding;I)LLeaseLand$Holding;" } : Jvm.MethodName)) ∈ mj_tbl := mj_w 439 (by decide +kernel) (by decide +kernel)
theorem ty_X4_nextOf : mj_YV 4 yX4_nextOf cX4_nextOf 4 (some (.object "LeaseLand$Holding")) 2 := ⟨⟨tw434, tw2, by decide +kernel, by decide +kernel, by decide +kernel⟩, tw432, tw433, _, rfl, rfl⟩
def rm_X4_lastOf : Room := { frames := 3, cells := 0, slots := 0, locals := 64 }
theorem dX4_lastOf_0 : decode cX4_lastOf 0 = .ok (.aconst_null, 1) := by decide +kernel
theorem dX4_lastOf_1 : decode cX4_lastOf 1 = .ok (.astore_n 2, 1) := by decide +kernel
theorem dX4_lastOf_2 : decode cX4_lastOf 2 = .ok (.aload_n 0, 1) := by decide +kernel
theorem dX4_lastOf_3 : decode cX4_lastOf 3 = .ok (.aconst_null, 1) := by decide +kernel
theorem dX4_lastOf_4 : decode cX4_lastOf 4 = .ok (.iload_n 1, 1) := by decide +kernel
theorem dX4_lastOf_5 : decode cX4_lastOf 5 = .ok (.invokevirtual 166, 3) := by decide +kernel
theorem dX4_lastOf_8 : decode cX4_lastOf 8 = .ok (.astore_n 3, 1) := by decide +kernel
theorem dX4_lastOf_9 : decode cX4_lastOf 9 = .ok (.iconst 0, 1) := by decide +kernel
theorem dX4_lastOf_10 : decode cX4_lastOf 10 = .ok (.istore 4, 2) := by decide +kernel
theorem dX4_lastOf_12 : decode cX4_lastOf 12 = .ok (.aload_n 3, 1) := by decide +kernel
theorem dX4_lastOf_13 : decode cX4_lastOf 13 = .ok (.ifnull 25, 3) := by decide +kernel
theorem dX4_lastOf_16 : decode cX4_lastOf 16 = .ok (.iload 4, 2) := by decide +kernel
theorem dX4_lastOf_18 : decode cX4_lastOf 18 = .ok (.bipush 40, 2) := by decide +kernel
theorem dX4_lastOf_20 : decode cX4_lastOf 20 = .ok (.if_icmp .ge 18, 3) := by decide +kernel
theorem dX4_lastOf_23 : decode cX4_lastOf 23 = .ok (.aload_n 3, 1) := by decide +kernel
theorem dX4_lastOf_24 : decode cX4_lastOf 24 = .ok (.astore_n 2, 1) := by decide +kernel
theorem dX4_lastOf_25 : decode cX4_lastOf 25 = .ok (.aload_n 0, 1) := by decide +kernel
theorem dX4_lastOf_26 : decode cX4_lastOf 26 = .ok (.aload_n 3, 1) := by decide +kernel
theorem dX4_lastOf_27 : decode cX4_lastOf 27 = .ok (.iload_n 1, 1) := by decide +kernel
theorem dX4_lastOf_28 : decode cX4_lastOf 28 = .ok (.invokevirtual 166, 3) := by decide +kernel
theorem dX4_lastOf_31 : decode cX4_lastOf 31 = .ok (.astore_n 3, 1) := by decide +kernel
theorem dX4_lastOf_32 : decode cX4_lastOf 32 = .ok (.iinc 4 1, 3) := by decide +kernel
theorem dX4_lastOf_35 : decode cX4_lastOf 35 = .ok (.goto (-23), 3) := by decide +kernel
theorem dX4_lastOf_38 : decode cX4_lastOf 38 = .ok (.aload_n 2, 1) := by decide +kernel
theorem dX4_lastOf_39 : decode cX4_lastOf 39 = .ok (.areturn, 1) := by decide +kernel
def vb_X4_lastOf_12 (post : Nat → mj_M → Prop) : Nat → Nat → Int32 → Nat → Nat → Int32 → mj_M → Prop
  | 0 => fun _ _ _ _ _ _ => False
  | f + 1 => fun l0 l1 l2 l3 l4 M => if l3 = 0 then (post l2 M) else (if 40 ≤ l4 then (post l2 M) else (mj_tag M l0 = 5 ∧ vc_X4_nextOf l0 l3 l1 M (fun r4 M5 => vb_X4_lastOf_12 post f l0 l1 l3 r4 (l4 + 1) M5)))
def vc_X4_lastOf (l0 : Nat) (l1 : Int32) (M : mj_M) (post : Nat → mj_M → Prop) : Prop := mj_tag M l0 = 5 ∧ vc_X4_nextOf l0 0 l1 M (fun r7 M8 => vb_X4_lastOf_12 post 60 l0 l1 0 r7 0 M8)
set_option maxHeartbeats 4000000 in
set_option maxRecDepth 100000 in
theorem xb_X4_lastOf_12 {g : mj_G} {post : Nat → mj_M → Prop} (hC : mj_C g yX4_lastOf cX4_lastOf 5 (some (.object "LeaseLand$Holding")) rm_X4_lastOf) (hE : mj_E g mj_jR post 0 0) : ∀ (f : Nat) (l0 : Nat) (l1 : Int32) (l2 : Nat) (l3 : Nat) (l4 : Int32) (M : mj_M), vb_X4_lastOf_12 post f l0 l1 l2 l3 l4 M → mj_X g 12 [(0, vR l0), (1, vI l1), (2, vR l2), (3, vR l3), (4, vI l4)] [] M 0 0 := by
  intro f
  induction f with
  | zero => exact fun _ _ _ _ _ _ h => absurd h (fun z => z)
  | succ f ih =>
    intro l0 l1 l2 l3 l4 M h
    simp only [vb_X4_lastOf_12] at h
    refine mx_aload_n (j := 3) hC dX4_lastOf_12 rfl rfl ?_
    refine mx_ifnull (tgt := 38) hC dX4_lastOf_13 (by decide) (fun hc1 => ?_) (fun hc1 => ?_)
    · replace h := mj_yy hc1 h
      refine mx_aload_n (j := 2) hC dX4_lastOf_38 rfl rfl ?_
      exact mx_aret hC hE rfl (Or.inl ⟨_, rfl⟩) dX4_lastOf_39 h
    · replace h := mj_nn hc1 h
      refine mx_iload (j := 4) hC dX4_lastOf_16 rfl ?_
      refine mx_bipush (v := 40) hC dX4_lastOf_18 (by decide) ?_
      refine mx_icmpge (tgt := 38) hC dX4_lastOf_20 (by decide) (fun hc2 => ?_) (fun hc2 => ?_)
      · replace h := mj_yy hc2 h
        refine mx_aload_n (j := 2) hC dX4_lastOf_38 rfl rfl ?_
        exact mx_aret hC hE rfl (Or.inl ⟨_, rfl⟩) dX4_lastOf_39 h
      · replace h := mj_nn hc2 h
        refine mx_aload_n (j := 3) hC dX4_lastOf_23 rfl rfl ?_
        refine mx_astore_n (L' := [(2, vR l3), (0, vR l0), (1, vI l1), (3, vR l3), (4, vI l4)]) hC dX4_lastOf_24 rfl (by decide) rfl ?_
        refine mx_aload_n (j := 1) hC dX4_lastOf_25 rfl rfl ?_
        refine mx_aload_n (j := 3) hC dX4_lastOf_26 rfl rfl ?_
        refine mx_iload_n (j := 2) hC dX4_lastOf_27 rfl rfl ?_
        obtain ⟨ht3, h⟩ := h
        refine mx_callV (inj := mj_jR) (As := [vR l3, vI l1]) (st := []) hC (ct_X4_nextOf l0 l3 l1 M _ h) ty_X4_nextOf tw914 ht3 rfl (Nat.le_of_ble_eq_true rfl) ⟨rfl, rfl, ⟨by decide, by decide⟩, by decide, by decide⟩ dX4_lastOf_28 (fun r4 M5 h => ?_)
        show mj_X g 31 [(2, vR l3), (0, vR l0), (1, vI l1), (3, vR l3), (4, vI l4)] [vR r4] M5 0 0
        refine mx_astore_n (L' := [(3, vR r4), (2, vR l3), (0, vR l0), (1, vI l1), (4, vI l4)]) hC dX4_lastOf_31 rfl (by decide) rfl ?_
        refine mx_iinc (j := 4) (v := l4 + 1) (L' := [(4, vI (l4 + 1)), (3, vR r4), (2, vR l3), (0, vR l0), (1, vI l1)]) hC dX4_lastOf_32 rfl rfl (by decide) rfl ?_
        refine mx_goto (tgt := 12) hC dX4_lastOf_35 (by decide) ?_
        refine mx_sub (L' := [(0, vR l0), (1, vI l1), (2, vR l3), (3, vR r4), (4, vI (l4 + 1))]) [3, 4, 2, 1, 0] rfl ?_
        exact show mj_X g 12 [(0, vR l0), (1, vI l1), (2, vR l3), (3, vR r4), (4, vI (l4 + 1))] [] M5 0 0 from (ih l0 l1 l3 r4 (l4 + 1) M5 h)
set_option maxHeartbeats 4000000 in
set_option maxRecDepth 100000 in
theorem ct_X4_lastOf {l : Launch} {base : Nat} {D : va_G} {A : mj_AT} (l0 : Nat) (l1 : Int32) (M : mj_M) (post : Nat → mj_M → Prop) (h : vc_X4_lastOf l0 l1 M post) : mj_Met l base D A mj_jR yX4_lastOf cX4_lastOf 5 (some (.object "LeaseLand$Holding")) rm_X4_lastOf 0 0 [vR l0, vI l1] M post := by
  refine mj_entry (by decide +kernel) (Nat.le_of_ble_eq_true rfl) (fun g hC hE h1 h2 h3 h4 => ?_)
  show mj_X g 0 [(0, vR l0), (1, vI l1)] [] M 0 0
  simp only [vc_X4_lastOf] at h
  refine mx_null hC dX4_lastOf_0 ?_
  refine mx_astore_n (L' := [(2, vR 0), (0, vR l0), (1, vI l1)]) hC dX4_lastOf_1 rfl (by decide) rfl ?_
  refine mx_aload_n (j := 1) hC dX4_lastOf_2 rfl rfl ?_
  refine mx_null hC dX4_lastOf_3 ?_
  refine mx_iload_n (j := 2) hC dX4_lastOf_4 rfl rfl ?_
  obtain ⟨ht6, h⟩ := h
  refine mx_callV (inj := mj_jR) (As := [vR 0, vI l1]) (st := []) hC (ct_X4_nextOf l0 0 l1 M _ h) ty_X4_nextOf tw914 ht6 rfl (Nat.le_of_ble_eq_true rfl) ⟨rfl, rfl, ⟨by decide, by decide⟩, by decide, by decide⟩ dX4_lastOf_5 (fun r7 M8 h => ?_)
  show mj_X g 8 [(2, vR 0), (0, vR l0), (1, vI l1)] [vR r7] M8 0 0
  refine mx_astore_n (L' := [(3, vR r7), (2, vR 0), (0, vR l0), (1, vI l1)]) hC dX4_lastOf_8 rfl (by decide) rfl ?_
  refine mx_iconst (v := 0) hC dX4_lastOf_9 (by decide) ?_
  refine mx_istore (L' := [(4, vI 0), (3, vR r7), (2, vR 0), (0, vR l0), (1, vI l1)]) hC dX4_lastOf_10 (by decide) rfl ?_
  refine mx_sub (L' := [(0, vR l0), (1, vI l1), (2, vR 0), (3, vR r7), (4, vI 0)]) [3, 4, 2, 1, 0] rfl ?_
  exact show mj_X g 12 [(0, vR l0), (1, vI l1), (2, vR 0), (3, vR r7), (4, vI 0)] [] M8 0 0 from (xb_X4_lastOf_12 hC hE 60 l0 l1 0 r7 0 M8 h)
def rm_X4_livesThere : Room := { frames := 1, cells := 0, slots := 0, locals := 21 }
theorem dX4_livesThere_0 : decode cX4_livesThere 0 = .ok (.aload_n 0, 1) := by decide +kernel
theorem dX4_livesThere_1 : decode cX4_livesThere 1 = .ok (.getfield 9, 3) := by decide +kernel
theorem dX4_livesThere_4 : decode cX4_livesThere 4 = .ok (.aload_n 1, 1) := by decide +kernel
theorem dX4_livesThere_5 : decode cX4_livesThere 5 = .ok (.getfield 150, 3) := by decide +kernel
theorem dX4_livesThere_8 : decode cX4_livesThere 8 = .ok (.iaload, 1) := by decide +kernel
theorem dX4_livesThere_9 : decode cX4_livesThere 9 = .ok (.istore_n 2, 1) := by decide +kernel
theorem dX4_livesThere_10 : decode cX4_livesThere 10 = .ok (.iload_n 2, 1) := by decide +kernel
theorem dX4_livesThere_11 : decode cX4_livesThere 11 = .ok (.bipush (-6), 2) := by decide +kernel
theorem dX4_livesThere_13 : decode cX4_livesThere 13 = .ok (.if_icmp .eq 15, 3) := by decide +kernel
theorem dX4_livesThere_16 : decode cX4_livesThere 16 = .ok (.aload_n 1, 1) := by decide +kernel
theorem dX4_livesThere_17 : decode cX4_livesThere 17 = .ok (.iload_n 2, 1) := by decide +kernel
theorem dX4_livesThere_18 : decode cX4_livesThere 18 = .ok (.invokevirtual 163, 3) := by decide +kernel
theorem dX4_livesThere_21 : decode cX4_livesThere 21 = .ok (.ifCond .eq 7, 3) := by decide +kernel
theorem dX4_livesThere_24 : decode cX4_livesThere 24 = .ok (.iconst 1, 1) := by decide +kernel
theorem dX4_livesThere_25 : decode cX4_livesThere 25 = .ok (.goto 4, 3) := by decide +kernel
theorem dX4_livesThere_28 : decode cX4_livesThere 28 = .ok (.iconst 0, 1) := by decide +kernel
theorem dX4_livesThere_29 : decode cX4_livesThere 29 = .ok (.ireturn, 1) := by decide +kernel
def vc_X4_livesThere (l0 : Nat) (l1 : Nat) (M : mj_M) (post : Bool → mj_M → Prop) : Prop := mj_tag M l0 = 5 ∧ mj_tag M l1 = 4 ∧ mj_tag M (mj_r M l0 4) = 101 ∧ vp_in (mj_i M l1 8) (mj_len M (mj_r M l0 4)) ∧ if (mj_i M (mj_r M l0 4) (mj_i M l1 8 : Int32).toNatClampNeg) = ((-6)) then (post false M) else (vc_X3_hasFloor l1 (mj_i M (mj_r M l0 4) (mj_i M l1 8 : Int32).toNatClampNeg) M (fun r6 M7 => if r6 = true then (post true M7) else (post false M7)))
set_option maxHeartbeats 4000000 in
set_option maxRecDepth 100000 in
theorem ct_X4_livesThere {l : Launch} {base : Nat} {D : va_G} {A : mj_AT} (l0 : Nat) (l1 : Nat) (M : mj_M) (post : Bool → mj_M → Prop) (h : vc_X4_livesThere l0 l1 M post) : mj_Met l base D A mj_jB yX4_livesThere cX4_livesThere 3 (some .boolean) rm_X4_livesThere 0 0 [vR l0, vR l1] M post := by
  refine mj_entry (by decide +kernel) (Nat.le_of_ble_eq_true rfl) (fun g hC hE h1 h2 h3 h4 => ?_)
  show mj_X g 0 [(0, vR l0), (1, vR l1)] [] M 0 0
  simp only [vc_X4_livesThere] at h
  refine mx_aload_n (j := 0) hC dX4_livesThere_0 rfl rfl ?_
  obtain ⟨ht1, h⟩ := h
  refine mx_get (v := vR (mj_r M l0 4)) hC tf_X4_9 ht1 rfl dX4_livesThere_1 ?_
  refine mx_aload_n (j := 1) hC dX4_livesThere_4 rfl rfl ?_
  obtain ⟨ht2, h⟩ := h
  refine mx_get (v := vI (mj_i M l1 8)) hC tf_X4_150 ht2 rfl dX4_livesThere_5 ?_
  obtain ⟨ht3, h⟩ := h
  obtain ⟨hi4, h⟩ := h
  refine mx_iaload hC ht3 hi4 dX4_livesThere_8 ?_
  refine mx_istore_n (L' := [(2, vI (mj_i M (mj_r M l0 4) (mj_i M l1 8 : Int32).toNatClampNeg)), (0, vR l0), (1, vR l1)]) hC dX4_livesThere_9 rfl (by decide) rfl ?_
  refine mx_iload_n (j := 0) hC dX4_livesThere_10 rfl rfl ?_
  refine mx_bipush (v := (-6)) hC dX4_livesThere_11 (by decide) ?_
  refine mx_icmpeq (tgt := 28) hC dX4_livesThere_13 (by decide) (fun hc5 => ?_) (fun hc5 => ?_)
  · replace h := mj_yy hc5 h
    refine mx_iconst (v := 0) hC dX4_livesThere_28 (by decide) ?_
    exact mx_zret (b := false) hC hE rfl dX4_livesThere_29 h
  · replace h := mj_nn hc5 h
    refine mx_aload_n (j := 2) hC dX4_livesThere_16 rfl rfl ?_
    refine mx_iload_n (j := 0) hC dX4_livesThere_17 rfl rfl ?_
    refine mx_callV (inj := mj_jB) (As := [vI (mj_i M (mj_r M l0 4) (mj_i M l1 8 : Int32).toNatClampNeg)]) (st := []) hC (ct_X3_hasFloor l1 (mj_i M (mj_r M l0 4) (mj_i M l1 8 : Int32).toNatClampNeg) M _ h) ty_X3_hasFloor tw435 ht2 rfl (Nat.le_of_ble_eq_true rfl) ⟨rfl, rfl, ⟨by decide, by decide⟩, by decide, by decide⟩ dX4_livesThere_18 (fun r6 M7 h => ?_)
    show mj_X g 21 [(2, vI (mj_i M (mj_r M l0 4) (mj_i M l1 8 : Int32).toNatClampNeg)), (0, vR l0), (1, vR l1)] [vI (mj_b r6)] M7 0 0
    refine mx_ifeqB (tgt := 28) hC dX4_livesThere_21 (by decide) (fun hc8 => ?_) (fun hc8 => ?_)
    · replace h := mj_nn hc8 h
      refine mx_iconst (v := 0) hC dX4_livesThere_28 (by decide) ?_
      exact mx_zret (b := false) hC hE rfl dX4_livesThere_29 h
    · replace h := mj_yy hc8 h
      refine mx_iconst (v := 1) hC dX4_livesThere_24 (by decide) ?_
      refine mx_goto (tgt := 29) hC dX4_livesThere_25 (by decide) ?_
      exact mx_zret (b := true) hC hE rfl dX4_livesThere_29 h
theorem tw677 : (Jvm.Cond.methodLink "LeaseLand$Land" (170 : Nat) ({ cls := "LeaseLand$Holding", name := "rateOn", desc := "(I)I" } : Jvm.MethodName)) ∈ mj_tbl := mj_w 683 (by decide +kernel) (by decide +kernel)
theorem tw682 : (Jvm.Cond.methodLink "LeaseLand$Land" (173 : Nat) ({ cls := "java/lang/Integer", name := "bitCount", desc := "(I)I" } : Jvm.MethodName)) ∈ mj_tbl := mj_w 688 (by decide +kernel) (by decide +kernel)
theorem tw688 : (Jvm.Cond.methodLink "LeaseLand$Land" (178 : Nat) ({ cls := "LeaseLand$Holding", name := "depth", desc := "()I" } : Jvm.MethodName)) ∈ mj_tbl := mj_w 694 (by decide +kernel) (by decide +kernel)
theorem tw692 : (Jvm.Cond.methodLink "LeaseLand$Land" (181 : Nat) ({ cls := "LeaseLand$Land", name := "livesThere", desc := "(LLeaseLand$Holding;)Z" } : Jvm.MethodName)) ∈ mj_tbl := mj_w 698 (by decide +kernel) (by decide +kernel)
theorem tw684 : (Jvm.Cond.code ({ cls := "java/lang/Integer", name := "bitCount", desc := "(I)I" } : Jvm.MethodName) prog_17_method_49_code (1 : Nat) (Option.some Jvm.ClassFile.FieldType.int)) ∈ mj_tbl := mj_w 690 (by decide +kernel) (by decide +kernel)
theorem tw20 : (Jvm.Cond.initialized "java/lang/Integer") ∈ mj_tbl := mj_w 26 (by decide +kernel) (by decide +kernel)
theorem tw683 : (Jvm.Cond.static ({ cls := "java/lang/Integer", name := "bitCount", desc := "(I)I" } : Jvm.MethodName)) ∈ mj_tbl := mj_w 689 (by decide +kernel) (by decide +kernel)
theorem ty_J6_bitCount_0f7a4 : mj_YS yJ6_bitCount_0f7a4 cJ6_bitCount_0f7a4 1 (some .int) 1 := ⟨⟨tw684, tw20, by decide +kernel, by decide +kernel, by decide +kernel⟩, tw683⟩
theorem tw691 : (Jvm.Cond.code ({ cls := "LeaseLand$Holding", name := "depth", desc := "()I" } : Jvm.MethodName) prog_5_method_8_code (3 : Nat) (Option.some Jvm.ClassFile.FieldType.int)) ∈ mj_tbl := mj_w 697 (by decide +kernel) (by decide +kernel)
theorem tw689 : (Jvm.Cond.instanceMethod ({ cls := "LeaseLand$Holding", name := "depth", desc := "()I" } : Jvm.MethodName)) ∈ mj_tbl := mj_w 695 (by decide +kernel) (by decide +kernel)
theorem tw690 : (Jvm.Cond.selects "LeaseLand$Holding" ({ cls := "LeaseLand$Holding", name := "depth", desc := "()I" } : Jvm.MethodName) ({ cls := "LeaseLand$Holding", name := "depth", desc := "()I" } : Jvm.MethodName)) ∈ mj_tbl := mj_w 696 (by decide +kernel) (by decide +kernel)
theorem ty_X3_depth : mj_YV 3 yX3_depth cX3_depth 3 (some .int) 0 := ⟨⟨tw691, tw11, by decide +kernel, by decide +kernel, by decide +kernel⟩, tw689, tw690, _, rfl, rfl⟩
theorem tw680 : (Jvm.Cond.code ({ cls := "LeaseLand$Holding", name := "rateOn", desc := "(I)I" } : Jvm.MethodName) prog_5_method_9_code (3 : Nat) (Option.some Jvm.ClassFile.FieldType.int)) ∈ mj_tbl := mj_w 686 (by decide +kernel) (by decide +kernel)
theorem tw678 : (Jvm.Cond.instanceMethod ({ cls := "LeaseLand$Holding", name := "rateOn", desc := "(I)I" } : Jvm.MethodName)) ∈ mj_tbl := mj_w 684 (by decide +kernel) (by decide +kernel)
theorem tw679 : (Jvm.Cond.selects "LeaseLand$Holding" ({ cls := "LeaseLand$Holding", name := "rateOn", desc := "(I)I" } : Jvm.MethodName) ({ cls := "LeaseLand$Holding", name := "rateOn", desc := "(I)I" } : Jvm.MethodName)) ∈ mj_tbl := mj_w 685 (by decide +kernel) (by decide +kernel)
theorem ty_X3_rateOn : mj_YV 3 yX3_rateOn cX3_rateOn 3 (some .int) 1 := ⟨⟨tw680, tw11, by decide +kernel, by decide +kernel, by decide +kernel⟩, tw678, tw679, _, rfl, rfl⟩
theorem tw695 : (Jvm.Cond.code ({ cls := "LeaseLand$Land", name := "livesThere", desc := "(LLeaseLand$Holding;)Z" } : Jvm.MethodName) prog_6_method_33_code (3 : Nat) (Option.some Jvm.ClassFile.FieldType.boolean)) ∈ mj_tbl := mj_w 701 (by decide +kernel) (by decide +kernel)
theorem tw693 : (Jvm.Cond.instanceMethod ({ cls := "LeaseLand$Land", name := "livesThere", desc := "(LLeaseLand$Holding;)Z" } : Jvm.MethodName)) ∈ mj_tbl := mj_w 699 (by decide +kernel) (by decide +kernel)
theorem tw694 : (Jvm.Cond.selects "LeaseLand$Land" ({ cls := "LeaseLand$Land", name := "livesThere", desc := "(LLeaseLand$Holding;)Z" } : Jvm.MethodName) ({ cls := "LeaseLand$Land", name := "livesThere", desc := "(LLeaseLand$Holding;)Z" } : Jvm.MethodName)) ∈ mj_tbl := mj_w 700 (by decide +kernel) (by decide +kernel)
theorem ty_X4_livesThere : mj_YV 4 yX4_livesThere cX4_livesThere 3 (some .boolean) 1 := ⟨⟨tw695, tw2, by decide +kernel, by decide +kernel, by decide +kernel⟩, tw693, tw694, _, rfl, rfl⟩
def rm_X4_measure : Room := { frames := 3, cells := 0, slots := 0, locals := 63 }
theorem dX4_measure_0 : decode cX4_measure 0 = .ok (.iload_n 2, 1) := by decide +kernel
theorem dX4_measure_1 : decode cX4_measure 1 = .ok (.tableswitch 134 102 116 #[121, 134, 100, 134, 134, 134, 75, 134, 134, 129, 134, 134, 115, 134, 86], 75) := by decide +kernel
theorem dX4_measure_76 : decode cX4_measure 76 = .ok (.aload_n 1, 1) := by decide +kernel
theorem dX4_measure_77 : decode cX4_measure 77 = .ok (.invokevirtual 84, 3) := by decide +kernel
theorem dX4_measure_80 : decode cX4_measure 80 = .ok (.iload_n 3, 1) := by decide +kernel
theorem dX4_measure_81 : decode cX4_measure 81 = .ok (.isub, 1) := by decide +kernel
theorem dX4_measure_82 : decode cX4_measure 82 = .ok (.sipush 365, 3) := by decide +kernel
theorem dX4_measure_85 : decode cX4_measure 85 = .ok (.idiv, 1) := by decide +kernel
theorem dX4_measure_86 : decode cX4_measure 86 = .ok (.ireturn, 1) := by decide +kernel
theorem dX4_measure_87 : decode cX4_measure 87 = .ok (.aload_n 1, 1) := by decide +kernel
theorem dX4_measure_88 : decode cX4_measure 88 = .ok (.getfield 88, 3) := by decide +kernel
theorem dX4_measure_91 : decode cX4_measure 91 = .ok (.aload_n 1, 1) := by decide +kernel
theorem dX4_measure_92 : decode cX4_measure 92 = .ok (.getfield 75, 3) := by decide +kernel
theorem dX4_measure_95 : decode cX4_measure 95 = .ok (.isub, 1) := by decide +kernel
theorem dX4_measure_96 : decode cX4_measure 96 = .ok (.sipush 365, 3) := by decide +kernel
theorem dX4_measure_99 : decode cX4_measure 99 = .ok (.idiv, 1) := by decide +kernel
theorem dX4_measure_100 : decode cX4_measure 100 = .ok (.ireturn, 1) := by decide +kernel
theorem dX4_measure_101 : decode cX4_measure 101 = .ok (.iconst 0, 1) := by decide +kernel
theorem dX4_measure_102 : decode cX4_measure 102 = .ok (.iload_n 3, 1) := by decide +kernel
theorem dX4_measure_103 : decode cX4_measure 103 = .ok (.aload_n 1, 1) := by decide +kernel
theorem dX4_measure_104 : decode cX4_measure 104 = .ok (.getfield 153, 3) := by decide +kernel
theorem dX4_measure_107 : decode cX4_measure 107 = .ok (.isub, 1) := by decide +kernel
theorem dX4_measure_108 : decode cX4_measure 108 = .ok (.invokestatic 78, 3) := by decide +kernel
theorem dX4_measure_111 : decode cX4_measure 111 = .ok (.sipush 365, 3) := by decide +kernel
theorem dX4_measure_114 : decode cX4_measure 114 = .ok (.idiv, 1) := by decide +kernel
theorem dX4_measure_115 : decode cX4_measure 115 = .ok (.ireturn, 1) := by decide +kernel
theorem dX4_measure_116 : decode cX4_measure 116 = .ok (.aload_n 1, 1) := by decide +kernel
theorem dX4_measure_117 : decode cX4_measure 117 = .ok (.iload_n 3, 1) := by decide +kernel
theorem dX4_measure_118 : decode cX4_measure 118 = .ok (.invokevirtual 170, 3) := by decide +kernel
theorem dX4_measure_121 : decode cX4_measure 121 = .ok (.ireturn, 1) := by decide +kernel
theorem dX4_measure_122 : decode cX4_measure 122 = .ok (.aload_n 1, 1) := by decide +kernel
theorem dX4_measure_123 : decode cX4_measure 123 = .ok (.getfield 57, 3) := by decide +kernel
theorem dX4_measure_126 : decode cX4_measure 126 = .ok (.invokestatic 173, 3) := by decide +kernel
theorem dX4_measure_129 : decode cX4_measure 129 = .ok (.ireturn, 1) := by decide +kernel
theorem dX4_measure_130 : decode cX4_measure 130 = .ok (.aload_n 1, 1) := by decide +kernel
theorem dX4_measure_131 : decode cX4_measure 131 = .ok (.invokevirtual 178, 3) := by decide +kernel
theorem dX4_measure_134 : decode cX4_measure 134 = .ok (.ireturn, 1) := by decide +kernel
theorem dX4_measure_135 : decode cX4_measure 135 = .ok (.aload_n 0, 1) := by decide +kernel
theorem dX4_measure_136 : decode cX4_measure 136 = .ok (.aload_n 1, 1) := by decide +kernel
theorem dX4_measure_137 : decode cX4_measure 137 = .ok (.invokevirtual 181, 3) := by decide +kernel
theorem dX4_measure_140 : decode cX4_measure 140 = .ok (.ifCond .eq 7, 3) := by decide +kernel
theorem dX4_measure_143 : decode cX4_measure 143 = .ok (.iconst 1, 1) := by decide +kernel
theorem dX4_measure_144 : decode cX4_measure 144 = .ok (.goto 4, 3) := by decide +kernel
theorem dX4_measure_147 : decode cX4_measure 147 = .ok (.iconst 0, 1) := by decide +kernel
theorem dX4_measure_148 : decode cX4_measure 148 = .ok (.ireturn, 1) := by decide +kernel
def vc_X4_measure (l0 : Nat) (l1 : Nat) (l2 : Int32) (l3 : Int32) (M : mj_M) (post : Int32 → mj_M → Prop) : Prop := if l2 = 102 then (mj_tag M l1 = 4 ∧ vc_J6_bitCount_0f7a4 (mj_i M l1 3) M (fun r3 M4 => post r3 M4)) else (if l2 = 104 then (mj_tag M l1 = 4 ∧ vc_J9_max_7cf53 0 (l3 - (mj_i M l1 9)) M (fun r7 M8 => post (r7 / 365) M8)) else (if l2 = 108 then (mj_tag M l1 = 4 ∧ vc_X3_until l1 M (fun r11 M12 => post ((r11 - l3) / 365) M12)) else (if l2 = 111 then (mj_tag M l1 = 4 ∧ vc_X3_depth l1 M (fun r15 M16 => post r15 M16)) else (if l2 = 114 then (mj_tag M l1 = 4 ∧ vc_X3_rateOn l1 l3 M (fun r19 M20 => post r19 M20)) else (if l2 = 116 then (mj_tag M l1 = 4 ∧ post (((mj_i M l1 5) - (mj_i M l1 4)) / 365) M) else (mj_tag M l0 = 5 ∧ vc_X4_livesThere l0 l1 M (fun r24 M25 => if r24 = true then (post 1 M25) else (post 0 M25))))))))
set_option maxHeartbeats 4000000 in
set_option maxRecDepth 100000 in
theorem ct_X4_measure {l : Launch} {base : Nat} {D : va_G} {A : mj_AT} (l0 : Nat) (l1 : Nat) (l2 : Int32) (l3 : Int32) (M : mj_M) (post : Int32 → mj_M → Prop) (h : vc_X4_measure l0 l1 l2 l3 M post) : mj_Met l base D A mj_jI yX4_measure cX4_measure 4 (some .int) rm_X4_measure 0 0 [vR l0, vR l1, vI l2, vI l3] M post := by
  refine mj_entry (by decide +kernel) (Nat.le_of_ble_eq_true rfl) (fun g hC hE h1 h2 h3 h4 => ?_)
  show mj_X g 0 [(0, vR l0), (1, vR l1), (2, vI l2), (3, vI l3)] [] M 0 0
  simp only [vc_X4_measure] at h
  refine mx_iload_n (j := 2) hC dX4_measure_0 rfl rfl ?_
  by_cases hc1 : l2 = 102
  · replace h := mj_yy hc1 h
    refine mx_tsin (v := 102) (off := 121) (tgt := 122) hC dX4_measure_1 hc1 (by decide) (by decide) (by decide) (by decide) ?_
    refine mx_aload_n (j := 1) hC dX4_measure_122 rfl rfl ?_
    obtain ⟨ht2, h⟩ := h
    refine mx_get (v := vI (mj_i M l1 3)) hC tf_X4_57 ht2 rfl dX4_measure_123 ?_
    refine mx_callS (inj := mj_jI) (As := [vI (mj_i M l1 3)]) (st := []) hC (ct_J6_bitCount_0f7a4 (mj_i M l1 3) M _ h) ty_J6_bitCount_0f7a4 tw682 rfl (Nat.le_of_ble_eq_true rfl) ⟨rfl, rfl, ⟨by decide, by decide⟩, by decide, by decide⟩ dX4_measure_126 (fun r3 M4 h => ?_)
    show mj_X g 129 [(0, vR l0), (1, vR l1), (2, vI l2), (3, vI l3)] [vI r3] M4 0 0
    exact mx_iret hC hE rfl dX4_measure_129 h
  replace h := mj_nn hc1 h
  by_cases hc5 : l2 = 104
  · replace h := mj_yy hc5 h
    refine mx_tsin (v := 104) (off := 100) (tgt := 101) hC dX4_measure_1 hc5 (by decide) (by decide) (by decide) (by decide) ?_
    refine mx_iconst (v := 0) hC dX4_measure_101 (by decide) ?_
    refine mx_iload_n (j := 3) hC dX4_measure_102 rfl rfl ?_
    refine mx_aload_n (j := 1) hC dX4_measure_103 rfl rfl ?_
    obtain ⟨ht6, h⟩ := h
    refine mx_get (v := vI (mj_i M l1 9)) hC tf_X4_153 ht6 rfl dX4_measure_104 ?_
    refine mx_isub hC dX4_measure_107 ?_
    refine mx_callS (inj := mj_jI) (As := [vI 0, vI (l3 - (mj_i M l1 9))]) (st := []) hC (ct_J9_max_7cf53 0 (l3 - (mj_i M l1 9)) M _ h) ty_J9_max_7cf53 tw676 rfl (Nat.le_of_ble_eq_true rfl) ⟨rfl, rfl, ⟨by decide, by decide⟩, by decide, by decide⟩ dX4_measure_108 (fun r7 M8 h => ?_)
    show mj_X g 111 [(0, vR l0), (1, vR l1), (2, vI l2), (3, vI l3)] [vI r7] M8 0 0
    refine mx_sipush (v := 365) hC dX4_measure_111 (by decide) ?_
    refine mx_idiv hC dX4_measure_114 (by decide) ?_
    exact mx_iret hC hE rfl dX4_measure_115 h
  replace h := mj_nn hc5 h
  by_cases hc9 : l2 = 108
  · replace h := mj_yy hc9 h
    refine mx_tsin (v := 108) (off := 75) (tgt := 76) hC dX4_measure_1 hc9 (by decide) (by decide) (by decide) (by decide) ?_
    refine mx_aload_n (j := 1) hC dX4_measure_76 rfl rfl ?_
    obtain ⟨ht10, h⟩ := h
    refine mx_callV (inj := mj_jI) (As := []) (st := []) hC (ct_X3_until l1 M _ h) ty_X3_until tw675 ht10 rfl (Nat.le_of_ble_eq_true rfl) ⟨rfl, rfl, ⟨by decide, by decide⟩, by decide, by decide⟩ dX4_measure_77 (fun r11 M12 h => ?_)
    show mj_X g 80 [(0, vR l0), (1, vR l1), (2, vI l2), (3, vI l3)] [vI r11] M12 0 0
    refine mx_iload_n (j := 3) hC dX4_measure_80 rfl rfl ?_
    refine mx_isub hC dX4_measure_81 ?_
    refine mx_sipush (v := 365) hC dX4_measure_82 (by decide) ?_
    refine mx_idiv hC dX4_measure_85 (by decide) ?_
    exact mx_iret hC hE rfl dX4_measure_86 h
  replace h := mj_nn hc9 h
  by_cases hc13 : l2 = 111
  · replace h := mj_yy hc13 h
    refine mx_tsin (v := 111) (off := 129) (tgt := 130) hC dX4_measure_1 hc13 (by decide) (by decide) (by decide) (by decide) ?_
    refine mx_aload_n (j := 1) hC dX4_measure_130 rfl rfl ?_
    obtain ⟨ht14, h⟩ := h
    refine mx_callV (inj := mj_jI) (As := []) (st := []) hC (ct_X3_depth l1 M _ h) ty_X3_depth tw688 ht14 rfl (Nat.le_of_ble_eq_true rfl) ⟨rfl, rfl, ⟨by decide, by decide⟩, by decide, by decide⟩ dX4_measure_131 (fun r15 M16 h => ?_)
    show mj_X g 134 [(0, vR l0), (1, vR l1), (2, vI l2), (3, vI l3)] [vI r15] M16 0 0
    exact mx_iret hC hE rfl dX4_measure_134 h
  replace h := mj_nn hc13 h
  by_cases hc17 : l2 = 114
  · replace h := mj_yy hc17 h
    refine mx_tsin (v := 114) (off := 115) (tgt := 116) hC dX4_measure_1 hc17 (by decide) (by decide) (by decide) (by decide) ?_
    refine mx_aload_n (j := 1) hC dX4_measure_116 rfl rfl ?_
    refine mx_iload_n (j := 3) hC dX4_measure_117 rfl rfl ?_
    obtain ⟨ht18, h⟩ := h
    refine mx_callV (inj := mj_jI) (As := [vI l3]) (st := []) hC (ct_X3_rateOn l1 l3 M _ h) ty_X3_rateOn tw677 ht18 rfl (Nat.le_of_ble_eq_true rfl) ⟨rfl, rfl, ⟨by decide, by decide⟩, by decide, by decide⟩ dX4_measure_118 (fun r19 M20 h => ?_)
    show mj_X g 121 [(0, vR l0), (1, vR l1), (2, vI l2), (3, vI l3)] [vI r19] M20 0 0
    exact mx_iret hC hE rfl dX4_measure_121 h
  replace h := mj_nn hc17 h
  by_cases hc21 : l2 = 116
  · replace h := mj_yy hc21 h
    refine mx_tsin (v := 116) (off := 86) (tgt := 87) hC dX4_measure_1 hc21 (by decide) (by decide) (by decide) (by decide) ?_
    refine mx_aload_n (j := 1) hC dX4_measure_87 rfl rfl ?_
    obtain ⟨ht22, h⟩ := h
    refine mx_get (v := vI (mj_i M l1 5)) hC tf_X4_88 ht22 rfl dX4_measure_88 ?_
    refine mx_aload_n (j := 1) hC dX4_measure_91 rfl rfl ?_
    refine mx_get (v := vI (mj_i M l1 4)) hC tf_X4_75 ht22 rfl dX4_measure_92 ?_
    refine mx_isub hC dX4_measure_95 ?_
    refine mx_sipush (v := 365) hC dX4_measure_96 (by decide) ?_
    refine mx_idiv hC dX4_measure_99 (by decide) ?_
    exact mx_iret hC hE rfl dX4_measure_100 h
  replace h := mj_nn hc21 h
  refine mx_tsout (vs := [102, 104, 108, 111, 114, 116]) (tgt := 135) hC dX4_measure_1 (by decide) (by decide) (List.forall_mem_cons.mpr ⟨hc1, (List.forall_mem_cons.mpr ⟨hc5, (List.forall_mem_cons.mpr ⟨hc9, (List.forall_mem_cons.mpr ⟨hc13, (List.forall_mem_cons.mpr ⟨hc17, (List.forall_mem_cons.mpr ⟨hc21, (fun _ q => absurd q List.not_mem_nil)⟩)⟩)⟩)⟩)⟩)⟩) ?_
  refine mx_aload_n (j := 0) hC dX4_measure_135 rfl rfl ?_
  refine mx_aload_n (j := 1) hC dX4_measure_136 rfl rfl ?_
  obtain ⟨ht23, h⟩ := h
  refine mx_callV (inj := mj_jB) (As := [vR l1]) (st := []) hC (ct_X4_livesThere l0 l1 M _ h) ty_X4_livesThere tw692 ht23 rfl (Nat.le_of_ble_eq_true rfl) ⟨rfl, rfl, ⟨by decide, by decide⟩, by decide, by decide⟩ dX4_measure_137 (fun r24 M25 h => ?_)
  show mj_X g 140 [(0, vR l0), (1, vR l1), (2, vI l2), (3, vI l3)] [vI (mj_b r24)] M25 0 0
  refine mx_ifeqB (tgt := 147) hC dX4_measure_140 (by decide) (fun hc26 => ?_) (fun hc26 => ?_)
  · replace h := mj_nn hc26 h
    refine mx_iconst (v := 0) hC dX4_measure_147 (by decide) ?_
    exact mx_iret hC hE rfl dX4_measure_148 h
  · replace h := mj_yy hc26 h
    refine mx_iconst (v := 1) hC dX4_measure_143 (by decide) ?_
    refine mx_goto (tgt := 148) hC dX4_measure_144 (by decide) ?_
    exact mx_iret hC hE rfl dX4_measure_148 h
theorem tw154 : (Jvm.Cond.fieldLink "LeaseLand$Market" (15 : Nat) "LeaseLand$Market" "years" "[I") ∈ mj_tbl := mj_w 160 (by decide +kernel) (by decide +kernel)
theorem tk5 : mj_KC 5 (RX5, TX5, 10, tyX5) := ⟨rfl, fun w hw => List.mem_filter.mpr ⟨(goodIn_r (big := lw_tbl) (u_ws RX5 TX5 10) [172, 174, 176, 178, 180, 182, 184, 186, 188, 190] (by decide +kernel) (by decide +kernel) w hw).1, List.all_eq_true.mp (show (u_ws RX5 TX5 10).all goodWord = true by decide +kernel) w hw⟩, tyX5_ok, nmX5, by decide⟩
theorem tf_X5_15 : mj_F 5 1 (.array .int) true "LeaseLand$Market" 15 := ⟨_, tk5, by decide, rfl, rfl, rfl, tw154⟩
theorem tw155 : (Jvm.Cond.fieldLink "LeaseLand$Market" (18 : Nat) "LeaseLand$Market" "parts" "[I") ∈ mj_tbl := mj_w 161 (by decide +kernel) (by decide +kernel)
theorem tf_X5_18 : mj_F 5 2 (.array .int) true "LeaseLand$Market" 18 := ⟨_, tk5, by decide, rfl, rfl, rfl, tw155⟩
theorem tw157 : (Jvm.Cond.fieldLink "LeaseLand$Market" (21 : Nat) "LeaseLand$Market" "purchase" "I") ∈ mj_tbl := mj_w 163 (by decide +kernel) (by decide +kernel)
theorem tf_X5_21 : mj_F 5 4 .int false "LeaseLand$Market" 21 := ⟨_, tk5, by decide, rfl, rfl, rfl, tw157⟩
theorem tw158 : (Jvm.Cond.fieldLink "LeaseLand$Market" (25 : Nat) "LeaseLand$Market" "defer" "I") ∈ mj_tbl := mj_w 164 (by decide +kernel) (by decide +kernel)
theorem tf_X5_25 : mj_F 5 5 .int false "LeaseLand$Market" 25 := ⟨_, tk5, by decide, rfl, rfl, rfl, tw158⟩
theorem tw153 : (Jvm.Cond.fieldLink "LeaseLand$Market" (9 : Nat) "LeaseLand$Market" "values" "[I") ∈ mj_tbl := mj_w 159 (by decide +kernel) (by decide +kernel)
theorem tf_X5_9 : mj_F 5 0 (.array .int) true "LeaseLand$Market" 9 := ⟨_, tk5, by decide, rfl, rfl, rfl, tw153⟩
theorem tw152 : (Jvm.Cond.methodLink "LeaseLand$Market" (3 : Nat) ({ cls := "java/lang/Object", name := "<init>", desc := "()V" } : Jvm.MethodName)) ∈ mj_tbl := mj_w 158 (by decide +kernel) (by decide +kernel)
def rm_X5_init : Room := { frames := 1, cells := 3, slots := 32, locals := 20 }
theorem dX5_init_0 : decode cX5_init 0 = .ok (.aload_n 0, 1) := by decide +kernel
theorem dX5_init_1 : decode cX5_init 1 = .ok (.invokespecial 3, 3) := by decide +kernel
theorem dX5_init_4 : decode cX5_init 4 = .ok (.aload_n 0, 1) := by decide +kernel
theorem dX5_init_5 : decode cX5_init 5 = .ok (.bipush 12, 2) := by decide +kernel
theorem dX5_init_7 : decode cX5_init 7 = .ok (.newarray .int, 2) := by decide +kernel
theorem dX5_init_9 : decode cX5_init 9 = .ok (.putfield 9, 3) := by decide +kernel
theorem dX5_init_12 : decode cX5_init 12 = .ok (.aload_n 0, 1) := by decide +kernel
theorem dX5_init_13 : decode cX5_init 13 = .ok (.bipush 10, 2) := by decide +kernel
theorem dX5_init_15 : decode cX5_init 15 = .ok (.newarray .int, 2) := by decide +kernel
theorem dX5_init_17 : decode cX5_init 17 = .ok (.putfield 15, 3) := by decide +kernel
theorem dX5_init_20 : decode cX5_init 20 = .ok (.aload_n 0, 1) := by decide +kernel
theorem dX5_init_21 : decode cX5_init 21 = .ok (.bipush 10, 2) := by decide +kernel
theorem dX5_init_23 : decode cX5_init 23 = .ok (.newarray .int, 2) := by decide +kernel
theorem dX5_init_25 : decode cX5_init 25 = .ok (.putfield 18, 3) := by decide +kernel
theorem dX5_init_28 : decode cX5_init 28 = .ok (.aload_n 0, 1) := by decide +kernel
theorem dX5_init_29 : decode cX5_init 29 = .ok (.bipush 100, 2) := by decide +kernel
theorem dX5_init_31 : decode cX5_init 31 = .ok (.putfield 21, 3) := by decide +kernel
theorem dX5_init_34 : decode cX5_init 34 = .ok (.aload_n 0, 1) := by decide +kernel
theorem dX5_init_35 : decode cX5_init 35 = .ok (.bipush 50, 2) := by decide +kernel
theorem dX5_init_37 : decode cX5_init 37 = .ok (.putfield 25, 3) := by decide +kernel
theorem dX5_init_40 : decode cX5_init 40 = .ok (.return_, 1) := by decide +kernel
def vc_X5_init (l0 : Nat) (M : mj_M) (post : Unit → mj_M → Prop) : Prop := (¬ l0 = 0) ∧ ∀ M2 : mj_M, M2 = mj_newa M 101 12 → mj_tag M2 l0 = 6 ∧ ∀ M5 : mj_M, M5 = mj_newa (mj_wr M2 l0 0 (mj_nx M)) 101 10 → mj_tag M5 l0 = 6 ∧ ∀ M8 : mj_M, M8 = mj_newa (mj_wr M5 l0 1 (mj_nx M2)) 101 10 → mj_tag M8 l0 = 6 ∧ post () (mj_wi (mj_wi (mj_wr M8 l0 2 (mj_nx M5)) l0 4 100) l0 5 50)
set_option maxHeartbeats 4000000 in
set_option maxRecDepth 100000 in
theorem ct_X5_init {l : Launch} {base : Nat} {D : va_G} {A : mj_AT} (l0 : Nat) (M : mj_M) (post : Unit → mj_M → Prop) (h : vc_X5_init l0 M post) : mj_Met l base D A mj_jV yX5_init cX5_init 1 (none) rm_X5_init 3 32 [vR l0] M post := by
  refine mj_entry (by decide +kernel) (Nat.le_of_ble_eq_true rfl) (fun g hC hE h1 h2 h3 h4 => ?_)
  show mj_X g 0 [(0, vR l0)] [] M 0 0
  simp only [vc_X5_init] at h
  refine mx_aload_n (j := 0) hC dX5_init_0 rfl rfl ?_
  obtain ⟨hn1, h⟩ := h
  refine mx_oinit hC tw152 tw_oi tw_oc hn1 (Nat.le_of_ble_eq_true rfl) ⟨by decide, by decide⟩ dX5_init_1 ?_
  refine mx_aload_n (j := 0) hC dX5_init_4 rfl rfl ?_
  refine mx_bipush (v := 12) hC dX5_init_5 (by decide) ?_
  refine mx_newi (N := 12) (k' := 1) (n' := 12) hC tw59 (by decide) (by decide) (by decide) ⟨rfl, by decide, by decide, by decide⟩ dX5_init_7 ?_
  obtain ⟨M2, eM2⟩ : ∃ z : mj_M, z = mj_newa M 101 12 := ⟨_, rfl⟩
  replace h := h M2 eM2
  have ht3 : mj_tag M2 (mj_nx M) = 101 := by rw [eM2]; exact mj_u1_at _
  refine mx_setM eM2.symm ?_
  obtain ⟨ht4, h⟩ := h
  refine mx_put (v := vR (mj_nx M)) (M1 := mj_wr M2 l0 0 (mj_nx M)) hC tf_X5_9 ht4 (Or.inr ⟨rfl, rfl⟩) (mj_fitA (mj_nx M) _) (mj_off_wr _ _ _ _) mj_put_wa dX5_init_9 ?_
  refine mx_aload_n (j := 0) hC dX5_init_12 rfl rfl ?_
  refine mx_bipush (v := 10) hC dX5_init_13 (by decide) ?_
  refine mx_newi (N := 10) (k' := 2) (n' := 22) hC tw59 (by decide) (by decide) (by decide) ⟨rfl, by decide, by decide, by decide⟩ dX5_init_15 ?_
  obtain ⟨M5, eM5⟩ : ∃ z : mj_M, z = mj_newa (mj_wr M2 l0 0 (mj_nx M)) 101 10 := ⟨_, rfl⟩
  replace h := h M5 eM5
  have ht6 : mj_tag M5 (mj_nx M2) = 101 := by rw [eM5]; exact mj_u1_at _
  refine mx_setM eM5.symm ?_
  obtain ⟨ht7, h⟩ := h
  refine mx_put (v := vR (mj_nx M2)) (M1 := mj_wr M5 l0 1 (mj_nx M2)) hC tf_X5_15 ht7 (Or.inr ⟨rfl, rfl⟩) (mj_fitA (mj_nx M2) _) (mj_off_wr _ _ _ _) mj_put_wa dX5_init_17 ?_
  refine mx_aload_n (j := 0) hC dX5_init_20 rfl rfl ?_
  refine mx_bipush (v := 10) hC dX5_init_21 (by decide) ?_
  refine mx_newi (N := 10) (k' := 3) (n' := 32) hC tw59 (by decide) (by decide) (by decide) ⟨rfl, by decide, by decide, by decide⟩ dX5_init_23 ?_
  obtain ⟨M8, eM8⟩ : ∃ z : mj_M, z = mj_newa (mj_wr M5 l0 1 (mj_nx M2)) 101 10 := ⟨_, rfl⟩
  replace h := h M8 eM8
  have ht9 : mj_tag M8 (mj_nx M5) = 101 := by rw [eM8]; exact mj_u1_at _
  refine mx_setM eM8.symm ?_
  obtain ⟨ht10, h⟩ := h
  refine mx_put (v := vR (mj_nx M5)) (M1 := mj_wr M8 l0 2 (mj_nx M5)) hC tf_X5_18 ht10 (Or.inr ⟨rfl, rfl⟩) (mj_fitA (mj_nx M5) _) (mj_off_wr _ _ _ _) mj_put_wa dX5_init_25 ?_
  refine mx_aload_n (j := 0) hC dX5_init_28 rfl rfl ?_
  refine mx_bipush (v := 100) hC dX5_init_29 (by decide) ?_
  refine mx_put (v := vI 100) (M1 := mj_wi (mj_wr M8 l0 2 (mj_nx M5)) l0 4 100) hC tf_X5_21 ht10 (Or.inl rfl) ⟨rfl, rfl⟩ (mj_off_wi _ _ _ _) mj_put_wi dX5_init_31 ?_
  refine mx_aload_n (j := 0) hC dX5_init_34 rfl rfl ?_
  refine mx_bipush (v := 50) hC dX5_init_35 (by decide) ?_
  refine mx_put (v := vI 50) (M1 := mj_wi (mj_wi (mj_wr M8 l0 2 (mj_nx M5)) l0 4 100) l0 5 50) hC tf_X5_25 ht10 (Or.inl rfl) ⟨rfl, rfl⟩ (mj_off_wi _ _ _ _) mj_put_wi dX5_init_37 ?_
  exact mx_vret hC hE rfl dX5_init_40 h
theorem tw156 : (Jvm.Cond.fieldLink "LeaseLand$Market" (28 : Nat) "LeaseLand$Market" "count" "I") ∈ mj_tbl := mj_w 162 (by decide +kernel) (by decide +kernel)
theorem tf_X5_28 : mj_F 5 3 .int false "LeaseLand$Market" 28 := ⟨_, tk5, by decide, rfl, rfl, rfl, tw156⟩
def rm_X5_tableAt : Room := { frames := 0, cells := 0, slots := 0, locals := 0 }
theorem dX5_tableAt_0 : decode cX5_tableAt 0 = .ok (.aload_n 0, 1) := by decide +kernel
theorem dX5_tableAt_1 : decode cX5_tableAt 1 = .ok (.getfield 28, 3) := by decide +kernel
theorem dX5_tableAt_4 : decode cX5_tableAt 4 = .ok (.ifCond .ne 7, 3) := by decide +kernel
theorem dX5_tableAt_7 : decode cX5_tableAt 7 = .ok (.sipush 10000, 3) := by decide +kernel
theorem dX5_tableAt_10 : decode cX5_tableAt 10 = .ok (.ireturn, 1) := by decide +kernel
theorem dX5_tableAt_11 : decode cX5_tableAt 11 = .ok (.iconst 0, 1) := by decide +kernel
theorem dX5_tableAt_12 : decode cX5_tableAt 12 = .ok (.istore_n 2, 1) := by decide +kernel
theorem dX5_tableAt_13 : decode cX5_tableAt 13 = .ok (.iconst 0, 1) := by decide +kernel
theorem dX5_tableAt_14 : decode cX5_tableAt 14 = .ok (.istore_n 3, 1) := by decide +kernel
theorem dX5_tableAt_15 : decode cX5_tableAt 15 = .ok (.iconst 0, 1) := by decide +kernel
theorem dX5_tableAt_16 : decode cX5_tableAt 16 = .ok (.istore 4, 2) := by decide +kernel
theorem dX5_tableAt_18 : decode cX5_tableAt 18 = .ok (.iload 4, 2) := by decide +kernel
theorem dX5_tableAt_20 : decode cX5_tableAt 20 = .ok (.aload_n 0, 1) := by decide +kernel
theorem dX5_tableAt_21 : decode cX5_tableAt 21 = .ok (.getfield 28, 3) := by decide +kernel
theorem dX5_tableAt_24 : decode cX5_tableAt 24 = .ok (.if_icmp .ge 79, 3) := by decide +kernel
theorem dX5_tableAt_27 : decode cX5_tableAt 27 = .ok (.aload_n 0, 1) := by decide +kernel
theorem dX5_tableAt_28 : decode cX5_tableAt 28 = .ok (.getfield 15, 3) := by decide +kernel
theorem dX5_tableAt_31 : decode cX5_tableAt 31 = .ok (.iload 4, 2) := by decide +kernel
theorem dX5_tableAt_33 : decode cX5_tableAt 33 = .ok (.iaload, 1) := by decide +kernel
theorem dX5_tableAt_34 : decode cX5_tableAt 34 = .ok (.iload_n 2, 1) := by decide +kernel
theorem dX5_tableAt_35 : decode cX5_tableAt 35 = .ok (.isub, 1) := by decide +kernel
theorem dX5_tableAt_36 : decode cX5_tableAt 36 = .ok (.istore 5, 2) := by decide +kernel
theorem dX5_tableAt_38 : decode cX5_tableAt 38 = .ok (.iload_n 1, 1) := by decide +kernel
theorem dX5_tableAt_39 : decode cX5_tableAt 39 = .ok (.aload_n 0, 1) := by decide +kernel
theorem dX5_tableAt_40 : decode cX5_tableAt 40 = .ok (.getfield 15, 3) := by decide +kernel
theorem dX5_tableAt_43 : decode cX5_tableAt 43 = .ok (.iload 4, 2) := by decide +kernel
theorem dX5_tableAt_45 : decode cX5_tableAt 45 = .ok (.iaload, 1) := by decide +kernel
theorem dX5_tableAt_46 : decode cX5_tableAt 46 = .ok (.if_icmp .gt 35, 3) := by decide +kernel
theorem dX5_tableAt_49 : decode cX5_tableAt 49 = .ok (.iload 5, 2) := by decide +kernel
theorem dX5_tableAt_51 : decode cX5_tableAt 51 = .ok (.ifCond .le 30, 3) := by decide +kernel
theorem dX5_tableAt_54 : decode cX5_tableAt 54 = .ok (.iload_n 3, 1) := by decide +kernel
theorem dX5_tableAt_55 : decode cX5_tableAt 55 = .ok (.aload_n 0, 1) := by decide +kernel
theorem dX5_tableAt_56 : decode cX5_tableAt 56 = .ok (.getfield 15, 3) := by decide +kernel
theorem dX5_tableAt_59 : decode cX5_tableAt 59 = .ok (.iload 4, 2) := by decide +kernel
theorem dX5_tableAt_61 : decode cX5_tableAt 61 = .ok (.iaload, 1) := by decide +kernel
theorem dX5_tableAt_62 : decode cX5_tableAt 62 = .ok (.iload_n 1, 1) := by decide +kernel
theorem dX5_tableAt_63 : decode cX5_tableAt 63 = .ok (.isub, 1) := by decide +kernel
theorem dX5_tableAt_64 : decode cX5_tableAt 64 = .ok (.imul, 1) := by decide +kernel
theorem dX5_tableAt_65 : decode cX5_tableAt 65 = .ok (.aload_n 0, 1) := by decide +kernel
theorem dX5_tableAt_66 : decode cX5_tableAt 66 = .ok (.getfield 18, 3) := by decide +kernel
theorem dX5_tableAt_69 : decode cX5_tableAt 69 = .ok (.iload 4, 2) := by decide +kernel
theorem dX5_tableAt_71 : decode cX5_tableAt 71 = .ok (.iaload, 1) := by decide +kernel
theorem dX5_tableAt_72 : decode cX5_tableAt 72 = .ok (.iload_n 1, 1) := by decide +kernel
theorem dX5_tableAt_73 : decode cX5_tableAt 73 = .ok (.iload_n 2, 1) := by decide +kernel
theorem dX5_tableAt_74 : decode cX5_tableAt 74 = .ok (.isub, 1) := by decide +kernel
theorem dX5_tableAt_75 : decode cX5_tableAt 75 = .ok (.imul, 1) := by decide +kernel
theorem dX5_tableAt_76 : decode cX5_tableAt 76 = .ok (.iadd, 1) := by decide +kernel
theorem dX5_tableAt_77 : decode cX5_tableAt 77 = .ok (.iload 5, 2) := by decide +kernel
theorem dX5_tableAt_79 : decode cX5_tableAt 79 = .ok (.idiv, 1) := by decide +kernel
theorem dX5_tableAt_80 : decode cX5_tableAt 80 = .ok (.ireturn, 1) := by decide +kernel
theorem dX5_tableAt_81 : decode cX5_tableAt 81 = .ok (.aload_n 0, 1) := by decide +kernel
theorem dX5_tableAt_82 : decode cX5_tableAt 82 = .ok (.getfield 15, 3) := by decide +kernel
theorem dX5_tableAt_85 : decode cX5_tableAt 85 = .ok (.iload 4, 2) := by decide +kernel
theorem dX5_tableAt_87 : decode cX5_tableAt 87 = .ok (.iaload, 1) := by decide +kernel
theorem dX5_tableAt_88 : decode cX5_tableAt 88 = .ok (.istore_n 2, 1) := by decide +kernel
theorem dX5_tableAt_89 : decode cX5_tableAt 89 = .ok (.aload_n 0, 1) := by decide +kernel
theorem dX5_tableAt_90 : decode cX5_tableAt 90 = .ok (.getfield 18, 3) := by decide +kernel
theorem dX5_tableAt_93 : decode cX5_tableAt 93 = .ok (.iload 4, 2) := by decide +kernel
theorem dX5_tableAt_95 : decode cX5_tableAt 95 = .ok (.iaload, 1) := by decide +kernel
theorem dX5_tableAt_96 : decode cX5_tableAt 96 = .ok (.istore_n 3, 1) := by decide +kernel
theorem dX5_tableAt_97 : decode cX5_tableAt 97 = .ok (.iinc 4 1, 3) := by decide +kernel
theorem dX5_tableAt_100 : decode cX5_tableAt 100 = .ok (.goto (-82), 3) := by decide +kernel
theorem dX5_tableAt_103 : decode cX5_tableAt 103 = .ok (.iload_n 3, 1) := by decide +kernel
theorem dX5_tableAt_104 : decode cX5_tableAt 104 = .ok (.ireturn, 1) := by decide +kernel
def vb_X5_tableAt_81 (k18 : Nat → Int32 → Int32 → Int32 → Int32 → mj_M → Prop) (post : Int32 → mj_M → Prop) (l0 : Nat) (l1 : Int32) (l4 : Int32) (M : mj_M) : Prop := mj_tag M l0 = 6 ∧ mj_tag M (mj_r M l0 1) = 101 ∧ vp_in l4 (mj_len M (mj_r M l0 1)) ∧ mj_tag M (mj_r M l0 2) = 101 ∧ vp_in l4 (mj_len M (mj_r M l0 2)) ∧ k18 l0 l1 (mj_i M (mj_r M l0 1) (l4 : Int32).toNatClampNeg) (mj_i M (mj_r M l0 2) (l4 : Int32).toNatClampNeg) (l4 + 1) M
def vb_X5_tableAt_18 (post : Int32 → mj_M → Prop) : Nat → Nat → Int32 → Int32 → Int32 → Int32 → mj_M → Prop
  | 0 => fun _ _ _ _ _ _ => False
  | f + 1 => fun l0 l1 l2 l3 l4 M => mj_tag M l0 = 6 ∧ if (mj_i M l0 3) ≤ l4 then (post l3 M) else (mj_tag M (mj_r M l0 1) = 101 ∧ vp_in l4 (mj_len M (mj_r M l0 1)) ∧ if (mj_i M (mj_r M l0 1) (l4 : Int32).toNatClampNeg) < l1 then (vb_X5_tableAt_81 (vb_X5_tableAt_18 post f) post l0 l1 l4 M) else (if ((mj_i M (mj_r M l0 1) (l4 : Int32).toNatClampNeg) - l2) ≤ 0 then (vb_X5_tableAt_81 (vb_X5_tableAt_18 post f) post l0 l1 l4 M) else (mj_tag M (mj_r M l0 2) = 101 ∧ vp_in l4 (mj_len M (mj_r M l0 2)) ∧ (¬ ((mj_i M (mj_r M l0 1) (l4 : Int32).toNatClampNeg) - l2) = 0) ∧ post (((l3 * ((mj_i M (mj_r M l0 1) (l4 : Int32).toNatClampNeg) - l1)) + ((mj_i M (mj_r M l0 2) (l4 : Int32).toNatClampNeg) * (l1 - l2))) / ((mj_i M (mj_r M l0 1) (l4 : Int32).toNatClampNeg) - l2)) M)))
def vc_X5_tableAt (l0 : Nat) (l1 : Int32) (M : mj_M) (post : Int32 → mj_M → Prop) : Prop := mj_tag M l0 = 6 ∧ if (mj_i M l0 3) = 0 then (post 10000 M) else (vb_X5_tableAt_18 post 60 l0 l1 0 0 0 M)
set_option maxHeartbeats 4000000 in
set_option maxRecDepth 100000 in
theorem xb_X5_tableAt_81 {g : mj_G} {post : Int32 → mj_M → Prop} (hC : mj_C g yX5_tableAt cX5_tableAt 6 (some .int) rm_X5_tableAt) (hE : mj_E g mj_jI post 0 0) {k18 : Nat → Int32 → Int32 → Int32 → Int32 → mj_M → Prop} (hk18 : ∀ (l0 : Nat) (l1 : Int32) (l2 : Int32) (l3 : Int32) (l4 : Int32) (M : mj_M), k18 l0 l1 l2 l3 l4 M → mj_X g 18 [(0, vR l0), (1, vI l1), (2, vI l2), (3, vI l3), (4, vI l4)] [] M 0 0) (l0 : Nat) (l1 : Int32) (l4 : Int32) (M : mj_M) (h : vb_X5_tableAt_81 k18 post l0 l1 l4 M) : mj_X g 81 [(0, vR l0), (1, vI l1), (4, vI l4)] [] M 0 0 := by
  simp only [vb_X5_tableAt_81] at h
  refine mx_aload_n (j := 0) hC dX5_tableAt_81 rfl rfl ?_
  obtain ⟨ht1, h⟩ := h
  refine mx_get (v := vR (mj_r M l0 1)) hC tf_X5_15 ht1 rfl dX5_tableAt_82 ?_
  refine mx_iload (j := 2) hC dX5_tableAt_85 rfl ?_
  obtain ⟨ht2, h⟩ := h
  obtain ⟨hi3, h⟩ := h
  refine mx_iaload hC ht2 hi3 dX5_tableAt_87 ?_
  refine mx_istore_n (L' := [(2, vI (mj_i M (mj_r M l0 1) (l4 : Int32).toNatClampNeg)), (0, vR l0), (1, vI l1), (4, vI l4)]) hC dX5_tableAt_88 rfl (by decide) rfl ?_
  refine mx_aload_n (j := 1) hC dX5_tableAt_89 rfl rfl ?_
  refine mx_get (v := vR (mj_r M l0 2)) hC tf_X5_18 ht1 rfl dX5_tableAt_90 ?_
  refine mx_iload (j := 3) hC dX5_tableAt_93 rfl ?_
  obtain ⟨ht4, h⟩ := h
  obtain ⟨hi5, h⟩ := h
  refine mx_iaload hC ht4 hi5 dX5_tableAt_95 ?_
  refine mx_istore_n (L' := [(3, vI (mj_i M (mj_r M l0 2) (l4 : Int32).toNatClampNeg)), (2, vI (mj_i M (mj_r M l0 1) (l4 : Int32).toNatClampNeg)), (0, vR l0), (1, vI l1), (4, vI l4)]) hC dX5_tableAt_96 rfl (by decide) rfl ?_
  refine mx_iinc (j := 4) (v := l4 + 1) (L' := [(4, vI (l4 + 1)), (3, vI (mj_i M (mj_r M l0 2) (l4 : Int32).toNatClampNeg)), (2, vI (mj_i M (mj_r M l0 1) (l4 : Int32).toNatClampNeg)), (0, vR l0), (1, vI l1)]) hC dX5_tableAt_97 rfl rfl (by decide) rfl ?_
  refine mx_goto (tgt := 18) hC dX5_tableAt_100 (by decide) ?_
  refine mx_sub (L' := [(0, vR l0), (1, vI l1), (2, vI (mj_i M (mj_r M l0 1) (l4 : Int32).toNatClampNeg)), (3, vI (mj_i M (mj_r M l0 2) (l4 : Int32).toNatClampNeg)), (4, vI (l4 + 1))]) [3, 4, 2, 1, 0] rfl ?_
  exact show mj_X g 18 [(0, vR l0), (1, vI l1), (2, vI (mj_i M (mj_r M l0 1) (l4 : Int32).toNatClampNeg)), (3, vI (mj_i M (mj_r M l0 2) (l4 : Int32).toNatClampNeg)), (4, vI (l4 + 1))] [] M 0 0 from (hk18 l0 l1 (mj_i M (mj_r M l0 1) (l4 : Int32).toNatClampNeg) (mj_i M (mj_r M l0 2) (l4 : Int32).toNatClampNeg) (l4 + 1) M h)
set_option maxHeartbeats 4000000 in
set_option maxRecDepth 100000 in
theorem xb_X5_tableAt_18 {g : mj_G} {post : Int32 → mj_M → Prop} (hC : mj_C g yX5_tableAt cX5_tableAt 6 (some .int) rm_X5_tableAt) (hE : mj_E g mj_jI post 0 0) : ∀ (f : Nat) (l0 : Nat) (l1 : Int32) (l2 : Int32) (l3 : Int32) (l4 : Int32) (M : mj_M), vb_X5_tableAt_18 post f l0 l1 l2 l3 l4 M → mj_X g 18 [(0, vR l0), (1, vI l1), (2, vI l2), (3, vI l3), (4, vI l4)] [] M 0 0 := by
  intro f
  induction f with
  | zero => exact fun _ _ _ _ _ _ h => absurd h (fun z => z)
  | succ f ih =>
    intro l0 l1 l2 l3 l4 M h
    simp only [vb_X5_tableAt_18] at h
    refine mx_iload (j := 4) hC dX5_tableAt_18 rfl ?_
    refine mx_aload_n (j := 0) hC dX5_tableAt_20 rfl rfl ?_
    obtain ⟨ht6, h⟩ := h
    refine mx_get (v := vI (mj_i M l0 3)) hC tf_X5_28 ht6 rfl dX5_tableAt_21 ?_
    refine mx_icmpge (tgt := 103) hC dX5_tableAt_24 (by decide) (fun hc7 => ?_) (fun hc7 => ?_)
    · replace h := mj_yy hc7 h
      refine mx_iload_n (j := 3) hC dX5_tableAt_103 rfl rfl ?_
      exact mx_iret hC hE rfl dX5_tableAt_104 h
    · replace h := mj_nn hc7 h
      refine mx_aload_n (j := 0) hC dX5_tableAt_27 rfl rfl ?_
      refine mx_get (v := vR (mj_r M l0 1)) hC tf_X5_15 ht6 rfl dX5_tableAt_28 ?_
      refine mx_iload (j := 4) hC dX5_tableAt_31 rfl ?_
      obtain ⟨ht8, h⟩ := h
      obtain ⟨hi9, h⟩ := h
      refine mx_iaload hC ht8 hi9 dX5_tableAt_33 ?_
      refine mx_iload_n (j := 2) hC dX5_tableAt_34 rfl rfl ?_
      refine mx_isub hC dX5_tableAt_35 ?_
      refine mx_istore (L' := [(5, vI ((mj_i M (mj_r M l0 1) (l4 : Int32).toNatClampNeg) - l2)), (0, vR l0), (1, vI l1), (2, vI l2), (3, vI l3), (4, vI l4)]) hC dX5_tableAt_36 (by decide) rfl ?_
      refine mx_iload_n (j := 2) hC dX5_tableAt_38 rfl rfl ?_
      refine mx_aload_n (j := 1) hC dX5_tableAt_39 rfl rfl ?_
      refine mx_get (v := vR (mj_r M l0 1)) hC tf_X5_15 ht6 rfl dX5_tableAt_40 ?_
      refine mx_iload (j := 5) hC dX5_tableAt_43 rfl ?_
      refine mx_iaload hC ht8 hi9 dX5_tableAt_45 ?_
      refine mx_icmpgt (tgt := 81) hC dX5_tableAt_46 (by decide) (fun hc10 => ?_) (fun hc10 => ?_)
      · replace h := mj_yy hc10 h
        refine mx_sub (L' := [(0, vR l0), (1, vI l1), (4, vI l4)]) [1, 2, 5] rfl ?_
        exact show mj_X g 81 [(0, vR l0), (1, vI l1), (4, vI l4)] [] M 0 0 from (xb_X5_tableAt_81 hC hE ih l0 l1 l4 M h)
      · replace h := mj_nn hc10 h
        refine mx_iload (j := 0) hC dX5_tableAt_49 rfl ?_
        refine mx_ifle (tgt := 81) hC dX5_tableAt_51 (by decide) (fun hc11 => ?_) (fun hc11 => ?_)
        · replace h := mj_yy hc11 h
          refine mx_sub (L' := [(0, vR l0), (1, vI l1), (4, vI l4)]) [1, 2, 5] rfl ?_
          exact show mj_X g 81 [(0, vR l0), (1, vI l1), (4, vI l4)] [] M 0 0 from (xb_X5_tableAt_81 hC hE ih l0 l1 l4 M h)
        · replace h := mj_nn hc11 h
          refine mx_iload_n (j := 4) hC dX5_tableAt_54 rfl rfl ?_
          refine mx_aload_n (j := 1) hC dX5_tableAt_55 rfl rfl ?_
          refine mx_get (v := vR (mj_r M l0 1)) hC tf_X5_15 ht6 rfl dX5_tableAt_56 ?_
          refine mx_iload (j := 5) hC dX5_tableAt_59 rfl ?_
          refine mx_iaload hC ht8 hi9 dX5_tableAt_61 ?_
          refine mx_iload_n (j := 2) hC dX5_tableAt_62 rfl rfl ?_
          refine mx_isub hC dX5_tableAt_63 ?_
          refine mx_imul hC dX5_tableAt_64 ?_
          refine mx_aload_n (j := 1) hC dX5_tableAt_65 rfl rfl ?_
          refine mx_get (v := vR (mj_r M l0 2)) hC tf_X5_18 ht6 rfl dX5_tableAt_66 ?_
          refine mx_iload (j := 5) hC dX5_tableAt_69 rfl ?_
          obtain ⟨ht12, h⟩ := h
          obtain ⟨hi13, h⟩ := h
          refine mx_iaload hC ht12 hi13 dX5_tableAt_71 ?_
          refine mx_iload_n (j := 2) hC dX5_tableAt_72 rfl rfl ?_
          refine mx_iload_n (j := 3) hC dX5_tableAt_73 rfl rfl ?_
          refine mx_isub hC dX5_tableAt_74 ?_
          refine mx_imul hC dX5_tableAt_75 ?_
          refine mx_iadd hC dX5_tableAt_76 ?_
          refine mx_iload (j := 0) hC dX5_tableAt_77 rfl ?_
          obtain ⟨hz14, h⟩ := h
          refine mx_idiv hC dX5_tableAt_79 hz14 ?_
          exact mx_iret hC hE rfl dX5_tableAt_80 h
set_option maxHeartbeats 4000000 in
set_option maxRecDepth 100000 in
theorem ct_X5_tableAt {l : Launch} {base : Nat} {D : va_G} {A : mj_AT} (l0 : Nat) (l1 : Int32) (M : mj_M) (post : Int32 → mj_M → Prop) (h : vc_X5_tableAt l0 l1 M post) : mj_Met l base D A mj_jI yX5_tableAt cX5_tableAt 6 (some .int) rm_X5_tableAt 0 0 [vR l0, vI l1] M post := by
  refine mj_entry (by decide +kernel) (Nat.le_of_ble_eq_true rfl) (fun g hC hE h1 h2 h3 h4 => ?_)
  show mj_X g 0 [(0, vR l0), (1, vI l1)] [] M 0 0
  simp only [vc_X5_tableAt] at h
  refine mx_aload_n (j := 0) hC dX5_tableAt_0 rfl rfl ?_
  obtain ⟨ht15, h⟩ := h
  refine mx_get (v := vI (mj_i M l0 3)) hC tf_X5_28 ht15 rfl dX5_tableAt_1 ?_
  refine mx_ifne (tgt := 11) hC dX5_tableAt_4 (by decide) (fun hc16 => ?_) (fun hc16 => ?_)
  · replace h := mj_nn hc16 h
    refine mx_iconst (v := 0) hC dX5_tableAt_11 (by decide) ?_
    refine mx_istore_n (L' := [(2, vI 0), (0, vR l0), (1, vI l1)]) hC dX5_tableAt_12 rfl (by decide) rfl ?_
    refine mx_iconst (v := 0) hC dX5_tableAt_13 (by decide) ?_
    refine mx_istore_n (L' := [(3, vI 0), (2, vI 0), (0, vR l0), (1, vI l1)]) hC dX5_tableAt_14 rfl (by decide) rfl ?_
    refine mx_iconst (v := 0) hC dX5_tableAt_15 (by decide) ?_
    refine mx_istore (L' := [(4, vI 0), (3, vI 0), (2, vI 0), (0, vR l0), (1, vI l1)]) hC dX5_tableAt_16 (by decide) rfl ?_
    refine mx_sub (L' := [(0, vR l0), (1, vI l1), (2, vI 0), (3, vI 0), (4, vI 0)]) [3, 4, 2, 1, 0] rfl ?_
    exact show mj_X g 18 [(0, vR l0), (1, vI l1), (2, vI 0), (3, vI 0), (4, vI 0)] [] M 0 0 from (xb_X5_tableAt_18 hC hE 60 l0 l1 0 0 0 M h)
  · replace h := mj_yy hc16 h
    refine mx_sipush (v := 10000) hC dX5_tableAt_7 (by decide) ?_
    exact mx_iret hC hE rfl dX5_tableAt_10 h
def rm_X5_valuesOf : Room := { frames := 0, cells := 0, slots := 0, locals := 0 }
theorem dX5_valuesOf_0 : decode cX5_valuesOf 0 = .ok (.lconst 0, 1) := by decide +kernel
theorem dX5_valuesOf_1 : decode cX5_valuesOf 1 = .ok (.lstore_n 2, 1) := by decide +kernel
theorem dX5_valuesOf_2 : decode cX5_valuesOf 2 = .ok (.iconst 0, 1) := by decide +kernel
theorem dX5_valuesOf_3 : decode cX5_valuesOf 3 = .ok (.istore 4, 2) := by decide +kernel
theorem dX5_valuesOf_5 : decode cX5_valuesOf 5 = .ok (.iload 4, 2) := by decide +kernel
theorem dX5_valuesOf_7 : decode cX5_valuesOf 7 = .ok (.bipush 12, 2) := by decide +kernel
theorem dX5_valuesOf_9 : decode cX5_valuesOf 9 = .ok (.if_icmp .ge 27, 3) := by decide +kernel
theorem dX5_valuesOf_12 : decode cX5_valuesOf 12 = .ok (.lload_n 2, 1) := by decide +kernel
theorem dX5_valuesOf_13 : decode cX5_valuesOf 13 = .ok (.iload_n 1, 1) := by decide +kernel
theorem dX5_valuesOf_14 : decode cX5_valuesOf 14 = .ok (.iload 4, 2) := by decide +kernel
theorem dX5_valuesOf_16 : decode cX5_valuesOf 16 = .ok (.ishr, 1) := by decide +kernel
theorem dX5_valuesOf_17 : decode cX5_valuesOf 17 = .ok (.iconst 1, 1) := by decide +kernel
theorem dX5_valuesOf_18 : decode cX5_valuesOf 18 = .ok (.iand, 1) := by decide +kernel
theorem dX5_valuesOf_19 : decode cX5_valuesOf 19 = .ok (.aload_n 0, 1) := by decide +kernel
theorem dX5_valuesOf_20 : decode cX5_valuesOf 20 = .ok (.getfield 9, 3) := by decide +kernel
theorem dX5_valuesOf_23 : decode cX5_valuesOf 23 = .ok (.iload 4, 2) := by decide +kernel
theorem dX5_valuesOf_25 : decode cX5_valuesOf 25 = .ok (.iaload, 1) := by decide +kernel
theorem dX5_valuesOf_26 : decode cX5_valuesOf 26 = .ok (.imul, 1) := by decide +kernel
theorem dX5_valuesOf_27 : decode cX5_valuesOf 27 = .ok (.i2l, 1) := by decide +kernel
theorem dX5_valuesOf_28 : decode cX5_valuesOf 28 = .ok (.ladd, 1) := by decide +kernel
theorem dX5_valuesOf_29 : decode cX5_valuesOf 29 = .ok (.lstore_n 2, 1) := by decide +kernel
theorem dX5_valuesOf_30 : decode cX5_valuesOf 30 = .ok (.iinc 4 1, 3) := by decide +kernel
theorem dX5_valuesOf_33 : decode cX5_valuesOf 33 = .ok (.goto (-28), 3) := by decide +kernel
theorem dX5_valuesOf_36 : decode cX5_valuesOf 36 = .ok (.lload_n 2, 1) := by decide +kernel
theorem dX5_valuesOf_37 : decode cX5_valuesOf 37 = .ok (.lreturn, 1) := by decide +kernel
def vb_X5_valuesOf_5 (post : Int64 → mj_M → Prop) : Nat → Nat → Int32 → Int64 → Int32 → mj_M → Prop
  | 0 => fun _ _ _ _ _ => False
  | f + 1 => fun l0 l1 l2 l4 M => if 12 ≤ l4 then (post l2 M) else (mj_tag M l0 = 6 ∧ mj_tag M (mj_r M l0 0) = 101 ∧ vp_in l4 (mj_len M (mj_r M l0 0)) ∧ vb_X5_valuesOf_5 post f l0 l1 (l2 + ((((l1 >>> (l4 &&& 31)) &&& 1) * (mj_i M (mj_r M l0 0) (l4 : Int32).toNatClampNeg) : Int32).toInt64)) (l4 + 1) M)
def vc_X5_valuesOf (l0 : Nat) (l1 : Int32) (M : mj_M) (post : Int64 → mj_M → Prop) : Prop := vb_X5_valuesOf_5 post 60 l0 l1 0 0 M
set_option maxHeartbeats 4000000 in
set_option maxRecDepth 100000 in
theorem xb_X5_valuesOf_5 {g : mj_G} {post : Int64 → mj_M → Prop} (hC : mj_C g yX5_valuesOf cX5_valuesOf 5 (some .long) rm_X5_valuesOf) (hE : mj_E g mj_jL post 0 0) : ∀ (f : Nat) (l0 : Nat) (l1 : Int32) (l2 : Int64) (l4 : Int32) (M : mj_M), vb_X5_valuesOf_5 post f l0 l1 l2 l4 M → mj_X g 5 [(0, vR l0), (1, vI l1), (2, vL l2), (4, vI l4)] [] M 0 0 := by
  intro f
  induction f with
  | zero => exact fun _ _ _ _ _ h => absurd h (fun z => z)
  | succ f ih =>
    intro l0 l1 l2 l4 M h
    simp only [vb_X5_valuesOf_5] at h
    refine mx_iload (j := 3) hC dX5_valuesOf_5 rfl ?_
    refine mx_bipush (v := 12) hC dX5_valuesOf_7 (by decide) ?_
    refine mx_icmpge (tgt := 36) hC dX5_valuesOf_9 (by decide) (fun hc1 => ?_) (fun hc1 => ?_)
    · replace h := mj_yy hc1 h
      refine mx_lload_n (j := 2) hC dX5_valuesOf_36 rfl rfl ?_
      exact mx_lret hC hE rfl dX5_valuesOf_37 h
    · replace h := mj_nn hc1 h
      refine mx_lload_n (j := 2) hC dX5_valuesOf_12 rfl rfl ?_
      refine mx_iload_n (j := 1) hC dX5_valuesOf_13 rfl rfl ?_
      refine mx_iload (j := 3) hC dX5_valuesOf_14 rfl ?_
      refine mx_ishr hC dX5_valuesOf_16 ?_
      refine mx_iconst (v := 1) hC dX5_valuesOf_17 (by decide) ?_
      refine mx_iand hC dX5_valuesOf_18 ?_
      refine mx_aload_n (j := 0) hC dX5_valuesOf_19 rfl rfl ?_
      obtain ⟨ht2, h⟩ := h
      refine mx_get (v := vR (mj_r M l0 0)) hC tf_X5_9 ht2 rfl dX5_valuesOf_20 ?_
      refine mx_iload (j := 3) hC dX5_valuesOf_23 rfl ?_
      obtain ⟨ht3, h⟩ := h
      obtain ⟨hi4, h⟩ := h
      refine mx_iaload hC ht3 hi4 dX5_valuesOf_25 ?_
      refine mx_imul hC dX5_valuesOf_26 ?_
      refine mx_i2l hC dX5_valuesOf_27 ?_
      refine mx_ladd hC dX5_valuesOf_28 ?_
      refine mx_lstore_n (L' := [(2, vL (l2 + ((((l1 >>> (l4 &&& 31)) &&& 1) * (mj_i M (mj_r M l0 0) (l4 : Int32).toNatClampNeg) : Int32).toInt64))), (0, vR l0), (1, vI l1), (4, vI l4)]) hC dX5_valuesOf_29 rfl (by decide) rfl ?_
      refine mx_iinc (j := 3) (v := l4 + 1) (L' := [(4, vI (l4 + 1)), (2, vL (l2 + ((((l1 >>> (l4 &&& 31)) &&& 1) * (mj_i M (mj_r M l0 0) (l4 : Int32).toNatClampNeg) : Int32).toInt64))), (0, vR l0), (1, vI l1)]) hC dX5_valuesOf_30 rfl rfl (by decide) rfl ?_
      refine mx_goto (tgt := 5) hC dX5_valuesOf_33 (by decide) ?_
      refine mx_sub (L' := [(0, vR l0), (1, vI l1), (2, vL (l2 + ((((l1 >>> (l4 &&& 31)) &&& 1) * (mj_i M (mj_r M l0 0) (l4 : Int32).toNatClampNeg) : Int32).toInt64))), (4, vI (l4 + 1))]) [2, 3, 1, 0] rfl ?_
      exact show mj_X g 5 [(0, vR l0), (1, vI l1), (2, vL (l2 + ((((l1 >>> (l4 &&& 31)) &&& 1) * (mj_i M (mj_r M l0 0) (l4 : Int32).toNatClampNeg) : Int32).toInt64))), (4, vI (l4 + 1))] [] M 0 0 from (ih l0 l1 (l2 + ((((l1 >>> (l4 &&& 31)) &&& 1) * (mj_i M (mj_r M l0 0) (l4 : Int32).toNatClampNeg) : Int32).toInt64)) (l4 + 1) M h)
set_option maxHeartbeats 4000000 in
set_option maxRecDepth 100000 in
theorem ct_X5_valuesOf {l : Launch} {base : Nat} {D : va_G} {A : mj_AT} (l0 : Nat) (l1 : Int32) (M : mj_M) (post : Int64 → mj_M → Prop) (h : vc_X5_valuesOf l0 l1 M post) : mj_Met l base D A mj_jL yX5_valuesOf cX5_valuesOf 5 (some .long) rm_X5_valuesOf 0 0 [vR l0, vI l1] M post := by
  refine mj_entry (by decide +kernel) (Nat.le_of_ble_eq_true rfl) (fun g hC hE h1 h2 h3 h4 => ?_)
  show mj_X g 0 [(0, vR l0), (1, vI l1)] [] M 0 0
  simp only [vc_X5_valuesOf] at h
  refine mx_lconst (v := 0) hC dX5_valuesOf_0 (by decide) ?_
  refine mx_lstore_n (L' := [(2, vL 0), (0, vR l0), (1, vI l1)]) hC dX5_valuesOf_1 rfl (by decide) rfl ?_
  refine mx_iconst (v := 0) hC dX5_valuesOf_2 (by decide) ?_
  refine mx_istore (L' := [(4, vI 0), (2, vL 0), (0, vR l0), (1, vI l1)]) hC dX5_valuesOf_3 (by decide) rfl ?_
  refine mx_sub (L' := [(0, vR l0), (1, vI l1), (2, vL 0), (4, vI 0)]) [2, 3, 1, 0] rfl ?_
  exact show mj_X g 5 [(0, vR l0), (1, vI l1), (2, vL 0), (4, vI 0)] [] M 0 0 from (xb_X5_valuesOf_5 hC hE 60 l0 l1 0 0 M h)
theorem tw873 : (Jvm.Cond.methodLink "LeaseLand$Market" (31 : Nat) ({ cls := "LeaseLand$Market", name := "valuesOf", desc := "(I)J" } : Jvm.MethodName)) ∈ mj_tbl := mj_w 879 (by decide +kernel) (by decide +kernel)
theorem tw877 : (Jvm.Cond.methodLink "LeaseLand$Market" (35 : Nat) ({ cls := "LeaseLand$Market", name := "tableAt", desc := "(I)I" } : Jvm.MethodName)) ∈ mj_tbl := mj_w 883 (by decide +kernel) (by decide +kernel)
theorem tw881 : (Jvm.Cond.constantLong "LeaseLand$Market" (39 : Nat) (10000 : Int64)) ∈ mj_tbl := mj_w 887 (by decide +kernel) (by decide +kernel)
theorem tw880 : (Jvm.Cond.code ({ cls := "LeaseLand$Market", name := "tableAt", desc := "(I)I" } : Jvm.MethodName) prog_7_method_4_code (6 : Nat) (Option.some Jvm.ClassFile.FieldType.int)) ∈ mj_tbl := mj_w 886 (by decide +kernel) (by decide +kernel)
theorem tw8 : (Jvm.Cond.initialized "LeaseLand$Market") ∈ mj_tbl := mj_w 14 (by decide +kernel) (by decide +kernel)
theorem tw878 : (Jvm.Cond.instanceMethod ({ cls := "LeaseLand$Market", name := "tableAt", desc := "(I)I" } : Jvm.MethodName)) ∈ mj_tbl := mj_w 884 (by decide +kernel) (by decide +kernel)
theorem tw879 : (Jvm.Cond.selects "LeaseLand$Market" ({ cls := "LeaseLand$Market", name := "tableAt", desc := "(I)I" } : Jvm.MethodName) ({ cls := "LeaseLand$Market", name := "tableAt", desc := "(I)I" } : Jvm.MethodName)) ∈ mj_tbl := mj_w 885 (by decide +kernel) (by decide +kernel)
theorem ty_X5_tableAt : mj_YV 5 yX5_tableAt cX5_tableAt 6 (some .int) 1 := ⟨⟨tw880, tw8, by decide +kernel, by decide +kernel, by decide +kernel⟩, tw878, tw879, _, rfl, rfl⟩
theorem tw876 : (Jvm.Cond.code ({ cls := "LeaseLand$Market", name := "valuesOf", desc := "(I)J" } : Jvm.MethodName) prog_7_method_5_code (5 : Nat) (Option.some Jvm.ClassFile.FieldType.long)) ∈ mj_tbl := mj_w 882 (by decide +kernel) (by decide +kernel)
theorem tw874 : (Jvm.Cond.instanceMethod ({ cls := "LeaseLand$Market", name := "valuesOf", desc := "(I)J" } : Jvm.MethodName)) ∈ mj_tbl := mj_w 880 (by decide +kernel) (by decide +kernel)
theorem tw875 : (Jvm.Cond.selects "LeaseLand$Market" ({ cls := "LeaseLand$Market", name := "valuesOf", desc := "(I)J" } : Jvm.MethodName) ({ cls := "LeaseLand$Market", name := "valuesOf", desc := "(I)J" } : Jvm.MethodName)) ∈ mj_tbl := mj_w 881 (by decide +kernel) (by decide +kernel)
theorem ty_X5_valuesOf : mj_YV 5 yX5_valuesOf cX5_valuesOf 5 (some .long) 1 := ⟨⟨tw876, tw8, by decide +kernel, by decide +kernel, by decide +kernel⟩, tw874, tw875, _, rfl, rfl⟩
def rm_X5_worthWith : Room := { frames := 1, cells := 0, slots := 0, locals := 25 }
theorem dX5_worthWith_0 : decode cX5_worthWith 0 = .ok (.aload_n 0, 1) := by decide +kernel
theorem dX5_worthWith_1 : decode cX5_worthWith 1 = .ok (.iload_n 1, 1) := by decide +kernel
theorem dX5_worthWith_2 : decode cX5_worthWith 2 = .ok (.invokevirtual 31, 3) := by decide +kernel
theorem dX5_worthWith_5 : decode cX5_worthWith 5 = .ok (.aload_n 0, 1) := by decide +kernel
theorem dX5_worthWith_6 : decode cX5_worthWith 6 = .ok (.iload_n 2, 1) := by decide +kernel
theorem dX5_worthWith_7 : decode cX5_worthWith 7 = .ok (.invokevirtual 35, 3) := by decide +kernel
theorem dX5_worthWith_10 : decode cX5_worthWith 10 = .ok (.i2l, 1) := by decide +kernel
theorem dX5_worthWith_11 : decode cX5_worthWith 11 = .ok (.lmul, 1) := by decide +kernel
theorem dX5_worthWith_12 : decode cX5_worthWith 12 = .ok (.ldc2_w 39, 3) := by decide +kernel
theorem dX5_worthWith_15 : decode cX5_worthWith 15 = .ok (.ldiv, 1) := by decide +kernel
theorem dX5_worthWith_16 : decode cX5_worthWith 16 = .ok (.lreturn, 1) := by decide +kernel
def vc_X5_worthWith (l0 : Nat) (l1 : Int32) (l2 : Int32) (M : mj_M) (post : Int64 → mj_M → Prop) : Prop := mj_tag M l0 = 6 ∧ vc_X5_valuesOf l0 l1 M (fun r2 M3 => mj_tag M3 l0 = 6 ∧ vc_X5_tableAt l0 l2 M3 (fun r5 M6 => post ((r2 * ((r5 : Int32).toInt64)) / 10000) M6))
set_option maxHeartbeats 4000000 in
set_option maxRecDepth 100000 in
theorem ct_X5_worthWith {l : Launch} {base : Nat} {D : va_G} {A : mj_AT} (l0 : Nat) (l1 : Int32) (l2 : Int32) (M : mj_M) (post : Int64 → mj_M → Prop) (h : vc_X5_worthWith l0 l1 l2 M post) : mj_Met l base D A mj_jL yX5_worthWith cX5_worthWith 3 (some .long) rm_X5_worthWith 0 0 [vR l0, vI l1, vI l2] M post := by
  refine mj_entry (by decide +kernel) (Nat.le_of_ble_eq_true rfl) (fun g hC hE h1 h2 h3 h4 => ?_)
  show mj_X g 0 [(0, vR l0), (1, vI l1), (2, vI l2)] [] M 0 0
  simp only [vc_X5_worthWith] at h
  refine mx_aload_n (j := 0) hC dX5_worthWith_0 rfl rfl ?_
  refine mx_iload_n (j := 1) hC dX5_worthWith_1 rfl rfl ?_
  obtain ⟨ht1, h⟩ := h
  refine mx_callV (inj := mj_jL) (As := [vI l1]) (st := []) hC (ct_X5_valuesOf l0 l1 M _ h) ty_X5_valuesOf tw873 ht1 rfl (Nat.le_of_ble_eq_true rfl) ⟨rfl, rfl, ⟨by decide, by decide⟩, by decide, by decide⟩ dX5_worthWith_2 (fun r2 M3 h => ?_)
  show mj_X g 5 [(0, vR l0), (1, vI l1), (2, vI l2)] [vL r2] M3 0 0
  refine mx_aload_n (j := 0) hC dX5_worthWith_5 rfl rfl ?_
  refine mx_iload_n (j := 2) hC dX5_worthWith_6 rfl rfl ?_
  obtain ⟨ht4, h⟩ := h
  refine mx_callV (inj := mj_jI) (As := [vI l2]) (st := [vL r2]) hC (ct_X5_tableAt l0 l2 M3 _ h) ty_X5_tableAt tw877 ht4 rfl (Nat.le_of_ble_eq_true rfl) ⟨rfl, rfl, ⟨by decide, by decide⟩, by decide, by decide⟩ dX5_worthWith_7 (fun r5 M6 h => ?_)
  show mj_X g 10 [(0, vR l0), (1, vI l1), (2, vI l2)] [vI r5, vL r2] M6 0 0
  refine mx_i2l hC dX5_worthWith_10 ?_
  refine mx_lmul hC dX5_worthWith_11 ?_
  refine mx_ldc2 (v := 10000) hC dX5_worthWith_12 tw881 ?_
  refine mx_ldiv hC dX5_worthWith_15 (by decide) ?_
  exact mx_lret hC hE rfl dX5_worthWith_16 h
theorem tw868 : (Jvm.Cond.methodLink "LeaseLand$Market" (41 : Nat) ({ cls := "LeaseLand$Holding", name := "until", desc := "()I" } : Jvm.MethodName)) ∈ mj_tbl := mj_w 874 (by decide +kernel) (by decide +kernel)
def rm_X5_yearsLeft : Room := { frames := 1, cells := 0, slots := 0, locals := 20 }
theorem dX5_yearsLeft_0 : decode cX5_yearsLeft 0 = .ok (.aload_n 1, 1) := by decide +kernel
theorem dX5_yearsLeft_1 : decode cX5_yearsLeft 1 = .ok (.invokevirtual 41, 3) := by decide +kernel
theorem dX5_yearsLeft_4 : decode cX5_yearsLeft 4 = .ok (.iload_n 2, 1) := by decide +kernel
theorem dX5_yearsLeft_5 : decode cX5_yearsLeft 5 = .ok (.isub, 1) := by decide +kernel
theorem dX5_yearsLeft_6 : decode cX5_yearsLeft 6 = .ok (.sipush 365, 3) := by decide +kernel
theorem dX5_yearsLeft_9 : decode cX5_yearsLeft 9 = .ok (.idiv, 1) := by decide +kernel
theorem dX5_yearsLeft_10 : decode cX5_yearsLeft 10 = .ok (.ireturn, 1) := by decide +kernel
def vc_X5_yearsLeft (l0 : Nat) (l1 : Nat) (l2 : Int32) (M : mj_M) (post : Int32 → mj_M → Prop) : Prop := mj_tag M l1 = 4 ∧ vc_X3_until l1 M (fun r2 M3 => post ((r2 - l2) / 365) M3)
set_option maxHeartbeats 4000000 in
set_option maxRecDepth 100000 in
theorem ct_X5_yearsLeft {l : Launch} {base : Nat} {D : va_G} {A : mj_AT} (l0 : Nat) (l1 : Nat) (l2 : Int32) (M : mj_M) (post : Int32 → mj_M → Prop) (h : vc_X5_yearsLeft l0 l1 l2 M post) : mj_Met l base D A mj_jI yX5_yearsLeft cX5_yearsLeft 3 (some .int) rm_X5_yearsLeft 0 0 [vR l0, vR l1, vI l2] M post := by
  refine mj_entry (by decide +kernel) (Nat.le_of_ble_eq_true rfl) (fun g hC hE h1 h2 h3 h4 => ?_)
  show mj_X g 0 [(0, vR l0), (1, vR l1), (2, vI l2)] [] M 0 0
  simp only [vc_X5_yearsLeft] at h
  refine mx_aload_n (j := 1) hC dX5_yearsLeft_0 rfl rfl ?_
  obtain ⟨ht1, h⟩ := h
  refine mx_callV (inj := mj_jI) (As := []) (st := []) hC (ct_X3_until l1 M _ h) ty_X3_until tw868 ht1 rfl (Nat.le_of_ble_eq_true rfl) ⟨rfl, rfl, ⟨by decide, by decide⟩, by decide, by decide⟩ dX5_yearsLeft_1 (fun r2 M3 h => ?_)
  show mj_X g 4 [(0, vR l0), (1, vR l1), (2, vI l2)] [vI r2] M3 0 0
  refine mx_iload_n (j := 2) hC dX5_yearsLeft_4 rfl rfl ?_
  refine mx_isub hC dX5_yearsLeft_5 ?_
  refine mx_sipush (v := 365) hC dX5_yearsLeft_6 (by decide) ?_
  refine mx_idiv hC dX5_yearsLeft_9 (by decide) ?_
  exact mx_iret hC hE rfl dX5_yearsLeft_10 h
theorem tw307 : (Jvm.Cond.fieldLink "LeaseLand$Market" (47 : Nat) "LeaseLand$Holding" "floors" "I") ∈ mj_tbl := mj_w 313 (by decide +kernel) (by decide +kernel)
theorem tf_X5_47 : mj_F 3 3 .int false "LeaseLand$Market" 47 := ⟨_, tk3, by decide, rfl, rfl, rfl, tw307⟩
theorem tw864 : (Jvm.Cond.methodLink "LeaseLand$Market" (50 : Nat) ({ cls := "LeaseLand$Market", name := "yearsLeft", desc := "(LLeaseLand$Holding;I)I" } : Jvm.MethodName)) ∈ mj_tbl := mj_w 870 (by decide +kernel) (by decide +kernel)
theorem tw869 : (Jvm.Cond.methodLink "LeaseLand$Market" (54 : Nat) ({ cls := "LeaseLand$Market", name := "worthWith", desc := "(II)J" } : Jvm.MethodName)) ∈ mj_tbl := mj_w 875 (by decide +kernel) (by decide +kernel)
theorem tw872 : (Jvm.Cond.code ({ cls := "LeaseLand$Market", name := "worthWith", desc := "(II)J" } : Jvm.MethodName) prog_7_method_6_code (3 : Nat) (Option.some Jvm.ClassFile.FieldType.long)) ∈ mj_tbl := mj_w 878 (by decide +kernel) (by decide +kernel)
theorem tw870 : (Jvm.Cond.instanceMethod ({ cls := "LeaseLand$Market", name := "worthWith", desc := "(II)J" } : Jvm.MethodName)) ∈ mj_tbl := mj_w 876 (by decide +kernel) (by decide +kernel)
theorem tw871 : (Jvm.Cond.selects "LeaseLand$Market" ({ cls := "LeaseLand$Market", name := "worthWith", desc := "(II)J" } : Jvm.MethodName) ({ cls := "LeaseLand$Market", name := "worthWith", desc := "(II)J" } : Jvm.MethodName)) ∈ mj_tbl := mj_w 877 (by decide +kernel) (by decide +kernel)
theorem ty_X5_worthWith : mj_YV 5 yX5_worthWith cX5_worthWith 3 (some .long) 2 := ⟨⟨tw872, tw8, by decide +kernel, by decide +kernel, by decide +kernel⟩, tw870, tw871, _, rfl, rfl⟩
theorem tw867 : (Jvm.Cond.code ({ cls := "LeaseLand$Market", name := "yearsLeft", desc := "(LLeaseLand$Holding;I)I" } : Jvm.MethodName) prog_7_method_7_code (3 : Nat) (Option.some Jvm.ClassFile.FieldType.int)) ∈ mj_tbl := mj_w 873 (by decide +kernel) (by decide +kernel)
theorem tw865 : (Jvm.Cond.instanceMethod ({ cls := "LeaseLand$Market", name := "yearsLeft", desc := "(LLeaseLand$Holding;I)I" } : Jvm.MethodName)) ∈ mj_tbl := mj_w 871 (by decide +kernel) (by decide +kernel)
theorem tw866 : (Jvm.Cond.selects "LeaseLand$Market" ({ cls := "LeaseLand$Market", name := "yearsLeft", desc := "(LLeaseLand$Holding;I)I" } : Jvm.MethodName) ({ cls := "LeaseLand$Market", name := "yearsLeft", desc := "(LLeaseLand$Holding;I)I" } : Jvm.MethodName)) ∈ mj_tbl := mj_w 872 (by decide +kernel) (by decide +kernel)
theorem ty_X5_yearsLeft : mj_YV 5 yX5_yearsLeft cX5_yearsLeft 3 (some .int) 2 := ⟨⟨tw867, tw8, by decide +kernel, by decide +kernel, by decide +kernel⟩, tw865, tw866, _, rfl, rfl⟩
def rm_X5_worthNow : Room := { frames := 2, cells := 0, slots := 0, locals := 47 }
theorem dX5_worthNow_0 : decode cX5_worthNow 0 = .ok (.aload_n 0, 1) := by decide +kernel
theorem dX5_worthNow_1 : decode cX5_worthNow 1 = .ok (.aload_n 1, 1) := by decide +kernel
theorem dX5_worthNow_2 : decode cX5_worthNow 2 = .ok (.getfield 47, 3) := by decide +kernel
theorem dX5_worthNow_5 : decode cX5_worthNow 5 = .ok (.aload_n 0, 1) := by decide +kernel
theorem dX5_worthNow_6 : decode cX5_worthNow 6 = .ok (.aload_n 1, 1) := by decide +kernel
theorem dX5_worthNow_7 : decode cX5_worthNow 7 = .ok (.iload_n 2, 1) := by decide +kernel
theorem dX5_worthNow_8 : decode cX5_worthNow 8 = .ok (.invokevirtual 50, 3) := by decide +kernel
theorem dX5_worthNow_11 : decode cX5_worthNow 11 = .ok (.invokevirtual 54, 3) := by decide +kernel
theorem dX5_worthNow_14 : decode cX5_worthNow 14 = .ok (.lreturn, 1) := by decide +kernel
def vc_X5_worthNow (l0 : Nat) (l1 : Nat) (l2 : Int32) (M : mj_M) (post : Int64 → mj_M → Prop) : Prop := mj_tag M l1 = 4 ∧ mj_tag M l0 = 6 ∧ vc_X5_yearsLeft l0 l1 l2 M (fun r3 M4 => mj_tag M4 l0 = 6 ∧ vc_X5_worthWith l0 (mj_i M l1 3) r3 M4 (fun r6 M7 => post r6 M7))
set_option maxHeartbeats 4000000 in
set_option maxRecDepth 100000 in
theorem ct_X5_worthNow {l : Launch} {base : Nat} {D : va_G} {A : mj_AT} (l0 : Nat) (l1 : Nat) (l2 : Int32) (M : mj_M) (post : Int64 → mj_M → Prop) (h : vc_X5_worthNow l0 l1 l2 M post) : mj_Met l base D A mj_jL yX5_worthNow cX5_worthNow 3 (some .long) rm_X5_worthNow 0 0 [vR l0, vR l1, vI l2] M post := by
  refine mj_entry (by decide +kernel) (Nat.le_of_ble_eq_true rfl) (fun g hC hE h1 h2 h3 h4 => ?_)
  show mj_X g 0 [(0, vR l0), (1, vR l1), (2, vI l2)] [] M 0 0
  simp only [vc_X5_worthNow] at h
  refine mx_aload_n (j := 0) hC dX5_worthNow_0 rfl rfl ?_
  refine mx_aload_n (j := 1) hC dX5_worthNow_1 rfl rfl ?_
  obtain ⟨ht1, h⟩ := h
  refine mx_get (v := vI (mj_i M l1 3)) hC tf_X5_47 ht1 rfl dX5_worthNow_2 ?_
  refine mx_aload_n (j := 0) hC dX5_worthNow_5 rfl rfl ?_
  refine mx_aload_n (j := 1) hC dX5_worthNow_6 rfl rfl ?_
  refine mx_iload_n (j := 2) hC dX5_worthNow_7 rfl rfl ?_
  obtain ⟨ht2, h⟩ := h
  refine mx_callV (inj := mj_jI) (As := [vR l1, vI l2]) (st := [vI (mj_i M l1 3), vR l0]) hC (ct_X5_yearsLeft l0 l1 l2 M _ h) ty_X5_yearsLeft tw864 ht2 rfl (Nat.le_of_ble_eq_true rfl) ⟨rfl, rfl, ⟨by decide, by decide⟩, by decide, by decide⟩ dX5_worthNow_8 (fun r3 M4 h => ?_)
  show mj_X g 11 [(0, vR l0), (1, vR l1), (2, vI l2)] [vI r3, vI (mj_i M l1 3), vR l0] M4 0 0
  obtain ⟨ht5, h⟩ := h
  refine mx_callV (inj := mj_jL) (As := [vI (mj_i M l1 3), vI r3]) (st := []) hC (ct_X5_worthWith l0 (mj_i M l1 3) r3 M4 _ h) ty_X5_worthWith tw869 ht5 rfl (Nat.le_of_ble_eq_true rfl) ⟨rfl, rfl, ⟨by decide, by decide⟩, by decide, by decide⟩ dX5_worthNow_11 (fun r6 M7 h => ?_)
  show mj_X g 14 [(0, vR l0), (1, vR l1), (2, vI l2)] [vL r6] M7 0 0
  exact mx_lret hC hE rfl dX5_worthNow_14 h
theorem tw161 : (Jvm.Cond.fieldLink "LeaseLand$Market" (68 : Nat) "LeaseLand$Market" "deferred" "J") ∈ mj_tbl := mj_w 167 (by decide +kernel) (by decide +kernel)
theorem tf_X5_68 : mj_F 5 7 .long false "LeaseLand$Market" 68 := ⟨_, tk5, by decide, rfl, rfl, rfl, tw161⟩
theorem tw304 : (Jvm.Cond.fieldLink "LeaseLand$Market" (74 : Nat) "LeaseLand$Holding" "out" "LLeaseLand$Holding;") ∈ mj_tbl := mj_w 310 (by decide +kernel) (by decide +kernel)
theorem tf_X5_74 : mj_F 3 2 (.object "LeaseLand$Holding") false "LeaseLand$Market" 74 := ⟨_, tk3, by decide, rfl, rfl, rfl, tw304⟩
theorem tw887 : (Jvm.Cond.methodLink "LeaseLand$Market" (92 : Nat) ({ cls := "LeaseLand$Holding", name := "rateOn", desc := "(I)I" } : Jvm.MethodName)) ∈ mj_tbl := mj_w 893 (by decide +kernel) (by decide +kernel)
theorem tw888 : (Jvm.Cond.constantLong "LeaseLand$Market" (95 : Nat) (10 : Int64)) ∈ mj_tbl := mj_w 894 (by decide +kernel) (by decide +kernel)
def rm_X5_lossAbove : Room := { frames := 3, cells := 0, slots := 0, locals := 63 }
theorem dX5_lossAbove_0 : decode cX5_lossAbove 0 = .ok (.aload_n 1, 1) := by decide +kernel
theorem dX5_lossAbove_1 : decode cX5_lossAbove 1 = .ok (.iload_n 2, 1) := by decide +kernel
theorem dX5_lossAbove_2 : decode cX5_lossAbove 2 = .ok (.invokevirtual 92, 3) := by decide +kernel
theorem dX5_lossAbove_5 : decode cX5_lossAbove 5 = .ok (.i2l, 1) := by decide +kernel
theorem dX5_lossAbove_6 : decode cX5_lossAbove 6 = .ok (.aload_n 0, 1) := by decide +kernel
theorem dX5_lossAbove_7 : decode cX5_lossAbove 7 = .ok (.getfield 21, 3) := by decide +kernel
theorem dX5_lossAbove_10 : decode cX5_lossAbove 10 = .ok (.i2l, 1) := by decide +kernel
theorem dX5_lossAbove_11 : decode cX5_lossAbove 11 = .ok (.lmul, 1) := by decide +kernel
theorem dX5_lossAbove_12 : decode cX5_lossAbove 12 = .ok (.ldc2_w 95, 3) := by decide +kernel
theorem dX5_lossAbove_15 : decode cX5_lossAbove 15 = .ok (.ldiv, 1) := by decide +kernel
theorem dX5_lossAbove_16 : decode cX5_lossAbove 16 = .ok (.lstore_n 3, 1) := by decide +kernel
theorem dX5_lossAbove_17 : decode cX5_lossAbove 17 = .ok (.aload_n 1, 1) := by decide +kernel
theorem dX5_lossAbove_18 : decode cX5_lossAbove 18 = .ok (.getfield 74, 3) := by decide +kernel
theorem dX5_lossAbove_21 : decode cX5_lossAbove 21 = .ok (.ifnull 17, 3) := by decide +kernel
theorem dX5_lossAbove_24 : decode cX5_lossAbove 24 = .ok (.aload_n 1, 1) := by decide +kernel
theorem dX5_lossAbove_25 : decode cX5_lossAbove 25 = .ok (.getfield 74, 3) := by decide +kernel
theorem dX5_lossAbove_28 : decode cX5_lossAbove 28 = .ok (.getfield 74, 3) := by decide +kernel
theorem dX5_lossAbove_31 : decode cX5_lossAbove 31 = .ok (.ifnonnull 7, 3) := by decide +kernel
theorem dX5_lossAbove_34 : decode cX5_lossAbove 34 = .ok (.iconst 1, 1) := by decide +kernel
theorem dX5_lossAbove_35 : decode cX5_lossAbove 35 = .ok (.goto 4, 3) := by decide +kernel
theorem dX5_lossAbove_38 : decode cX5_lossAbove 38 = .ok (.iconst 0, 1) := by decide +kernel
theorem dX5_lossAbove_39 : decode cX5_lossAbove 39 = .ok (.istore 5, 2) := by decide +kernel
theorem dX5_lossAbove_41 : decode cX5_lossAbove 41 = .ok (.iload 5, 2) := by decide +kernel
theorem dX5_lossAbove_43 : decode cX5_lossAbove 43 = .ok (.ifCond .eq 12, 3) := by decide +kernel
theorem dX5_lossAbove_46 : decode cX5_lossAbove 46 = .ok (.lload_n 3, 1) := by decide +kernel
theorem dX5_lossAbove_47 : decode cX5_lossAbove 47 = .ok (.aload_n 0, 1) := by decide +kernel
theorem dX5_lossAbove_48 : decode cX5_lossAbove 48 = .ok (.getfield 68, 3) := by decide +kernel
theorem dX5_lossAbove_51 : decode cX5_lossAbove 51 = .ok (.ladd, 1) := by decide +kernel
theorem dX5_lossAbove_52 : decode cX5_lossAbove 52 = .ok (.goto 4, 3) := by decide +kernel
theorem dX5_lossAbove_55 : decode cX5_lossAbove 55 = .ok (.lload_n 3, 1) := by decide +kernel
theorem dX5_lossAbove_56 : decode cX5_lossAbove 56 = .ok (.lreturn, 1) := by decide +kernel
def vb_X5_lossAbove_39 (post : Int64 → mj_M → Prop) (l0 : Nat) (l3 : Int64) (s0 : Bool) (M : mj_M) : Prop := if s0 = true then (mj_tag M l0 = 6 ∧ post (l3 + (mj_l M l0 7)) M) else (post l3 M)
def vb_X5_lossAbove_38 (post : Int64 → mj_M → Prop) (l0 : Nat) (l3 : Int64) (M : mj_M) : Prop := vb_X5_lossAbove_39 post l0 l3 false M
def vc_X5_lossAbove (l0 : Nat) (l1 : Nat) (l2 : Int32) (M : mj_M) (post : Int64 → mj_M → Prop) : Prop := mj_tag M l1 = 4 ∧ vc_X3_rateOn l1 l2 M (fun r4 M5 => mj_tag M5 l0 = 6 ∧ mj_tag M5 l1 = 4 ∧ if (mj_r M5 l1 2) = 0 then (vb_X5_lossAbove_38 post l0 ((((r4 : Int32).toInt64) * ((mj_i M5 l0 4 : Int32).toInt64)) / 10) M5) else (mj_tag M5 (mj_r M5 l1 2) = 4 ∧ if (mj_r M5 (mj_r M5 l1 2) 2) = 0 then (vb_X5_lossAbove_39 post l0 ((((r4 : Int32).toInt64) * ((mj_i M5 l0 4 : Int32).toInt64)) / 10) true M5) else (vb_X5_lossAbove_38 post l0 ((((r4 : Int32).toInt64) * ((mj_i M5 l0 4 : Int32).toInt64)) / 10) M5)))
set_option maxHeartbeats 4000000 in
set_option maxRecDepth 100000 in
theorem xb_X5_lossAbove_39 {g : mj_G} {post : Int64 → mj_M → Prop} (hC : mj_C g yX5_lossAbove cX5_lossAbove 6 (some .long) rm_X5_lossAbove) (hE : mj_E g mj_jL post 0 0) (l0 : Nat) (l3 : Int64) (s0 : Bool) (M : mj_M) (h : vb_X5_lossAbove_39 post l0 l3 s0 M) : mj_X g 39 [(0, vR l0), (3, vL l3)] [vI (mj_b s0)] M 0 0 := by
  simp only [vb_X5_lossAbove_39] at h
  refine mx_istore (L' := [(5, vI (mj_b s0)), (0, vR l0), (3, vL l3)]) hC dX5_lossAbove_39 (by decide) rfl ?_
  refine mx_iload (j := 0) hC dX5_lossAbove_41 rfl ?_
  refine mx_ifeqB (tgt := 55) hC dX5_lossAbove_43 (by decide) (fun hc1 => ?_) (fun hc1 => ?_)
  · replace h := mj_nn hc1 h
    refine mx_lload_n (j := 2) hC dX5_lossAbove_55 rfl rfl ?_
    exact mx_lret hC hE rfl dX5_lossAbove_56 h
  · replace h := mj_yy hc1 h
    refine mx_lload_n (j := 2) hC dX5_lossAbove_46 rfl rfl ?_
    refine mx_aload_n (j := 1) hC dX5_lossAbove_47 rfl rfl ?_
    obtain ⟨ht2, h⟩ := h
    refine mx_get (v := vL (mj_l M l0 7)) hC tf_X5_68 ht2 rfl dX5_lossAbove_48 ?_
    refine mx_ladd hC dX5_lossAbove_51 ?_
    refine mx_goto (tgt := 56) hC dX5_lossAbove_52 (by decide) ?_
    exact mx_lret hC hE rfl dX5_lossAbove_56 h
set_option maxHeartbeats 4000000 in
set_option maxRecDepth 100000 in
theorem xb_X5_lossAbove_38 {g : mj_G} {post : Int64 → mj_M → Prop} (hC : mj_C g yX5_lossAbove cX5_lossAbove 6 (some .long) rm_X5_lossAbove) (hE : mj_E g mj_jL post 0 0) (l0 : Nat) (l3 : Int64) (M : mj_M) (h : vb_X5_lossAbove_38 post l0 l3 M) : mj_X g 38 [(0, vR l0), (3, vL l3)] [] M 0 0 := by
  simp only [vb_X5_lossAbove_38] at h
  refine mx_iconst (v := 0) hC dX5_lossAbove_38 (by decide) ?_
  refine mx_sub (L' := [(0, vR l0), (3, vL l3)]) [0, 1] rfl ?_
  exact show mj_X g 39 [(0, vR l0), (3, vL l3)] [vI (mj_b false)] M 0 0 from (xb_X5_lossAbove_39 hC hE l0 l3 false M h)
set_option maxHeartbeats 4000000 in
set_option maxRecDepth 100000 in
theorem ct_X5_lossAbove {l : Launch} {base : Nat} {D : va_G} {A : mj_AT} (l0 : Nat) (l1 : Nat) (l2 : Int32) (M : mj_M) (post : Int64 → mj_M → Prop) (h : vc_X5_lossAbove l0 l1 l2 M post) : mj_Met l base D A mj_jL yX5_lossAbove cX5_lossAbove 6 (some .long) rm_X5_lossAbove 0 0 [vR l0, vR l1, vI l2] M post := by
  refine mj_entry (by decide +kernel) (Nat.le_of_ble_eq_true rfl) (fun g hC hE h1 h2 h3 h4 => ?_)
  show mj_X g 0 [(0, vR l0), (1, vR l1), (2, vI l2)] [] M 0 0
  simp only [vc_X5_lossAbove] at h
  refine mx_aload_n (j := 1) hC dX5_lossAbove_0 rfl rfl ?_
  refine mx_iload_n (j := 2) hC dX5_lossAbove_1 rfl rfl ?_
  obtain ⟨ht3, h⟩ := h
  refine mx_callV (inj := mj_jI) (As := [vI l2]) (st := []) hC (ct_X3_rateOn l1 l2 M _ h) ty_X3_rateOn tw887 ht3 rfl (Nat.le_of_ble_eq_true rfl) ⟨rfl, rfl, ⟨by decide, by decide⟩, by decide, by decide⟩ dX5_lossAbove_2 (fun r4 M5 h => ?_)
  show mj_X g 5 [(0, vR l0), (1, vR l1), (2, vI l2)] [vI r4] M5 0 0
  refine mx_i2l hC dX5_lossAbove_5 ?_
  refine mx_aload_n (j := 0) hC dX5_lossAbove_6 rfl rfl ?_
  obtain ⟨ht6, h⟩ := h
  refine mx_get (v := vI (mj_i M5 l0 4)) hC tf_X5_21 ht6 rfl dX5_lossAbove_7 ?_
  refine mx_i2l hC dX5_lossAbove_10 ?_
  refine mx_lmul hC dX5_lossAbove_11 ?_
  refine mx_ldc2 (v := 10) hC dX5_lossAbove_12 tw888 ?_
  refine mx_ldiv hC dX5_lossAbove_15 (by decide) ?_
  refine mx_lstore_n (L' := [(3, vL ((((r4 : Int32).toInt64) * ((mj_i M5 l0 4 : Int32).toInt64)) / 10)), (0, vR l0), (1, vR l1), (2, vI l2)]) hC dX5_lossAbove_16 rfl (by decide) rfl ?_
  refine mx_aload_n (j := 2) hC dX5_lossAbove_17 rfl rfl ?_
  obtain ⟨ht7, h⟩ := h
  refine mx_get (v := vR (mj_r M5 l1 2)) hC tf_X5_74 ht7 rfl dX5_lossAbove_18 ?_
  refine mx_ifnull (tgt := 38) hC dX5_lossAbove_21 (by decide) (fun hc8 => ?_) (fun hc8 => ?_)
  · replace h := mj_yy hc8 h
    refine mx_sub (L' := [(0, vR l0), (3, vL ((((r4 : Int32).toInt64) * ((mj_i M5 l0 4 : Int32).toInt64)) / 10))]) [1, 0] rfl ?_
    exact show mj_X g 38 [(0, vR l0), (3, vL ((((r4 : Int32).toInt64) * ((mj_i M5 l0 4 : Int32).toInt64)) / 10))] [] M5 0 0 from (xb_X5_lossAbove_38 hC hE l0 ((((r4 : Int32).toInt64) * ((mj_i M5 l0 4 : Int32).toInt64)) / 10) M5 h)
  · replace h := mj_nn hc8 h
    refine mx_aload_n (j := 2) hC dX5_lossAbove_24 rfl rfl ?_
    refine mx_get (v := vR (mj_r M5 l1 2)) hC tf_X5_74 ht7 rfl dX5_lossAbove_25 ?_
    obtain ⟨ht9, h⟩ := h
    refine mx_get (v := vR (mj_r M5 (mj_r M5 l1 2) 2)) hC tf_X5_74 ht9 rfl dX5_lossAbove_28 ?_
    refine mx_ifnonnull (tgt := 38) hC dX5_lossAbove_31 (by decide) (fun hc10 => ?_) (fun hc10 => ?_)
    · replace h := mj_nn hc10 h
      refine mx_sub (L' := [(0, vR l0), (3, vL ((((r4 : Int32).toInt64) * ((mj_i M5 l0 4 : Int32).toInt64)) / 10))]) [1, 0] rfl ?_
      exact show mj_X g 38 [(0, vR l0), (3, vL ((((r4 : Int32).toInt64) * ((mj_i M5 l0 4 : Int32).toInt64)) / 10))] [] M5 0 0 from (xb_X5_lossAbove_38 hC hE l0 ((((r4 : Int32).toInt64) * ((mj_i M5 l0 4 : Int32).toInt64)) / 10) M5 h)
    · replace h := mj_yy hc10 h
      refine mx_iconst (v := 1) hC dX5_lossAbove_34 (by decide) ?_
      refine mx_goto (tgt := 39) hC dX5_lossAbove_35 (by decide) ?_
      refine mx_sub (L' := [(0, vR l0), (3, vL ((((r4 : Int32).toInt64) * ((mj_i M5 l0 4 : Int32).toInt64)) / 10))]) [1, 0] rfl ?_
      exact show mj_X g 39 [(0, vR l0), (3, vL ((((r4 : Int32).toInt64) * ((mj_i M5 l0 4 : Int32).toInt64)) / 10))] [vI (mj_b true)] M5 0 0 from (xb_X5_lossAbove_39 hC hE l0 ((((r4 : Int32).toInt64) * ((mj_i M5 l0 4 : Int32).toInt64)) / 10) true M5 h)
theorem tw159 : (Jvm.Cond.fieldLink "LeaseLand$Market" (62 : Nat) "LeaseLand$Market" "gain" "J") ∈ mj_tbl := mj_w 165 (by decide +kernel) (by decide +kernel)
theorem tf_X5_62 : mj_F 5 6 .long false "LeaseLand$Market" 62 := ⟨_, tk5, by decide, rfl, rfl, rfl, tw159⟩
theorem tw162 : (Jvm.Cond.fieldLink "LeaseLand$Market" (71 : Nat) "LeaseLand$Market" "losses" "J") ∈ mj_tbl := mj_w 168 (by decide +kernel) (by decide +kernel)
theorem tf_X5_71 : mj_F 5 8 .long false "LeaseLand$Market" 71 := ⟨_, tk5, by decide, rfl, rfl, rfl, tw162⟩
theorem tw164 : (Jvm.Cond.fieldLink "LeaseLand$Market" (89 : Nat) "LeaseLand$Market" "marriage" "J") ∈ mj_tbl := mj_w 170 (by decide +kernel) (by decide +kernel)
theorem tf_X5_89 : mj_F 5 9 .long false "LeaseLand$Market" 89 := ⟨_, tk5, by decide, rfl, rfl, rfl, tw164⟩
theorem tw860 : (Jvm.Cond.methodLink "LeaseLand$Market" (58 : Nat) ({ cls := "LeaseLand$Market", name := "worthNow", desc := "(LLeaseLand$Holding;I)J" } : Jvm.MethodName)) ∈ mj_tbl := mj_w 866 (by decide +kernel) (by decide +kernel)
theorem tw882 : (Jvm.Cond.constantLong "LeaseLand$Market" (66 : Nat) (100 : Int64)) ∈ mj_tbl := mj_w 888 (by decide +kernel) (by decide +kernel)
theorem tw883 : (Jvm.Cond.methodLink "LeaseLand$Market" (78 : Nat) ({ cls := "LeaseLand$Market", name := "lossAbove", desc := "(LLeaseLand$Holding;I)J" } : Jvm.MethodName)) ∈ mj_tbl := mj_w 889 (by decide +kernel) (by decide +kernel)
theorem tw889 : (Jvm.Cond.constantLong "LeaseLand$Market" (81 : Nat) (2 : Int64)) ∈ mj_tbl := mj_w 895 (by decide +kernel) (by decide +kernel)
theorem tw890 : (Jvm.Cond.methodLink "LeaseLand$Market" (83 : Nat) ({ cls := "java/lang/Math", name := "max", desc := "(JJ)J" } : Jvm.MethodName)) ∈ mj_tbl := mj_w 896 (by decide +kernel) (by decide +kernel)
theorem tw892 : (Jvm.Cond.code ({ cls := "java/lang/Math", name := "max", desc := "(JJ)J" } : Jvm.MethodName) prog_18_method_66_code (4 : Nat) (Option.some Jvm.ClassFile.FieldType.long)) ∈ mj_tbl := mj_w 898 (by decide +kernel) (by decide +kernel)
theorem tw891 : (Jvm.Cond.static ({ cls := "java/lang/Math", name := "max", desc := "(JJ)J" } : Jvm.MethodName)) ∈ mj_tbl := mj_w 897 (by decide +kernel) (by decide +kernel)
theorem ty_J9_max_f86c9 : mj_YS yJ9_max_f86c9 cJ9_max_f86c9 4 (some .long) 2 := ⟨⟨tw892, tw12, by decide +kernel, by decide +kernel, by decide +kernel⟩, tw891⟩
theorem tw886 : (Jvm.Cond.code ({ cls := "LeaseLand$Market", name := "lossAbove", desc := "(LLeaseLand$Holding;I)J" } : Jvm.MethodName) prog_7_method_10_code (6 : Nat) (Option.some Jvm.ClassFile.FieldType.long)) ∈ mj_tbl := mj_w 892 (by decide +kernel) (by decide +kernel)
theorem tw884 : (Jvm.Cond.instanceMethod ({ cls := "LeaseLand$Market", name := "lossAbove", desc := "(LLeaseLand$Holding;I)J" } : Jvm.MethodName)) ∈ mj_tbl := mj_w 890 (by decide +kernel) (by decide +kernel)
theorem tw885 : (Jvm.Cond.selects "LeaseLand$Market" ({ cls := "LeaseLand$Market", name := "lossAbove", desc := "(LLeaseLand$Holding;I)J" } : Jvm.MethodName) ({ cls := "LeaseLand$Market", name := "lossAbove", desc := "(LLeaseLand$Holding;I)J" } : Jvm.MethodName)) ∈ mj_tbl := mj_w 891 (by decide +kernel) (by decide +kernel)
theorem ty_X5_lossAbove : mj_YV 5 yX5_lossAbove cX5_lossAbove 6 (some .long) 2 := ⟨⟨tw886, tw8, by decide +kernel, by decide +kernel, by decide +kernel⟩, tw884, tw885, _, rfl, rfl⟩
theorem tw863 : (Jvm.Cond.code ({ cls := "LeaseLand$Market", name := "worthNow", desc := "(LLeaseLand$Holding;I)J" } : Jvm.MethodName) prog_7_method_8_code (3 : Nat) (Option.some Jvm.ClassFile.FieldType.long)) ∈ mj_tbl := mj_w 869 (by decide +kernel) (by decide +kernel)
theorem tw861 : (Jvm.Cond.instanceMethod ({ cls := "LeaseLand$Market", name := "worthNow", desc := "(LLeaseLand$Holding;I)J" } : Jvm.MethodName)) ∈ mj_tbl := mj_w 867 (by decide +kernel) (by decide +kernel)
theorem tw862 : (Jvm.Cond.selects "LeaseLand$Market" ({ cls := "LeaseLand$Market", name := "worthNow", desc := "(LLeaseLand$Holding;I)J" } : Jvm.MethodName) ({ cls := "LeaseLand$Market", name := "worthNow", desc := "(LLeaseLand$Holding;I)J" } : Jvm.MethodName)) ∈ mj_tbl := mj_w 868 (by decide +kernel) (by decide +kernel)
theorem ty_X5_worthNow : mj_YV 5 yX5_worthNow cX5_worthNow 3 (some .long) 2 := ⟨⟨tw863, tw8, by decide +kernel, by decide +kernel, by decide +kernel⟩, tw861, tw862, _, rfl, rfl⟩
def rm_X5_appraise : Room := { frames := 4, cells := 0, slots := 0, locals := 88 }
theorem dX5_appraise_0 : decode cX5_appraise 0 = .ok (.aload_n 0, 1) := by decide +kernel
theorem dX5_appraise_1 : decode cX5_appraise 1 = .ok (.aload_n 1, 1) := by decide +kernel
theorem dX5_appraise_2 : decode cX5_appraise 2 = .ok (.iload_n 2, 1) := by decide +kernel
theorem dX5_appraise_3 : decode cX5_appraise 3 = .ok (.invokevirtual 58, 3) := by decide +kernel
theorem dX5_appraise_6 : decode cX5_appraise 6 = .ok (.lstore_n 3, 1) := by decide +kernel
theorem dX5_appraise_7 : decode cX5_appraise 7 = .ok (.aload_n 0, 1) := by decide +kernel
theorem dX5_appraise_8 : decode cX5_appraise 8 = .ok (.aload_n 0, 1) := by decide +kernel
theorem dX5_appraise_9 : decode cX5_appraise 9 = .ok (.aload_n 1, 1) := by decide +kernel
theorem dX5_appraise_10 : decode cX5_appraise 10 = .ok (.getfield 47, 3) := by decide +kernel
theorem dX5_appraise_13 : decode cX5_appraise 13 = .ok (.aload_n 0, 1) := by decide +kernel
theorem dX5_appraise_14 : decode cX5_appraise 14 = .ok (.aload_n 1, 1) := by decide +kernel
theorem dX5_appraise_15 : decode cX5_appraise 15 = .ok (.iload_n 2, 1) := by decide +kernel
theorem dX5_appraise_16 : decode cX5_appraise 16 = .ok (.invokevirtual 50, 3) := by decide +kernel
theorem dX5_appraise_19 : decode cX5_appraise 19 = .ok (.bipush 90, 2) := by decide +kernel
theorem dX5_appraise_21 : decode cX5_appraise 21 = .ok (.iadd, 1) := by decide +kernel
theorem dX5_appraise_22 : decode cX5_appraise 22 = .ok (.invokevirtual 54, 3) := by decide +kernel
theorem dX5_appraise_25 : decode cX5_appraise 25 = .ok (.lload_n 3, 1) := by decide +kernel
theorem dX5_appraise_26 : decode cX5_appraise 26 = .ok (.lsub, 1) := by decide +kernel
theorem dX5_appraise_27 : decode cX5_appraise 27 = .ok (.putfield 62, 3) := by decide +kernel
theorem dX5_appraise_30 : decode cX5_appraise 30 = .ok (.aload_n 0, 1) := by decide +kernel
theorem dX5_appraise_31 : decode cX5_appraise 31 = .ok (.aload_n 0, 1) := by decide +kernel
theorem dX5_appraise_32 : decode cX5_appraise 32 = .ok (.aload_n 1, 1) := by decide +kernel
theorem dX5_appraise_33 : decode cX5_appraise 33 = .ok (.getfield 47, 3) := by decide +kernel
theorem dX5_appraise_36 : decode cX5_appraise 36 = .ok (.invokevirtual 31, 3) := by decide +kernel
theorem dX5_appraise_39 : decode cX5_appraise 39 = .ok (.lload_n 3, 1) := by decide +kernel
theorem dX5_appraise_40 : decode cX5_appraise 40 = .ok (.lsub, 1) := by decide +kernel
theorem dX5_appraise_41 : decode cX5_appraise 41 = .ok (.aload_n 0, 1) := by decide +kernel
theorem dX5_appraise_42 : decode cX5_appraise 42 = .ok (.getfield 25, 3) := by decide +kernel
theorem dX5_appraise_45 : decode cX5_appraise 45 = .ok (.i2l, 1) := by decide +kernel
theorem dX5_appraise_46 : decode cX5_appraise 46 = .ok (.lmul, 1) := by decide +kernel
theorem dX5_appraise_47 : decode cX5_appraise 47 = .ok (.ldc2_w 66, 3) := by decide +kernel
theorem dX5_appraise_50 : decode cX5_appraise 50 = .ok (.ldiv, 1) := by decide +kernel
theorem dX5_appraise_51 : decode cX5_appraise 51 = .ok (.putfield 68, 3) := by decide +kernel
theorem dX5_appraise_54 : decode cX5_appraise 54 = .ok (.aload_n 0, 1) := by decide +kernel
theorem dX5_appraise_55 : decode cX5_appraise 55 = .ok (.lconst 0, 1) := by decide +kernel
theorem dX5_appraise_56 : decode cX5_appraise 56 = .ok (.putfield 71, 3) := by decide +kernel
theorem dX5_appraise_59 : decode cX5_appraise 59 = .ok (.aload_n 1, 1) := by decide +kernel
theorem dX5_appraise_60 : decode cX5_appraise 60 = .ok (.astore 5, 2) := by decide +kernel
theorem dX5_appraise_62 : decode cX5_appraise 62 = .ok (.aload 5, 2) := by decide +kernel
theorem dX5_appraise_64 : decode cX5_appraise 64 = .ok (.getfield 74, 3) := by decide +kernel
theorem dX5_appraise_67 : decode cX5_appraise 67 = .ok (.ifnull 29, 3) := by decide +kernel
theorem dX5_appraise_70 : decode cX5_appraise 70 = .ok (.aload_n 0, 1) := by decide +kernel
theorem dX5_appraise_71 : decode cX5_appraise 71 = .ok (.dup, 1) := by decide +kernel
theorem dX5_appraise_72 : decode cX5_appraise 72 = .ok (.getfield 71, 3) := by decide +kernel
theorem dX5_appraise_75 : decode cX5_appraise 75 = .ok (.aload_n 0, 1) := by decide +kernel
theorem dX5_appraise_76 : decode cX5_appraise 76 = .ok (.aload 5, 2) := by decide +kernel
theorem dX5_appraise_78 : decode cX5_appraise 78 = .ok (.iload_n 2, 1) := by decide +kernel
theorem dX5_appraise_79 : decode cX5_appraise 79 = .ok (.invokevirtual 78, 3) := by decide +kernel
theorem dX5_appraise_82 : decode cX5_appraise 82 = .ok (.ladd, 1) := by decide +kernel
theorem dX5_appraise_83 : decode cX5_appraise 83 = .ok (.putfield 71, 3) := by decide +kernel
theorem dX5_appraise_86 : decode cX5_appraise 86 = .ok (.aload 5, 2) := by decide +kernel
theorem dX5_appraise_88 : decode cX5_appraise 88 = .ok (.getfield 74, 3) := by decide +kernel
theorem dX5_appraise_91 : decode cX5_appraise 91 = .ok (.astore 5, 2) := by decide +kernel
theorem dX5_appraise_93 : decode cX5_appraise 93 = .ok (.goto (-31), 3) := by decide +kernel
theorem dX5_appraise_96 : decode cX5_appraise 96 = .ok (.aload_n 0, 1) := by decide +kernel
theorem dX5_appraise_97 : decode cX5_appraise 97 = .ok (.lconst 0, 1) := by decide +kernel
theorem dX5_appraise_98 : decode cX5_appraise 98 = .ok (.aload_n 0, 1) := by decide +kernel
theorem dX5_appraise_99 : decode cX5_appraise 99 = .ok (.getfield 62, 3) := by decide +kernel
theorem dX5_appraise_102 : decode cX5_appraise 102 = .ok (.aload_n 0, 1) := by decide +kernel
theorem dX5_appraise_103 : decode cX5_appraise 103 = .ok (.getfield 71, 3) := by decide +kernel
theorem dX5_appraise_106 : decode cX5_appraise 106 = .ok (.lsub, 1) := by decide +kernel
theorem dX5_appraise_107 : decode cX5_appraise 107 = .ok (.ldc2_w 81, 3) := by decide +kernel
theorem dX5_appraise_110 : decode cX5_appraise 110 = .ok (.ldiv, 1) := by decide +kernel
theorem dX5_appraise_111 : decode cX5_appraise 111 = .ok (.invokestatic 83, 3) := by decide +kernel
theorem dX5_appraise_114 : decode cX5_appraise 114 = .ok (.putfield 89, 3) := by decide +kernel
theorem dX5_appraise_117 : decode cX5_appraise 117 = .ok (.return_, 1) := by decide +kernel
def vb_X5_appraise_62 (post : Unit → mj_M → Prop) : Nat → Nat → Int32 → Nat → mj_M → Prop
  | 0 => fun _ _ _ _ => False
  | f + 1 => fun l0 l2 l5 M => mj_tag M l5 = 4 ∧ if (mj_r M l5 2) = 0 then (mj_tag M l0 = 6 ∧ vc_J9_max_f86c9 0 (((mj_l M l0 6) - (mj_l M l0 8)) / 2) M (fun r4 M5 => mj_tag M5 l0 = 6 ∧ post () (mj_wl M5 l0 9 r4))) else (mj_tag M l0 = 6 ∧ vc_X5_lossAbove l0 l5 l2 M (fun r8 M9 => mj_tag M9 l0 = 6 ∧ mj_tag M9 l5 = 4 ∧ vb_X5_appraise_62 post f l0 l2 (mj_r M9 l5 2) (mj_wl M9 l0 8 ((mj_l M l0 8) + r8))))
def vc_X5_appraise (l0 : Nat) (l1 : Nat) (l2 : Int32) (M : mj_M) (post : Unit → mj_M → Prop) : Prop := mj_tag M l0 = 6 ∧ vc_X5_worthNow l0 l1 l2 M (fun r13 M14 => mj_tag M14 l1 = 4 ∧ mj_tag M14 l0 = 6 ∧ vc_X5_yearsLeft l0 l1 l2 M14 (fun r17 M18 => mj_tag M18 l0 = 6 ∧ vc_X5_worthWith l0 (mj_i M14 l1 3) (r17 + 90) M18 (fun r20 M21 => mj_tag M21 l0 = 6 ∧ mj_tag M21 l1 = 4 ∧ vc_X5_valuesOf l0 (mj_i M21 l1 3) (mj_wl M21 l0 6 (r20 - r13)) (fun r24 M25 => mj_tag M25 l0 = 6 ∧ vb_X5_appraise_62 post 60 l0 l2 l1 (mj_wl (mj_wl M25 l0 7 (((r24 - r13) * ((mj_i M25 l0 5 : Int32).toInt64)) / 100)) l0 8 0)))))
set_option maxHeartbeats 4000000 in
set_option maxRecDepth 100000 in
theorem xb_X5_appraise_62 {g : mj_G} {post : Unit → mj_M → Prop} (hC : mj_C g yX5_appraise cX5_appraise 6 (none) rm_X5_appraise) (hE : mj_E g mj_jV post 0 0) : ∀ (f : Nat) (l0 : Nat) (l2 : Int32) (l5 : Nat) (M : mj_M), vb_X5_appraise_62 post f l0 l2 l5 M → mj_X g 62 [(0, vR l0), (2, vI l2), (5, vR l5)] [] M 0 0 := by
  intro f
  induction f with
  | zero => exact fun _ _ _ _ h => absurd h (fun z => z)
  | succ f ih =>
    intro l0 l2 l5 M h
    simp only [vb_X5_appraise_62] at h
    refine mx_aload (j := 2) hC dX5_appraise_62 rfl ?_
    obtain ⟨ht1, h⟩ := h
    refine mx_get (v := vR (mj_r M l5 2)) hC tf_X5_74 ht1 rfl dX5_appraise_64 ?_
    refine mx_ifnull (tgt := 96) hC dX5_appraise_67 (by decide) (fun hc2 => ?_) (fun hc2 => ?_)
    · replace h := mj_yy hc2 h
      refine mx_aload_n (j := 0) hC dX5_appraise_96 rfl rfl ?_
      refine mx_lconst (v := 0) hC dX5_appraise_97 (by decide) ?_
      refine mx_aload_n (j := 0) hC dX5_appraise_98 rfl rfl ?_
      obtain ⟨ht3, h⟩ := h
      refine mx_get (v := vL (mj_l M l0 6)) hC tf_X5_62 ht3 rfl dX5_appraise_99 ?_
      refine mx_aload_n (j := 0) hC dX5_appraise_102 rfl rfl ?_
      refine mx_get (v := vL (mj_l M l0 8)) hC tf_X5_71 ht3 rfl dX5_appraise_103 ?_
      refine mx_lsub hC dX5_appraise_106 ?_
      refine mx_ldc2 (v := 2) hC dX5_appraise_107 tw889 ?_
      refine mx_ldiv hC dX5_appraise_110 (by decide) ?_
      refine mx_callS (inj := mj_jL) (As := [vL 0, vL (((mj_l M l0 6) - (mj_l M l0 8)) / 2)]) (st := [vR l0]) hC (ct_J9_max_f86c9 0 (((mj_l M l0 6) - (mj_l M l0 8)) / 2) M _ h) ty_J9_max_f86c9 tw890 rfl (Nat.le_of_ble_eq_true rfl) ⟨rfl, rfl, ⟨by decide, by decide⟩, by decide, by decide⟩ dX5_appraise_111 (fun r4 M5 h => ?_)
      show mj_X g 114 [(0, vR l0), (2, vI l2), (5, vR l5)] [vL r4, vR l0] M5 0 0
      obtain ⟨ht6, h⟩ := h
      refine mx_put (v := vL r4) (M1 := mj_wl M5 l0 9 r4) hC tf_X5_89 ht6 (Or.inl rfl) ⟨rfl, rfl⟩ (mj_off_wl _ _ _ _) mj_put_wl dX5_appraise_114 ?_
      exact mx_vret hC hE rfl dX5_appraise_117 h
    · replace h := mj_nn hc2 h
      refine mx_aload_n (j := 0) hC dX5_appraise_70 rfl rfl ?_
      refine mx_dup hC dX5_appraise_71 rfl ?_
      obtain ⟨ht7, h⟩ := h
      refine mx_get (v := vL (mj_l M l0 8)) hC tf_X5_71 ht7 rfl dX5_appraise_72 ?_
      refine mx_aload_n (j := 0) hC dX5_appraise_75 rfl rfl ?_
      refine mx_aload (j := 2) hC dX5_appraise_76 rfl ?_
      refine mx_iload_n (j := 1) hC dX5_appraise_78 rfl rfl ?_
      refine mx_callV (inj := mj_jL) (As := [vR l5, vI l2]) (st := [vL (mj_l M l0 8), vR l0]) hC (ct_X5_lossAbove l0 l5 l2 M _ h) ty_X5_lossAbove tw883 ht7 rfl (Nat.le_of_ble_eq_true rfl) ⟨rfl, rfl, ⟨by decide, by decide⟩, by decide, by decide⟩ dX5_appraise_79 (fun r8 M9 h => ?_)
      show mj_X g 82 [(0, vR l0), (2, vI l2), (5, vR l5)] [vL r8, vL (mj_l M l0 8), vR l0] M9 0 0
      refine mx_ladd hC dX5_appraise_82 ?_
      obtain ⟨ht10, h⟩ := h
      refine mx_put (v := vL ((mj_l M l0 8) + r8)) (M1 := mj_wl M9 l0 8 ((mj_l M l0 8) + r8)) hC tf_X5_71 ht10 (Or.inl rfl) ⟨rfl, rfl⟩ (mj_off_wl _ _ _ _) mj_put_wl dX5_appraise_83 ?_
      refine mx_aload (j := 2) hC dX5_appraise_86 rfl ?_
      obtain ⟨ht11, h⟩ := h
      refine mx_get (v := vR (mj_r M9 l5 2)) hC tf_X5_74 ht11 rfl dX5_appraise_88 ?_
      refine mx_astore (L' := [(5, vR (mj_r M9 l5 2)), (0, vR l0), (2, vI l2)]) hC dX5_appraise_91 (by decide) rfl ?_
      refine mx_goto (tgt := 62) hC dX5_appraise_93 (by decide) ?_
      refine mx_sub (L' := [(0, vR l0), (2, vI l2), (5, vR (mj_r M9 l5 2))]) [1, 2, 0] rfl ?_
      exact show mj_X g 62 [(0, vR l0), (2, vI l2), (5, vR (mj_r M9 l5 2))] [] (mj_wl M9 l0 8 ((mj_l M l0 8) + r8)) 0 0 from (ih l0 l2 (mj_r M9 l5 2) (mj_wl M9 l0 8 ((mj_l M l0 8) + r8)) h)
set_option maxHeartbeats 4000000 in
set_option maxRecDepth 100000 in
theorem ct_X5_appraise {l : Launch} {base : Nat} {D : va_G} {A : mj_AT} (l0 : Nat) (l1 : Nat) (l2 : Int32) (M : mj_M) (post : Unit → mj_M → Prop) (h : vc_X5_appraise l0 l1 l2 M post) : mj_Met l base D A mj_jV yX5_appraise cX5_appraise 6 (none) rm_X5_appraise 0 0 [vR l0, vR l1, vI l2] M post := by
  refine mj_entry (by decide +kernel) (Nat.le_of_ble_eq_true rfl) (fun g hC hE h1 h2 h3 h4 => ?_)
  show mj_X g 0 [(0, vR l0), (1, vR l1), (2, vI l2)] [] M 0 0
  simp only [vc_X5_appraise] at h
  refine mx_aload_n (j := 0) hC dX5_appraise_0 rfl rfl ?_
  refine mx_aload_n (j := 1) hC dX5_appraise_1 rfl rfl ?_
  refine mx_iload_n (j := 2) hC dX5_appraise_2 rfl rfl ?_
  obtain ⟨ht12, h⟩ := h
  refine mx_callV (inj := mj_jL) (As := [vR l1, vI l2]) (st := []) hC (ct_X5_worthNow l0 l1 l2 M _ h) ty_X5_worthNow tw860 ht12 rfl (Nat.le_of_ble_eq_true rfl) ⟨rfl, rfl, ⟨by decide, by decide⟩, by decide, by decide⟩ dX5_appraise_3 (fun r13 M14 h => ?_)
  show mj_X g 6 [(0, vR l0), (1, vR l1), (2, vI l2)] [vL r13] M14 0 0
  refine mx_lstore_n (L' := [(3, vL r13), (0, vR l0), (1, vR l1), (2, vI l2)]) hC dX5_appraise_6 rfl (by decide) rfl ?_
  refine mx_aload_n (j := 1) hC dX5_appraise_7 rfl rfl ?_
  refine mx_aload_n (j := 1) hC dX5_appraise_8 rfl rfl ?_
  refine mx_aload_n (j := 2) hC dX5_appraise_9 rfl rfl ?_
  obtain ⟨ht15, h⟩ := h
  refine mx_get (v := vI (mj_i M14 l1 3)) hC tf_X5_47 ht15 rfl dX5_appraise_10 ?_
  refine mx_aload_n (j := 1) hC dX5_appraise_13 rfl rfl ?_
  refine mx_aload_n (j := 2) hC dX5_appraise_14 rfl rfl ?_
  refine mx_iload_n (j := 3) hC dX5_appraise_15 rfl rfl ?_
  obtain ⟨ht16, h⟩ := h
  refine mx_callV (inj := mj_jI) (As := [vR l1, vI l2]) (st := [vI (mj_i M14 l1 3), vR l0, vR l0]) hC (ct_X5_yearsLeft l0 l1 l2 M14 _ h) ty_X5_yearsLeft tw864 ht16 rfl (Nat.le_of_ble_eq_true rfl) ⟨rfl, rfl, ⟨by decide, by decide⟩, by decide, by decide⟩ dX5_appraise_16 (fun r17 M18 h => ?_)
  show mj_X g 19 [(3, vL r13), (0, vR l0), (1, vR l1), (2, vI l2)] [vI r17, vI (mj_i M14 l1 3), vR l0, vR l0] M18 0 0
  refine mx_bipush (v := 90) hC dX5_appraise_19 (by decide) ?_
  refine mx_iadd hC dX5_appraise_21 ?_
  obtain ⟨ht19, h⟩ := h
  refine mx_callV (inj := mj_jL) (As := [vI (mj_i M14 l1 3), vI (r17 + 90)]) (st := [vR l0]) hC (ct_X5_worthWith l0 (mj_i M14 l1 3) (r17 + 90) M18 _ h) ty_X5_worthWith tw869 ht19 rfl (Nat.le_of_ble_eq_true rfl) ⟨rfl, rfl, ⟨by decide, by decide⟩, by decide, by decide⟩ dX5_appraise_22 (fun r20 M21 h => ?_)
  show mj_X g 25 [(3, vL r13), (0, vR l0), (1, vR l1), (2, vI l2)] [vL r20, vR l0] M21 0 0
  refine mx_lload_n (j := 0) hC dX5_appraise_25 rfl rfl ?_
  refine mx_lsub hC dX5_appraise_26 ?_
  obtain ⟨ht22, h⟩ := h
  refine mx_put (v := vL (r20 - r13)) (M1 := mj_wl M21 l0 6 (r20 - r13)) hC tf_X5_62 ht22 (Or.inl rfl) ⟨rfl, rfl⟩ (mj_off_wl _ _ _ _) mj_put_wl dX5_appraise_27 ?_
  refine mx_aload_n (j := 1) hC dX5_appraise_30 rfl rfl ?_
  refine mx_aload_n (j := 1) hC dX5_appraise_31 rfl rfl ?_
  refine mx_aload_n (j := 2) hC dX5_appraise_32 rfl rfl ?_
  obtain ⟨ht23, h⟩ := h
  refine mx_get (v := vI (mj_i M21 l1 3)) hC tf_X5_47 ht23 rfl dX5_appraise_33 ?_
  refine mx_callV (inj := mj_jL) (As := [vI (mj_i M21 l1 3)]) (st := [vR l0]) hC (ct_X5_valuesOf l0 (mj_i M21 l1 3) (mj_wl M21 l0 6 (r20 - r13)) _ h) ty_X5_valuesOf tw873 ht22 rfl (Nat.le_of_ble_eq_true rfl) ⟨rfl, rfl, ⟨by decide, by decide⟩, by decide, by decide⟩ dX5_appraise_36 (fun r24 M25 h => ?_)
  show mj_X g 39 [(3, vL r13), (0, vR l0), (1, vR l1), (2, vI l2)] [vL r24, vR l0] M25 0 0
  refine mx_lload_n (j := 0) hC dX5_appraise_39 rfl rfl ?_
  refine mx_lsub hC dX5_appraise_40 ?_
  refine mx_aload_n (j := 1) hC dX5_appraise_41 rfl rfl ?_
  obtain ⟨ht26, h⟩ := h
  refine mx_get (v := vI (mj_i M25 l0 5)) hC tf_X5_25 ht26 rfl dX5_appraise_42 ?_
  refine mx_i2l hC dX5_appraise_45 ?_
  refine mx_lmul hC dX5_appraise_46 ?_
  refine mx_ldc2 (v := 100) hC dX5_appraise_47 tw882 ?_
  refine mx_ldiv hC dX5_appraise_50 (by decide) ?_
  refine mx_put (v := vL (((r24 - r13) * ((mj_i M25 l0 5 : Int32).toInt64)) / 100)) (M1 := mj_wl M25 l0 7 (((r24 - r13) * ((mj_i M25 l0 5 : Int32).toInt64)) / 100)) hC tf_X5_68 ht26 (Or.inl rfl) ⟨rfl, rfl⟩ (mj_off_wl _ _ _ _) mj_put_wl dX5_appraise_51 ?_
  refine mx_aload_n (j := 1) hC dX5_appraise_54 rfl rfl ?_
  refine mx_lconst (v := 0) hC dX5_appraise_55 (by decide) ?_
  refine mx_put (v := vL 0) (M1 := mj_wl (mj_wl M25 l0 7 (((r24 - r13) * ((mj_i M25 l0 5 : Int32).toInt64)) / 100)) l0 8 0) hC tf_X5_71 ht26 (Or.inl rfl) ⟨rfl, rfl⟩ (mj_off_wl _ _ _ _) mj_put_wl dX5_appraise_56 ?_
  refine mx_aload_n (j := 2) hC dX5_appraise_59 rfl rfl ?_
  refine mx_astore (L' := [(5, vR l1), (3, vL r13), (0, vR l0), (1, vR l1), (2, vI l2)]) hC dX5_appraise_60 (by decide) rfl ?_
  refine mx_sub (L' := [(0, vR l0), (2, vI l2), (5, vR l1)]) [2, 4, 0] rfl ?_
  exact show mj_X g 62 [(0, vR l0), (2, vI l2), (5, vR l1)] [] (mj_wl (mj_wl M25 l0 7 (((r24 - r13) * ((mj_i M25 l0 5 : Int32).toInt64)) / 100)) l0 8 0) 0 0 from (xb_X5_appraise_62 hC hE 60 l0 l2 l1 (mj_wl (mj_wl M25 l0 7 (((r24 - r13) * ((mj_i M25 l0 5 : Int32).toInt64)) / 100)) l0 8 0) h)
theorem tw135 : (Jvm.Cond.methodLink "LeaseLand$Notices" (3 : Nat) ({ cls := "java/lang/Object", name := "<init>", desc := "()V" } : Jvm.MethodName)) ∈ mj_tbl := mj_w 141 (by decide +kernel) (by decide +kernel)
def rm_X7_init : Room := { frames := 1, cells := 0, slots := 0, locals := 20 }
theorem dX7_init_0 : decode cX7_init 0 = .ok (.aload_n 0, 1) := by decide +kernel
theorem dX7_init_1 : decode cX7_init 1 = .ok (.invokespecial 3, 3) := by decide +kernel
theorem dX7_init_4 : decode cX7_init 4 = .ok (.return_, 1) := by decide +kernel
def vc_X7_init (l0 : Nat) (M : mj_M) (post : Unit → mj_M → Prop) : Prop := (¬ l0 = 0) ∧ post () M
set_option maxHeartbeats 4000000 in
set_option maxRecDepth 100000 in
theorem ct_X7_init {l : Launch} {base : Nat} {D : va_G} {A : mj_AT} (l0 : Nat) (M : mj_M) (post : Unit → mj_M → Prop) (h : vc_X7_init l0 M post) : mj_Met l base D A mj_jV yX7_init cX7_init 1 (none) rm_X7_init 0 0 [vR l0] M post := by
  refine mj_entry (by decide +kernel) (Nat.le_of_ble_eq_true rfl) (fun g hC hE h1 h2 h3 h4 => ?_)
  show mj_X g 0 [(0, vR l0)] [] M 0 0
  simp only [vc_X7_init] at h
  refine mx_aload_n (j := 0) hC dX7_init_0 rfl rfl ?_
  obtain ⟨hn1, h⟩ := h
  refine mx_oinit hC tw135 tw_oi tw_oc hn1 (Nat.le_of_ble_eq_true rfl) ⟨by decide, by decide⟩ dX7_init_1 ?_
  exact mx_vret hC hE rfl dX7_init_4 h
theorem tw751 : (Jvm.Cond.fieldLink "LeaseLand$Notices" (15 : Nat) "LeaseLand$Notice" "number" "I") ∈ mj_tbl := mj_w 757 (by decide +kernel) (by decide +kernel)
theorem tf_X7_15 : mj_F 6 0 .int true "LeaseLand$Notices" 15 := ⟨_, tk6, by decide, rfl, rfl, rfl, tw751⟩
theorem tw763 : (Jvm.Cond.fieldLink "LeaseLand$Notices" (21 : Nat) "LeaseLand$Notice" "next" "LLeaseLand$Notice;") ∈ mj_tbl := mj_w 769 (by decide +kernel) (by decide +kernel)
theorem tf_X7_21 : mj_F 6 6 (.object "LeaseLand$Notice") false "LeaseLand$Notices" 21 := ⟨_, tk6, by decide, rfl, rfl, rfl, tw763⟩
theorem tw136 : (Jvm.Cond.fieldLink "LeaseLand$Notices" (9 : Nat) "LeaseLand$Notices" "first" "LLeaseLand$Notice;") ∈ mj_tbl := mj_w 142 (by decide +kernel) (by decide +kernel)
theorem tk7 : mj_KC 7 (RX7, TX7, 3, tyX7) := ⟨rfl, fun w hw => List.mem_filter.mpr ⟨(goodIn_r (big := lw_tbl) (u_ws RX7 TX7 3) [146, 148, 150] (by decide +kernel) (by decide +kernel) w hw).1, List.all_eq_true.mp (show (u_ws RX7 TX7 3).all goodWord = true by decide +kernel) w hw⟩, tyX7_ok, nmX7, by decide⟩
theorem tf_X7_9 : mj_F 7 0 (.object "LeaseLand$Notice") false "LeaseLand$Notices" 9 := ⟨_, tk7, by decide, rfl, rfl, rfl, tw136⟩
def rm_X7_find : Room := { frames := 0, cells := 0, slots := 0, locals := 0 }
theorem dX7_find_0 : decode cX7_find 0 = .ok (.aload_n 0, 1) := by decide +kernel
theorem dX7_find_1 : decode cX7_find 1 = .ok (.getfield 9, 3) := by decide +kernel
theorem dX7_find_4 : decode cX7_find 4 = .ok (.astore_n 2, 1) := by decide +kernel
theorem dX7_find_5 : decode cX7_find 5 = .ok (.aload_n 2, 1) := by decide +kernel
theorem dX7_find_6 : decode cX7_find 6 = .ok (.ifnull 21, 3) := by decide +kernel
theorem dX7_find_9 : decode cX7_find 9 = .ok (.aload_n 2, 1) := by decide +kernel
theorem dX7_find_10 : decode cX7_find 10 = .ok (.getfield 15, 3) := by decide +kernel
theorem dX7_find_13 : decode cX7_find 13 = .ok (.iload_n 1, 1) := by decide +kernel
theorem dX7_find_14 : decode cX7_find 14 = .ok (.if_icmp .ne 5, 3) := by decide +kernel
theorem dX7_find_17 : decode cX7_find 17 = .ok (.aload_n 2, 1) := by decide +kernel
theorem dX7_find_18 : decode cX7_find 18 = .ok (.areturn, 1) := by decide +kernel
theorem dX7_find_19 : decode cX7_find 19 = .ok (.aload_n 2, 1) := by decide +kernel
theorem dX7_find_20 : decode cX7_find 20 = .ok (.getfield 21, 3) := by decide +kernel
theorem dX7_find_23 : decode cX7_find 23 = .ok (.astore_n 2, 1) := by decide +kernel
theorem dX7_find_24 : decode cX7_find 24 = .ok (.goto (-19), 3) := by decide +kernel
theorem dX7_find_27 : decode cX7_find 27 = .ok (.aconst_null, 1) := by decide +kernel
theorem dX7_find_28 : decode cX7_find 28 = .ok (.areturn, 1) := by decide +kernel
def vb_X7_find_5 (post : Nat → mj_M → Prop) : Nat → Int32 → Nat → mj_M → Prop
  | 0 => fun _ _ _ => False
  | f + 1 => fun l1 l2 M => if l2 = 0 then (post 0 M) else (mj_tag M l2 = 7 ∧ if (mj_i M l2 0) = l1 then (post l2 M) else (vb_X7_find_5 post f l1 (mj_r M l2 6) M))
def vc_X7_find (l0 : Nat) (l1 : Int32) (M : mj_M) (post : Nat → mj_M → Prop) : Prop := mj_tag M l0 = 8 ∧ vb_X7_find_5 post 60 l1 (mj_r M l0 0) M
set_option maxHeartbeats 4000000 in
set_option maxRecDepth 100000 in
theorem xb_X7_find_5 {g : mj_G} {post : Nat → mj_M → Prop} (hC : mj_C g yX7_find cX7_find 3 (some (.object "LeaseLand$Notice")) rm_X7_find) (hE : mj_E g mj_jR post 0 0) : ∀ (f : Nat) (l1 : Int32) (l2 : Nat) (M : mj_M), vb_X7_find_5 post f l1 l2 M → mj_X g 5 [(1, vI l1), (2, vR l2)] [] M 0 0 := by
  intro f
  induction f with
  | zero => exact fun _ _ _ h => absurd h (fun z => z)
  | succ f ih =>
    intro l1 l2 M h
    simp only [vb_X7_find_5] at h
    refine mx_aload_n (j := 1) hC dX7_find_5 rfl rfl ?_
    refine mx_ifnull (tgt := 27) hC dX7_find_6 (by decide) (fun hc1 => ?_) (fun hc1 => ?_)
    · replace h := mj_yy hc1 h
      refine mx_null hC dX7_find_27 ?_
      exact mx_aret hC hE rfl (Or.inl ⟨_, rfl⟩) dX7_find_28 h
    · replace h := mj_nn hc1 h
      refine mx_aload_n (j := 1) hC dX7_find_9 rfl rfl ?_
      obtain ⟨ht2, h⟩ := h
      refine mx_get (v := vI (mj_i M l2 0)) hC tf_X7_15 ht2 rfl dX7_find_10 ?_
      refine mx_iload_n (j := 0) hC dX7_find_13 rfl rfl ?_
      refine mx_icmpne (tgt := 19) hC dX7_find_14 (by decide) (fun hc3 => ?_) (fun hc3 => ?_)
      · replace h := mj_nn hc3 h
        refine mx_aload_n (j := 1) hC dX7_find_19 rfl rfl ?_
        refine mx_get (v := vR (mj_r M l2 6)) hC tf_X7_21 ht2 rfl dX7_find_20 ?_
        refine mx_astore_n (L' := [(2, vR (mj_r M l2 6)), (1, vI l1)]) hC dX7_find_23 rfl (by decide) rfl ?_
        refine mx_goto (tgt := 5) hC dX7_find_24 (by decide) ?_
        refine mx_sub (L' := [(1, vI l1), (2, vR (mj_r M l2 6))]) [1, 0] rfl ?_
        exact show mj_X g 5 [(1, vI l1), (2, vR (mj_r M l2 6))] [] M 0 0 from (ih l1 (mj_r M l2 6) M h)
      · replace h := mj_yy hc3 h
        refine mx_aload_n (j := 1) hC dX7_find_17 rfl rfl ?_
        exact mx_aret hC hE rfl (Or.inl ⟨_, rfl⟩) dX7_find_18 h
set_option maxHeartbeats 4000000 in
set_option maxRecDepth 100000 in
theorem ct_X7_find {l : Launch} {base : Nat} {D : va_G} {A : mj_AT} (l0 : Nat) (l1 : Int32) (M : mj_M) (post : Nat → mj_M → Prop) (h : vc_X7_find l0 l1 M post) : mj_Met l base D A mj_jR yX7_find cX7_find 3 (some (.object "LeaseLand$Notice")) rm_X7_find 0 0 [vR l0, vI l1] M post := by
  refine mj_entry (by decide +kernel) (Nat.le_of_ble_eq_true rfl) (fun g hC hE h1 h2 h3 h4 => ?_)
  show mj_X g 0 [(0, vR l0), (1, vI l1)] [] M 0 0
  simp only [vc_X7_find] at h
  refine mx_aload_n (j := 0) hC dX7_find_0 rfl rfl ?_
  obtain ⟨ht4, h⟩ := h
  refine mx_get (v := vR (mj_r M l0 0)) hC tf_X7_9 ht4 rfl dX7_find_1 ?_
  refine mx_astore_n (L' := [(2, vR (mj_r M l0 0)), (0, vR l0), (1, vI l1)]) hC dX7_find_4 rfl (by decide) rfl ?_
  refine mx_sub (L' := [(1, vI l1), (2, vR (mj_r M l0 0))]) [2, 0] rfl ?_
  exact show mj_X g 5 [(1, vI l1), (2, vR (mj_r M l0 0))] [] M 0 0 from (xb_X7_find_5 hC hE 60 l1 (mj_r M l0 0) M h)
theorem tw138 : (Jvm.Cond.fieldLink "LeaseLand$Notices" (24 : Nat) "LeaseLand$Notices" "count" "I") ∈ mj_tbl := mj_w 144 (by decide +kernel) (by decide +kernel)
theorem tf_X7_24 : mj_F 7 2 .int false "LeaseLand$Notices" 24 := ⟨_, tk7, by decide, rfl, rfl, rfl, tw138⟩
theorem tw137 : (Jvm.Cond.fieldLink "LeaseLand$Notices" (30 : Nat) "LeaseLand$Notices" "last" "LLeaseLand$Notice;") ∈ mj_tbl := mj_w 143 (by decide +kernel) (by decide +kernel)
theorem tf_X7_30 : mj_F 7 1 (.object "LeaseLand$Notice") false "LeaseLand$Notices" 30 := ⟨_, tk7, by decide, rfl, rfl, rfl, tw137⟩
theorem tw744 : (Jvm.Cond.classLink "LeaseLand$Notices" (16 : Nat) "LeaseLand$Notice") ∈ mj_tbl := mj_w 750 (by decide +kernel) (by decide +kernel)
theorem tw745 : (Jvm.Cond.instantiable "LeaseLand$Notice" (7 : Nat)) ∈ mj_tbl := mj_w 751 (by decide +kernel) (by decide +kernel)
theorem tw746 : (Jvm.Cond.methodLink "LeaseLand$Notices" (27 : Nat) ({ cls := "LeaseLand$Notice", name := "<init>", desc := "(ILLeaseLand$Holding;II)V" } : Jvm.MethodName)) ∈ mj_tbl := mj_w 752 (by decide +kernel) (by decide +kernel)
theorem tw748 : (Jvm.Cond.code ({ cls := "LeaseLand$Notice", name := "<init>", desc := "(ILLeaseLand$Holding;II)V" } : Jvm.MethodName) prog_8_method_1_code (5 : Nat) (Option.none : Option Jvm.ClassFile.FieldType)) ∈ mj_tbl := mj_w 754 (by decide +kernel) (by decide +kernel)
theorem tw747 : (Jvm.Cond.instanceMethod ({ cls := "LeaseLand$Notice", name := "<init>", desc := "(ILLeaseLand$Holding;II)V" } : Jvm.MethodName)) ∈ mj_tbl := mj_w 753 (by decide +kernel) (by decide +kernel)
theorem ty_X6_init : mj_YI yX6_init cX6_init 5 4 := ⟨⟨tw748, tw21, by decide +kernel, by decide +kernel, by decide +kernel⟩, tw747, rfl⟩
def rm_X7_add : Room := { frames := 2, cells := 1, slots := 7, locals := 44 }
theorem dX7_add_0 : decode cX7_add 0 = .ok (.new 16, 3) := by decide +kernel
theorem dX7_add_3 : decode cX7_add 3 = .ok (.dup, 1) := by decide +kernel
theorem dX7_add_4 : decode cX7_add 4 = .ok (.aload_n 0, 1) := by decide +kernel
theorem dX7_add_5 : decode cX7_add 5 = .ok (.getfield 24, 3) := by decide +kernel
theorem dX7_add_8 : decode cX7_add 8 = .ok (.aload_n 1, 1) := by decide +kernel
theorem dX7_add_9 : decode cX7_add 9 = .ok (.iload_n 2, 1) := by decide +kernel
theorem dX7_add_10 : decode cX7_add 10 = .ok (.iload_n 3, 1) := by decide +kernel
theorem dX7_add_11 : decode cX7_add 11 = .ok (.invokespecial 27, 3) := by decide +kernel
theorem dX7_add_14 : decode cX7_add 14 = .ok (.astore 4, 2) := by decide +kernel
theorem dX7_add_16 : decode cX7_add 16 = .ok (.aload_n 0, 1) := by decide +kernel
theorem dX7_add_17 : decode cX7_add 17 = .ok (.getfield 30, 3) := by decide +kernel
theorem dX7_add_20 : decode cX7_add 20 = .ok (.ifnonnull 12, 3) := by decide +kernel
theorem dX7_add_23 : decode cX7_add 23 = .ok (.aload_n 0, 1) := by decide +kernel
theorem dX7_add_24 : decode cX7_add 24 = .ok (.aload 4, 2) := by decide +kernel
theorem dX7_add_26 : decode cX7_add 26 = .ok (.putfield 9, 3) := by decide +kernel
theorem dX7_add_29 : decode cX7_add 29 = .ok (.goto 12, 3) := by decide +kernel
theorem dX7_add_32 : decode cX7_add 32 = .ok (.aload_n 0, 1) := by decide +kernel
theorem dX7_add_33 : decode cX7_add 33 = .ok (.getfield 30, 3) := by decide +kernel
theorem dX7_add_36 : decode cX7_add 36 = .ok (.aload 4, 2) := by decide +kernel
theorem dX7_add_38 : decode cX7_add 38 = .ok (.putfield 21, 3) := by decide +kernel
theorem dX7_add_41 : decode cX7_add 41 = .ok (.aload_n 0, 1) := by decide +kernel
theorem dX7_add_42 : decode cX7_add 42 = .ok (.aload 4, 2) := by decide +kernel
theorem dX7_add_44 : decode cX7_add 44 = .ok (.putfield 30, 3) := by decide +kernel
theorem dX7_add_47 : decode cX7_add 47 = .ok (.aload_n 0, 1) := by decide +kernel
theorem dX7_add_48 : decode cX7_add 48 = .ok (.dup, 1) := by decide +kernel
theorem dX7_add_49 : decode cX7_add 49 = .ok (.getfield 24, 3) := by decide +kernel
theorem dX7_add_52 : decode cX7_add 52 = .ok (.iconst 1, 1) := by decide +kernel
theorem dX7_add_53 : decode cX7_add 53 = .ok (.iadd, 1) := by decide +kernel
theorem dX7_add_54 : decode cX7_add 54 = .ok (.putfield 24, 3) := by decide +kernel
theorem dX7_add_57 : decode cX7_add 57 = .ok (.aload 4, 2) := by decide +kernel
theorem dX7_add_59 : decode cX7_add 59 = .ok (.getfield 15, 3) := by decide +kernel
theorem dX7_add_62 : decode cX7_add 62 = .ok (.ireturn, 1) := by decide +kernel
def vb_X7_add_41 (post : Int32 → mj_M → Prop) (l0 : Nat) (l4 : Nat) (M : mj_M) : Prop := mj_tag M l0 = 8 ∧ mj_tag M l4 = 7 ∧ post (mj_i (mj_wi (mj_wr M l0 1 l4) l0 2 ((mj_i M l0 2) + 1)) l4 0) (mj_wi (mj_wr M l0 1 l4) l0 2 ((mj_i M l0 2) + 1))
def vc_X7_add (l0 : Nat) (l1 : Nat) (l2 : Int32) (l3 : Int32) (M : mj_M) (post : Int32 → mj_M → Prop) : Prop := ∀ M3 : mj_M, M3 = mj_new M 6 → mj_tag M3 l0 = 8 ∧ (¬ (mj_nx M) = 0) ∧ vc_X6_init (mj_nx M) (mj_i M3 l0 2) l1 l2 l3 M3 (fun _ M7 => mj_tag M7 l0 = 8 ∧ if (mj_r M7 l0 1) = 0 then (vb_X7_add_41 post l0 (mj_nx M) (mj_wr M7 l0 0 (mj_nx M))) else (mj_tag M7 (mj_r M7 l0 1) = 7 ∧ vb_X7_add_41 post l0 (mj_nx M) (mj_wr M7 (mj_r M7 l0 1) 6 (mj_nx M))))
set_option maxHeartbeats 4000000 in
set_option maxRecDepth 100000 in
theorem xb_X7_add_41 {g : mj_G} {post : Int32 → mj_M → Prop} (hC : mj_C g yX7_add cX7_add 5 (some .int) rm_X7_add) (hE : mj_E g mj_jI post 1 7) (l0 : Nat) (l4 : Nat) (M : mj_M) (h : vb_X7_add_41 post l0 l4 M) : mj_X g 41 [(0, vR l0), (4, vR l4)] [] M 1 7 := by
  simp only [vb_X7_add_41] at h
  refine mx_aload_n (j := 0) hC dX7_add_41 rfl rfl ?_
  refine mx_aload (j := 1) hC dX7_add_42 rfl ?_
  obtain ⟨ht1, h⟩ := h
  refine mx_put (v := vR l4) (M1 := mj_wr M l0 1 l4) hC tf_X7_30 ht1 (Or.inl rfl) (mj_fitR l4 _) (mj_off_wr _ _ _ _) mj_put_wr dX7_add_44 ?_
  refine mx_aload_n (j := 0) hC dX7_add_47 rfl rfl ?_
  refine mx_dup hC dX7_add_48 rfl ?_
  refine mx_get (v := vI (mj_i M l0 2)) hC tf_X7_24 ht1 rfl dX7_add_49 ?_
  refine mx_iconst (v := 1) hC dX7_add_52 (by decide) ?_
  refine mx_iadd hC dX7_add_53 ?_
  refine mx_put (v := vI ((mj_i M l0 2) + 1)) (M1 := mj_wi (mj_wr M l0 1 l4) l0 2 ((mj_i M l0 2) + 1)) hC tf_X7_24 ht1 (Or.inl rfl) ⟨rfl, rfl⟩ (mj_off_wi _ _ _ _) mj_put_wi dX7_add_54 ?_
  refine mx_aload (j := 1) hC dX7_add_57 rfl ?_
  obtain ⟨ht2, h⟩ := h
  refine mx_get (v := vI (mj_i (mj_wi (mj_wr M l0 1 l4) l0 2 ((mj_i M l0 2) + 1)) l4 0)) hC tf_X7_15 ht2 rfl dX7_add_59 ?_
  exact mx_iret hC hE rfl dX7_add_62 h
set_option maxHeartbeats 4000000 in
set_option maxRecDepth 100000 in
theorem ct_X7_add {l : Launch} {base : Nat} {D : va_G} {A : mj_AT} (l0 : Nat) (l1 : Nat) (l2 : Int32) (l3 : Int32) (M : mj_M) (post : Int32 → mj_M → Prop) (h : vc_X7_add l0 l1 l2 l3 M post) : mj_Met l base D A mj_jI yX7_add cX7_add 5 (some .int) rm_X7_add 1 7 [vR l0, vR l1, vI l2, vI l3] M post := by
  refine mj_entry (by decide +kernel) (Nat.le_of_ble_eq_true rfl) (fun g hC hE h1 h2 h3 h4 => ?_)
  show mj_X g 0 [(0, vR l0), (1, vR l1), (2, vI l2), (3, vI l3)] [] M 0 0
  simp only [vc_X7_add] at h
  refine mx_new (k' := 1) (n' := 7) hC tk6 tw744 tw745 tw21 ⟨rfl, rfl, by decide, by decide⟩ dX7_add_0 ?_
  obtain ⟨M3, eM3⟩ : ∃ z : mj_M, z = mj_new M 6 := ⟨_, rfl⟩
  replace h := h M3 eM3
  have ht4 : mj_tag M3 (mj_nx M) = 7 := by rw [eM3]; exact mj_u1_at _
  refine mx_setM eM3.symm ?_
  refine mx_dup hC dX7_add_3 rfl ?_
  refine mx_aload_n (j := 0) hC dX7_add_4 rfl rfl ?_
  obtain ⟨ht5, h⟩ := h
  refine mx_get (v := vI (mj_i M3 l0 2)) hC tf_X7_24 ht5 rfl dX7_add_5 ?_
  refine mx_aload_n (j := 1) hC dX7_add_8 rfl rfl ?_
  refine mx_iload_n (j := 2) hC dX7_add_9 rfl rfl ?_
  refine mx_iload_n (j := 3) hC dX7_add_10 rfl rfl ?_
  obtain ⟨hn6, h⟩ := h
  refine mx_callI (As := [vI (mj_i M3 l0 2), vR l1, vI l2, vI l3]) (st := [vR (mj_nx M)]) hC (ct_X6_init (mj_nx M) (mj_i M3 l0 2) l1 l2 l3 M3 _ h) ty_X6_init tw746 hn6 rfl (Nat.le_of_ble_eq_true rfl) ⟨rfl, rfl, ⟨by decide, by decide⟩, by decide, by decide⟩ dX7_add_11 (fun _ M7 h => ?_)
  show mj_X g 14 [(0, vR l0), (1, vR l1), (2, vI l2), (3, vI l3)] [vR (mj_nx M)] M7 1 7
  refine mx_astore (L' := [(4, vR (mj_nx M)), (0, vR l0), (1, vR l1), (2, vI l2), (3, vI l3)]) hC dX7_add_14 (by decide) rfl ?_
  refine mx_aload_n (j := 1) hC dX7_add_16 rfl rfl ?_
  obtain ⟨ht8, h⟩ := h
  refine mx_get (v := vR (mj_r M7 l0 1)) hC tf_X7_30 ht8 rfl dX7_add_17 ?_
  refine mx_ifnonnull (tgt := 32) hC dX7_add_20 (by decide) (fun hc9 => ?_) (fun hc9 => ?_)
  · replace h := mj_nn hc9 h
    refine mx_aload_n (j := 1) hC dX7_add_32 rfl rfl ?_
    refine mx_get (v := vR (mj_r M7 l0 1)) hC tf_X7_30 ht8 rfl dX7_add_33 ?_
    refine mx_aload (j := 0) hC dX7_add_36 rfl ?_
    obtain ⟨ht10, h⟩ := h
    refine mx_put (v := vR (mj_nx M)) (M1 := mj_wr M7 (mj_r M7 l0 1) 6 (mj_nx M)) hC tf_X7_21 ht10 (Or.inl rfl) (mj_fitR (mj_nx M) _) (mj_off_wr _ _ _ _) mj_put_wr dX7_add_38 ?_
    refine mx_sub (L' := [(0, vR l0), (4, vR (mj_nx M))]) [1, 0] rfl ?_
    exact show mj_X g 41 [(0, vR l0), (4, vR (mj_nx M))] [] (mj_wr M7 (mj_r M7 l0 1) 6 (mj_nx M)) 1 7 from (xb_X7_add_41 hC hE l0 (mj_nx M) (mj_wr M7 (mj_r M7 l0 1) 6 (mj_nx M)) h)
  · replace h := mj_yy hc9 h
    refine mx_aload_n (j := 1) hC dX7_add_23 rfl rfl ?_
    refine mx_aload (j := 0) hC dX7_add_24 rfl ?_
    refine mx_put (v := vR (mj_nx M)) (M1 := mj_wr M7 l0 0 (mj_nx M)) hC tf_X7_9 ht8 (Or.inl rfl) (mj_fitR (mj_nx M) _) (mj_off_wr _ _ _ _) mj_put_wr dX7_add_26 ?_
    refine mx_goto (tgt := 41) hC dX7_add_29 (by decide) ?_
    refine mx_sub (L' := [(0, vR l0), (4, vR (mj_nx M))]) [1, 0] rfl ?_
    exact show mj_X g 41 [(0, vR l0), (4, vR (mj_nx M))] [] (mj_wr M7 l0 0 (mj_nx M)) 1 7 from (xb_X7_add_41 hC hE l0 (mj_nx M) (mj_wr M7 l0 0 (mj_nx M)) h)

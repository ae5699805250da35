/-! methods 1. By program (wip/gen) out of the bytecode: vc_KEY: what must hold of a call; ct_KEY: then the machine does it. -/
theorem tw40 : (Jvm.Cond.fieldLink "LeaseLand$Land" (28 : Nat) "LeaseLand$Land" "today" "I") ∈ mj_tbl := mj_w 46 (by decide +kernel) (by decide +kernel)
theorem tf_X4_28 : mj_F 4 0 .int false "LeaseLand$Land" 28 := ⟨_, tk4, by decide, rfl, rfl, rfl, tw40⟩
theorem tw439 : (Jvm.Cond.methodLink "LeaseLand$Land" (31 : Nat) ({ cls := "LeaseLand$Holding", name := "isInForce", desc := "(I)Z" } : Jvm.MethodName)) ∈ mj_tbl := mj_w 445 (by decide +kernel) (by decide +kernel)
def rm_X4_isInForce : Room := { frames := 2, cells := 0, slots := 0, locals := 41 }
theorem dX4_isInForce_0 : decode cX4_isInForce 0 = .ok (.aload_n 1, 1) := by decide +kernel
theorem dX4_isInForce_1 : decode cX4_isInForce 1 = .ok (.aload_n 0, 1) := by decide +kernel
theorem dX4_isInForce_2 : decode cX4_isInForce 2 = .ok (.getfield 28, 3) := by decide +kernel
theorem dX4_isInForce_5 : decode cX4_isInForce 5 = .ok (.invokevirtual 31, 3) := by decide +kernel
theorem dX4_isInForce_8 : decode cX4_isInForce 8 = .ok (.ireturn, 1) := by decide +kernel
def vc_X4_isInForce (l0 : Nat) (l1 : Nat) (M : mj_M) (post : Bool → mj_M → Prop) : Prop := mj_tag M l0 = 5 ∧ mj_tag M l1 = 4 ∧ vc_X3_isInForce l1 (mj_i M l0 0) M (fun r3 M4 => post r3 M4)
set_option maxHeartbeats 4000000 in
set_option maxRecDepth 100000 in
theorem ct_X4_isInForce {l : Launch} {base : Nat} {D : va_G} {A : mj_AT} (l0 : Nat) (l1 : Nat) (M : mj_M) (post : Bool → mj_M → Prop) (h : vc_X4_isInForce l0 l1 M post) : mj_Met l base D A mj_jB yX4_isInForce cX4_isInForce 2 (some .boolean) rm_X4_isInForce 0 0 [vR l0, vR l1] M post := by
  refine mj_entry (by decide +kernel) (Nat.le_of_ble_eq_true rfl) (fun g hC hE h1 h2 h3 h4 => ?_)
  show mj_X g 0 [(0, vR l0), (1, vR l1)] [] M 0 0
  simp only [vc_X4_isInForce] at h
  refine mx_aload_n (j := 1) hC dX4_isInForce_0 rfl rfl ?_
  refine mx_aload_n (j := 0) hC dX4_isInForce_1 rfl rfl ?_
  obtain ⟨ht1, h⟩ := h
  refine mx_get (v := vI (mj_i M l0 0)) hC tf_X4_28 ht1 rfl dX4_isInForce_2 ?_
  obtain ⟨ht2, h⟩ := h
  refine mx_callV (inj := mj_jB) (As := [vI (mj_i M l0 0)]) (st := []) hC (ct_X3_isInForce l1 (mj_i M l0 0) M _ h) ty_X3_isInForce tw439 ht2 rfl (Nat.le_of_ble_eq_true rfl) ⟨rfl, rfl, ⟨by decide, by decide⟩, by decide, by decide⟩ dX4_isInForce_5 (fun r3 M4 h => ?_)
  show mj_X g 8 [(0, vR l0), (1, vR l1)] [vI (mj_b r3)] M4 0 0
  exact mx_zret (b := r3) hC hE rfl dX4_isInForce_8 h
theorem tw41 : (Jvm.Cond.fieldLink "LeaseLand$Land" (37 : Nat) "LeaseLand$Land" "first" "LLeaseLand$Holding;") ∈ mj_tbl := mj_w 47 (by decide +kernel) (by decide +kernel)
theorem tf_X4_37 : mj_F 4 1 (.object "LeaseLand$Holding") false "LeaseLand$Land" 37 := ⟨_, tk4, by decide, rfl, rfl, rfl, tw41⟩
theorem tw299 : (Jvm.Cond.fieldLink "LeaseLand$Land" (41 : Nat) "LeaseLand$Holding" "number" "I") ∈ mj_tbl := mj_w 305 (by decide +kernel) (by decide +kernel)
theorem tf_X4_41 : mj_F 3 0 .int false "LeaseLand$Land" 41 := ⟨_, tk3, by decide, rfl, rfl, rfl, tw299⟩
theorem tw301 : (Jvm.Cond.fieldLink "LeaseLand$Land" (44 : Nat) "LeaseLand$Holding" "next" "LLeaseLand$Holding;") ∈ mj_tbl := mj_w 307 (by decide +kernel) (by decide +kernel)
theorem tf_X4_44 : mj_F 3 1 (.object "LeaseLand$Holding") false "LeaseLand$Land" 44 := ⟨_, tk3, by decide, rfl, rfl, rfl, tw301⟩
def rm_X4_find : Room := { frames := 0, cells := 0, slots := 0, locals := 0 }
theorem dX4_find_0 : decode cX4_find 0 = .ok (.aload_n 0, 1) := by decide +kernel
theorem dX4_find_1 : decode cX4_find 1 = .ok (.getfield 37, 3) := by decide +kernel
theorem dX4_find_4 : decode cX4_find 4 = .ok (.astore_n 2, 1) := by decide +kernel
theorem dX4_find_5 : decode cX4_find 5 = .ok (.aload_n 2, 1) := by decide +kernel
theorem dX4_find_6 : decode cX4_find 6 = .ok (.ifnull 21, 3) := by decide +kernel
theorem dX4_find_9 : decode cX4_find 9 = .ok (.aload_n 2, 1) := by decide +kernel
theorem dX4_find_10 : decode cX4_find 10 = .ok (.getfield 41, 3) := by decide +kernel
theorem dX4_find_13 : decode cX4_find 13 = .ok (.iload_n 1, 1) := by decide +kernel
theorem dX4_find_14 : decode cX4_find 14 = .ok (.if_icmp .ne 5, 3) := by decide +kernel
theorem dX4_find_17 : decode cX4_find 17 = .ok (.aload_n 2, 1) := by decide +kernel
theorem dX4_find_18 : decode cX4_find 18 = .ok (.areturn, 1) := by decide +kernel
theorem dX4_find_19 : decode cX4_find 19 = .ok (.aload_n 2, 1) := by decide +kernel
theorem dX4_find_20 : decode cX4_find 20 = .ok (.getfield 44, 3) := by decide +kernel
theorem dX4_find_23 : decode cX4_find 23 = .ok (.astore_n 2, 1) := by decide +kernel
theorem dX4_find_24 : decode cX4_find 24 = .ok (.goto (-19), 3) := by decide +kernel
theorem dX4_find_27 : decode cX4_find 27 = .ok (.aconst_null, 1) := by decide +kernel
theorem dX4_find_28 : decode cX4_find 28 = .ok (.areturn, 1) := by decide +kernel
def vb_X4_find_5 (post : Nat → mj_M → Prop) : Nat → Int32 → Nat → mj_M → Prop
  | 0 => fun _ _ _ => False
  | f + 1 => fun l1 l2 M => if l2 = 0 then (post 0 M) else (mj_tag M l2 = 4 ∧ if (mj_i M l2 0) = l1 then (post l2 M) else (vb_X4_find_5 post f l1 (mj_r M l2 1) M))
def vc_X4_find (l0 : Nat) (l1 : Int32) (M : mj_M) (post : Nat → mj_M → Prop) : Prop := mj_tag M l0 = 5 ∧ vb_X4_find_5 post 60 l1 (mj_r M l0 1) M
set_option maxHeartbeats 4000000 in
set_option maxRecDepth 100000 in
theorem xb_X4_find_5 {g : mj_G} {post : Nat → mj_M → Prop} (hC : mj_C g yX4_find cX4_find 3 (some (.object "LeaseLand$Holding")) rm_X4_find) (hE : mj_E g mj_jR post 0 0) : ∀ (f : Nat) (l1 : Int32) (l2 : Nat) (M : mj_M), vb_X4_find_5 post f l1 l2 M → mj_X g 5 [(1, vI l1), (2, vR l2)] [] M 0 0 := by
  intro f
  induction f with
  | zero => exact fun _ _ _ h => absurd h (fun z => z)
  | succ f ih =>
    intro l1 l2 M h
    simp only [vb_X4_find_5] at h
    refine mx_aload_n (j := 1) hC dX4_find_5 rfl rfl ?_
    refine mx_ifnull (tgt := 27) hC dX4_find_6 (by decide) (fun hc1 => ?_) (fun hc1 => ?_)
    · replace h := mj_yy hc1 h
      refine mx_null hC dX4_find_27 ?_
      exact mx_aret hC hE rfl (Or.inl ⟨_, rfl⟩) dX4_find_28 h
    · replace h := mj_nn hc1 h
      refine mx_aload_n (j := 1) hC dX4_find_9 rfl rfl ?_
      obtain ⟨ht2, h⟩ := h
      refine mx_get (v := vI (mj_i M l2 0)) hC tf_X4_41 ht2 rfl dX4_find_10 ?_
      refine mx_iload_n (j := 0) hC dX4_find_13 rfl rfl ?_
      refine mx_icmpne (tgt := 19) hC dX4_find_14 (by decide) (fun hc3 => ?_) (fun hc3 => ?_)
      · replace h := mj_nn hc3 h
        refine mx_aload_n (j := 1) hC dX4_find_19 rfl rfl ?_
        refine mx_get (v := vR (mj_r M l2 1)) hC tf_X4_44 ht2 rfl dX4_find_20 ?_
        refine mx_astore_n (L' := [(2, vR (mj_r M l2 1)), (1, vI l1)]) hC dX4_find_23 rfl (by decide) rfl ?_
        refine mx_goto (tgt := 5) hC dX4_find_24 (by decide) ?_
        refine mx_sub (L' := [(1, vI l1), (2, vR (mj_r M l2 1))]) [1, 0] rfl ?_
        exact show mj_X g 5 [(1, vI l1), (2, vR (mj_r M l2 1))] [] M 0 0 from (ih l1 (mj_r M l2 1) M h)
      · replace h := mj_yy hc3 h
        refine mx_aload_n (j := 1) hC dX4_find_17 rfl rfl ?_
        exact mx_aret hC hE rfl (Or.inl ⟨_, rfl⟩) dX4_find_18 h
set_option maxHeartbeats 4000000 in
set_option maxRecDepth 100000 in
theorem ct_X4_find {l : Launch} {base : Nat} {D : va_G} {A : mj_AT} (l0 : Nat) (l1 : Int32) (M : mj_M) (post : Nat → mj_M → Prop) (h : vc_X4_find l0 l1 M post) : mj_Met l base D A mj_jR yX4_find cX4_find 3 (some (.object "LeaseLand$Holding")) rm_X4_find 0 0 [vR l0, vI l1] M post := by
  refine mj_entry (by decide +kernel) (Nat.le_of_ble_eq_true rfl) (fun g hC hE h1 h2 h3 h4 => ?_)
  show mj_X g 0 [(0, vR l0), (1, vI l1)] [] M 0 0
  simp only [vc_X4_find] at h
  refine mx_aload_n (j := 0) hC dX4_find_0 rfl rfl ?_
  obtain ⟨ht4, h⟩ := h
  refine mx_get (v := vR (mj_r M l0 1)) hC tf_X4_37 ht4 rfl dX4_find_1 ?_
  refine mx_astore_n (L' := [(2, vR (mj_r M l0 1)), (0, vR l0), (1, vI l1)]) hC dX4_find_4 rfl (by decide) rfl ?_
  refine mx_sub (L' := [(1, vI l1), (2, vR (mj_r M l0 1))]) [2, 0] rfl ?_
  exact show mj_X g 5 [(1, vI l1), (2, vR (mj_r M l0 1))] [] M 0 0 from (xb_X4_find_5 hC hE 60 l1 (mj_r M l0 1) M h)
theorem tw303 : (Jvm.Cond.fieldLink "LeaseLand$Land" (51 : Nat) "LeaseLand$Holding" "out" "LLeaseLand$Holding;") ∈ mj_tbl := mj_w 309 (by decide +kernel) (by decide +kernel)
theorem tf_X4_51 : mj_F 3 2 (.object "LeaseLand$Holding") false "LeaseLand$Land" 51 := ⟨_, tk3, by decide, rfl, rfl, rfl, tw303⟩
theorem tw451 : (Jvm.Cond.methodLink "LeaseLand$Land" (47 : Nat) ({ cls := "LeaseLand$Land", name := "find", desc := "(I)LLeaseLand$Holding;" } : Jvm.MethodName)) ∈ mj_tbl := mj_w 457 (by decide +kernel) (by decide +kernel)
theorem tw380 : (Jvm.Cond.code ({ cls := "LeaseLand$Land", name := "find", desc := "(I)LLeaseLand$Holding;" } : Jvm.MethodName) prog_6_method_4_code (3 : Nat) (Option.some (Jvm.ClassFile.FieldType.object "LeaseLand$Holding"))) ∈ mj_tbl := mj_w 386 (by decide +kernel) (by decide +kernel)
theorem tw2 : (Jvm.Cond.initialized "LeaseLand$Land") ∈ mj_tbl := mj_w 8 (by decide +kernel) (by decide +kernel)
theorem tw378 : (Jvm.Cond.instanceMethod ({ cls := "LeaseLand$Land", name := "find", desc := "(I)LLeaseLand$Holding;" } : Jvm.MethodName)) ∈ mj_tbl := mj_w 384 (by decide +kernel) (by decide +kernel)
theorem tw379 : (Jvm.Cond.selects "LeaseLand$Land" ({ cls := "LeaseLand$Land", name := "find", desc := "(I)LLeaseLand$Holding;" } : Jvm.MethodName) ({ cls := "LeaseLand$Land", name := "find", desc := "(I)LLeaseLand$Holding;" } : Jvm.MethodName)) ∈ mj_tbl := mj_w 385 (by decide +kernel) (by decide +kernel)
theorem ty_X4_find : mj_YV 4 yX4_find cX4_find 3 (some (.object "LeaseLand$Holding")) 1 := ⟨⟨tw380, tw2, by decide +kernel, by decide +kernel, by decide +kernel⟩, tw378, tw379, _, rfl, rfl⟩
def rm_X4_findLease : Room := { frames := 1, cells := 0, slots := 0, locals := 22 }
theorem dX4_findLease_0 : decode cX4_findLease 0 = .ok (.aload_n 0, 1) := by decide +kernel
theorem dX4_findLease_1 : decode cX4_findLease 1 = .ok (.iload_n 1, 1) := by decide +kernel
theorem dX4_findLease_2 : decode cX4_findLease 2 = .ok (.invokevirtual 47, 3) := by decide +kernel
theorem dX4_findLease_5 : decode cX4_findLease 5 = .ok (.astore_n 2, 1) := by decide +kernel
theorem dX4_findLease_6 : decode cX4_findLease 6 = .ok (.aload_n 2, 1) := by decide +kernel
theorem dX4_findLease_7 : decode cX4_findLease 7 = .ok (.ifnull 14, 3) := by decide +kernel
theorem dX4_findLease_10 : decode cX4_findLease 10 = .ok (.aload_n 2, 1) := by decide +kernel
theorem dX4_findLease_11 : decode cX4_findLease 11 = .ok (.getfield 51, 3) := by decide +kernel
theorem dX4_findLease_14 : decode cX4_findLease 14 = .ok (.ifnull 7, 3) := by decide +kernel
theorem dX4_findLease_17 : decode cX4_findLease 17 = .ok (.aload_n 2, 1) := by decide +kernel
theorem dX4_findLease_18 : decode cX4_findLease 18 = .ok (.goto 4, 3) := by decide +kernel
theorem dX4_findLease_21 : decode cX4_findLease 21 = .ok (.aconst_null, 1) := by decide +kernel
theorem dX4_findLease_22 : decode cX4_findLease 22 = .ok (.areturn, 1) := by decide +kernel
def vc_X4_findLease (l0 : Nat) (l1 : Int32) (M : mj_M) (post : Nat → mj_M → Prop) : Prop := mj_tag M l0 = 5 ∧ vc_X4_find l0 l1 M (fun r2 M3 => if r2 = 0 then (post 0 M3) else (mj_tag M3 r2 = 4 ∧ if (mj_r M3 r2 2) = 0 then (post 0 M3) else (post r2 M3)))
set_option maxHeartbeats 4000000 in
set_option maxRecDepth 100000 in
theorem ct_X4_findLease {l : Launch} {base : Nat} {D : va_G} {A : mj_AT} (l0 : Nat) (l1 : Int32) (M : mj_M) (post : Nat → mj_M → Prop) (h : vc_X4_findLease l0 l1 M post) : mj_Met l base D A mj_jR yX4_findLease cX4_findLease 3 (some (.object "LeaseLand$Holding")) rm_X4_findLease 0 0 [vR l0, vI l1] M post := by
  refine mj_entry (by decide +kernel) (Nat.le_of_ble_eq_true rfl) (fun g hC hE h1 h2 h3 h4 => ?_)
  show mj_X g 0 [(0, vR l0), (1, vI l1)] [] M 0 0
  simp only [vc_X4_findLease] at h
  refine mx_aload_n (j := 0) hC dX4_findLease_0 rfl rfl ?_
  refine mx_iload_n (j := 1) hC dX4_findLease_1 rfl rfl ?_
  obtain ⟨ht1, h⟩ := h
  refine mx_callV (inj := mj_jR) (As := [vI l1]) (st := []) hC (ct_X4_find l0 l1 M _ h) ty_X4_find tw451 ht1 rfl (Nat.le_of_ble_eq_true rfl) ⟨rfl, rfl, ⟨by decide, by decide⟩, by decide, by decide⟩ dX4_findLease_2 (fun r2 M3 h => ?_)
  show mj_X g 5 [(0, vR l0), (1, vI l1)] [vR r2] M3 0 0
  refine mx_astore_n (L' := [(2, vR r2), (0, vR l0), (1, vI l1)]) hC dX4_findLease_5 rfl (by decide) rfl ?_
  refine mx_aload_n (j := 0) hC dX4_findLease_6 rfl rfl ?_
  refine mx_ifnull (tgt := 21) hC dX4_findLease_7 (by decide) (fun hc4 => ?_) (fun hc4 => ?_)
  · replace h := mj_yy hc4 h
    refine mx_null hC dX4_findLease_21 ?_
    exact mx_aret hC hE rfl (Or.inl ⟨_, rfl⟩) dX4_findLease_22 h
  · replace h := mj_nn hc4 h
    refine mx_aload_n (j := 0) hC dX4_findLease_10 rfl rfl ?_
    obtain ⟨ht5, h⟩ := h
    refine mx_get (v := vR (mj_r M3 r2 2)) hC tf_X4_51 ht5 rfl dX4_findLease_11 ?_
    refine mx_ifnull (tgt := 21) hC dX4_findLease_14 (by decide) (fun hc6 => ?_) (fun hc6 => ?_)
    · replace h := mj_yy hc6 h
      refine mx_null hC dX4_findLease_21 ?_
      exact mx_aret hC hE rfl (Or.inl ⟨_, rfl⟩) dX4_findLease_22 h
    · replace h := mj_nn hc6 h
      refine mx_aload_n (j := 0) hC dX4_findLease_17 rfl rfl ?_
      refine mx_goto (tgt := 22) hC dX4_findLease_18 (by decide) ?_
      exact mx_aret hC hE rfl (Or.inl ⟨_, rfl⟩) dX4_findLease_22 h
def rm_X4_findWhole : Room := { frames := 1, cells := 0, slots := 0, locals := 22 }
theorem dX4_findWhole_0 : decode cX4_findWhole 0 = .ok (.aload_n 0, 1) := by decide +kernel
theorem dX4_findWhole_1 : decode cX4_findWhole 1 = .ok (.iload_n 1, 1) := by decide +kernel
theorem dX4_findWhole_2 : decode cX4_findWhole 2 = .ok (.invokevirtual 47, 3) := by decide +kernel
theorem dX4_findWhole_5 : decode cX4_findWhole 5 = .ok (.astore_n 2, 1) := by decide +kernel
theorem dX4_findWhole_6 : decode cX4_findWhole 6 = .ok (.aload_n 2, 1) := by decide +kernel
theorem dX4_findWhole_7 : decode cX4_findWhole 7 = .ok (.ifnull 14, 3) := by decide +kernel
theorem dX4_findWhole_10 : decode cX4_findWhole 10 = .ok (.aload_n 2, 1) := by decide +kernel
theorem dX4_findWhole_11 : decode cX4_findWhole 11 = .ok (.getfield 51, 3) := by decide +kernel
theorem dX4_findWhole_14 : decode cX4_findWhole 14 = .ok (.ifnonnull 7, 3) := by decide +kernel
theorem dX4_findWhole_17 : decode cX4_findWhole 17 = .ok (.aload_n 2, 1) := by decide +kernel
theorem dX4_findWhole_18 : decode cX4_findWhole 18 = .ok (.goto 4, 3) := by decide +kernel
theorem dX4_findWhole_21 : decode cX4_findWhole 21 = .ok (.aconst_null, 1) := by decide +kernel
theorem dX4_findWhole_22 : decode cX4_findWhole 22 = .ok (.areturn, 1) := by decide +kernel
def vc_X4_findWhole (l0 : Nat) (l1 : Int32) (M : mj_M) (post : Nat → mj_M → Prop) : Prop := mj_tag M l0 = 5 ∧ vc_X4_find l0 l1 M (fun r2 M3 => if r2 = 0 then (post 0 M3) else (mj_tag M3 r2 = 4 ∧ if (mj_r M3 r2 2) = 0 then (post r2 M3) else (post 0 M3)))
set_option maxHeartbeats 4000000 in
set_option maxRecDepth 100000 in
theorem ct_X4_findWhole {l : Launch} {base : Nat} {D : va_G} {A : mj_AT} (l0 : Nat) (l1 : Int32) (M : mj_M) (post : Nat → mj_M → Prop) (h : vc_X4_findWhole l0 l1 M post) : mj_Met l base D A mj_jR yX4_findWhole cX4_findWhole 3 (some (.object "LeaseLand$Holding")) rm_X4_findWhole 0 0 [vR l0, vI l1] M post := by
  refine mj_entry (by decide +kernel) (Nat.le_of_ble_eq_true rfl) (fun g hC hE h1 h2 h3 h4 => ?_)
  show mj_X g 0 [(0, vR l0), (1, vI l1)] [] M 0 0
  simp only [vc_X4_findWhole] at h
  refine mx_aload_n (j := 0) hC dX4_findWhole_0 rfl rfl ?_
  refine mx_iload_n (j := 1) hC dX4_findWhole_1 rfl rfl ?_
  obtain ⟨ht1, h⟩ := h
  refine mx_callV (inj := mj_jR) (As := [vI l1]) (st := []) hC (ct_X4_find l0 l1 M _ h) ty_X4_find tw451 ht1 rfl (Nat.le_of_ble_eq_true rfl) ⟨rfl, rfl, ⟨by decide, by decide⟩, by decide, by decide⟩ dX4_findWhole_2 (fun r2 M3 h => ?_)
  show mj_X g 5 [(0, vR l0), (1, vI l1)] [vR r2] M3 0 0
  refine mx_astore_n (L' := [(2, vR r2), (0, vR l0), (1, vI l1)]) hC dX4_findWhole_5 rfl (by decide) rfl ?_
  refine mx_aload_n (j := 0) hC dX4_findWhole_6 rfl rfl ?_
  refine mx_ifnull (tgt := 21) hC dX4_findWhole_7 (by decide) (fun hc4 => ?_) (fun hc4 => ?_)
  · replace h := mj_yy hc4 h
    refine mx_null hC dX4_findWhole_21 ?_
    exact mx_aret hC hE rfl (Or.inl ⟨_, rfl⟩) dX4_findWhole_22 h
  · replace h := mj_nn hc4 h
    refine mx_aload_n (j := 0) hC dX4_findWhole_10 rfl rfl ?_
    obtain ⟨ht5, h⟩ := h
    refine mx_get (v := vR (mj_r M3 r2 2)) hC tf_X4_51 ht5 rfl dX4_findWhole_11 ?_
    refine mx_ifnonnull (tgt := 21) hC dX4_findWhole_14 (by decide) (fun hc6 => ?_) (fun hc6 => ?_)
    · replace h := mj_nn hc6 h
      refine mx_null hC dX4_findWhole_21 ?_
      exact mx_aret hC hE rfl (Or.inl ⟨_, rfl⟩) dX4_findWhole_22 h
    · replace h := mj_yy hc6 h
      refine mx_aload_n (j := 0) hC dX4_findWhole_17 rfl rfl ?_
      refine mx_goto (tgt := 22) hC dX4_findWhole_18 (by decide) ?_
      exact mx_aret hC hE rfl (Or.inl ⟨_, rfl⟩) dX4_findWhole_22 h
theorem tw42 : (Jvm.Cond.fieldLink "LeaseLand$Land" (54 : Nat) "LeaseLand$Land" "last" "LLeaseLand$Holding;") ∈ mj_tbl := mj_w 48 (by decide +kernel) (by decide +kernel)
theorem tf_X4_54 : mj_F 4 2 (.object "LeaseLand$Holding") false "LeaseLand$Land" 54 := ⟨_, tk4, by decide, rfl, rfl, rfl, tw42⟩
def rm_X4_add : Room := { frames := 0, cells := 0, slots := 0, locals := 0 }
theorem dX4_add_0 : decode cX4_add 0 = .ok (.aload_n 1, 1) := by decide +kernel
theorem dX4_add_1 : decode cX4_add 1 = .ok (.aload_n 0, 1) := by decide +kernel
theorem dX4_add_2 : decode cX4_add 2 = .ok (.getfield 24, 3) := by decide +kernel
theorem dX4_add_5 : decode cX4_add 5 = .ok (.putfield 41, 3) := by decide +kernel
theorem dX4_add_8 : decode cX4_add 8 = .ok (.aload_n 0, 1) := by decide +kernel
theorem dX4_add_9 : decode cX4_add 9 = .ok (.getfield 54, 3) := by decide +kernel
theorem dX4_add_12 : decode cX4_add 12 = .ok (.ifnonnull 11, 3) := by decide +kernel
theorem dX4_add_15 : decode cX4_add 15 = .ok (.aload_n 0, 1) := by decide +kernel
theorem dX4_add_16 : decode cX4_add 16 = .ok (.aload_n 1, 1) := by decide +kernel
theorem dX4_add_17 : decode cX4_add 17 = .ok (.putfield 37, 3) := by decide +kernel
theorem dX4_add_20 : decode cX4_add 20 = .ok (.goto 11, 3) := by decide +kernel
theorem dX4_add_23 : decode cX4_add 23 = .ok (.aload_n 0, 1) := by decide +kernel
theorem dX4_add_24 : decode cX4_add 24 = .ok (.getfield 54, 3) := by decide +kernel
theorem dX4_add_27 : decode cX4_add 27 = .ok (.aload_n 1, 1) := by decide +kernel
theorem dX4_add_28 : decode cX4_add 28 = .ok (.putfield 44, 3) := by decide +kernel
theorem dX4_add_31 : decode cX4_add 31 = .ok (.aload_n 0, 1) := by decide +kernel
theorem dX4_add_32 : decode cX4_add 32 = .ok (.aload_n 1, 1) := by decide +kernel
theorem dX4_add_33 : decode cX4_add 33 = .ok (.putfield 54, 3) := by decide +kernel
theorem dX4_add_36 : decode cX4_add 36 = .ok (.aload_n 0, 1) := by decide +kernel
theorem dX4_add_37 : decode cX4_add 37 = .ok (.dup, 1) := by decide +kernel
theorem dX4_add_38 : decode cX4_add 38 = .ok (.getfield 24, 3) := by decide +kernel
theorem dX4_add_41 : decode cX4_add 41 = .ok (.iconst 1, 1) := by decide +kernel
theorem dX4_add_42 : decode cX4_add 42 = .ok (.iadd, 1) := by decide +kernel
theorem dX4_add_43 : decode cX4_add 43 = .ok (.putfield 24, 3) := by decide +kernel
theorem dX4_add_46 : decode cX4_add 46 = .ok (.aload_n 1, 1) := by decide +kernel
theorem dX4_add_47 : decode cX4_add 47 = .ok (.getfield 41, 3) := by decide +kernel
theorem dX4_add_50 : decode cX4_add 50 = .ok (.ireturn, 1) := by decide +kernel
def vb_X4_add_31 (post : Int32 → mj_M → Prop) (l0 : Nat) (l1 : Nat) (M : mj_M) : Prop := mj_tag M l0 = 5 ∧ mj_tag M l1 = 4 ∧ post (mj_i (mj_wi (mj_wr M l0 2 l1) l0 3 ((mj_i M l0 3) + 1)) l1 0) (mj_wi (mj_wr M l0 2 l1) l0 3 ((mj_i M l0 3) + 1))
def vc_X4_add (l0 : Nat) (l1 : Nat) (M : mj_M) (post : Int32 → mj_M → Prop) : Prop := mj_tag M l0 = 5 ∧ mj_tag M l1 = 4 ∧ if (mj_r M l0 2) = 0 then (vb_X4_add_31 post l0 l1 (mj_wr (mj_wi M l1 0 (mj_i M l0 3)) l0 1 l1)) else (mj_tag M (mj_r M l0 2) = 4 ∧ vb_X4_add_31 post l0 l1 (mj_wr (mj_wi M l1 0 (mj_i M l0 3)) (mj_r M l0 2) 1 l1))
set_option maxHeartbeats 4000000 in
set_option maxRecDepth 100000 in
theorem xb_X4_add_31 {g : mj_G} {post : Int32 → mj_M → Prop} (hC : mj_C g yX4_add cX4_add 2 (some .int) rm_X4_add) (hE : mj_E g mj_jI post 0 0) (l0 : Nat) (l1 : Nat) (M : mj_M) (h : vb_X4_add_31 post l0 l1 M) : mj_X g 31 [(0, vR l0), (1, vR l1)] [] M 0 0 := by
  simp only [vb_X4_add_31] at h
  refine mx_aload_n (j := 0) hC dX4_add_31 rfl rfl ?_
  refine mx_aload_n (j := 1) hC dX4_add_32 rfl rfl ?_
  obtain ⟨ht1, h⟩ := h
  refine mx_put (v := vR l1) (M1 := mj_wr M l0 2 l1) hC tf_X4_54 ht1 (Or.inl rfl) (mj_fitR l1 _) (mj_off_wr _ _ _ _) mj_put_wr dX4_add_33 ?_
  refine mx_aload_n (j := 0) hC dX4_add_36 rfl rfl ?_
  refine mx_dup hC dX4_add_37 rfl ?_
  refine mx_get (v := vI (mj_i M l0 3)) hC tf_X4_24 ht1 rfl dX4_add_38 ?_
  refine mx_iconst (v := 1) hC dX4_add_41 (by decide) ?_
  refine mx_iadd hC dX4_add_42 ?_
  refine mx_put (v := vI ((mj_i M l0 3) + 1)) (M1 := mj_wi (mj_wr M l0 2 l1) l0 3 ((mj_i M l0 3) + 1)) hC tf_X4_24 ht1 (Or.inl rfl) ⟨rfl, rfl⟩ (mj_off_wi _ _ _ _) mj_put_wi dX4_add_43 ?_
  refine mx_aload_n (j := 1) hC dX4_add_46 rfl rfl ?_
  obtain ⟨ht2, h⟩ := h
  refine mx_get (v := vI (mj_i (mj_wi (mj_wr M l0 2 l1) l0 3 ((mj_i M l0 3) + 1)) l1 0)) hC tf_X4_41 ht2 rfl dX4_add_47 ?_
  exact mx_iret hC hE rfl dX4_add_50 h
set_option maxHeartbeats 4000000 in
set_option maxRecDepth 100000 in
theorem ct_X4_add {l : Launch} {base : Nat} {D : va_G} {A : mj_AT} (l0 : Nat) (l1 : Nat) (M : mj_M) (post : Int32 → mj_M → Prop) (h : vc_X4_add l0 l1 M post) : mj_Met l base D A mj_jI yX4_add cX4_add 2 (some .int) rm_X4_add 0 0 [vR l0, vR l1] M post := by
  refine mj_entry (by decide +kernel) (Nat.le_of_ble_eq_true rfl) (fun g hC hE h1 h2 h3 h4 => ?_)
  show mj_X g 0 [(0, vR l0), (1, vR l1)] [] M 0 0
  simp only [vc_X4_add] at h
  refine mx_aload_n (j := 1) hC dX4_add_0 rfl rfl ?_
  refine mx_aload_n (j := 0) hC dX4_add_1 rfl rfl ?_
  obtain ⟨ht3, h⟩ := h
  refine mx_get (v := vI (mj_i M l0 3)) hC tf_X4_24 ht3 rfl dX4_add_2 ?_
  obtain ⟨ht4, h⟩ := h
  refine mx_put (v := vI (mj_i M l0 3)) (M1 := mj_wi M l1 0 (mj_i M l0 3)) hC tf_X4_41 ht4 (Or.inl rfl) ⟨rfl, rfl⟩ (mj_off_wi _ _ _ _) mj_put_wi dX4_add_5 ?_
  refine mx_aload_n (j := 0) hC dX4_add_8 rfl rfl ?_
  refine mx_get (v := vR (mj_r M l0 2)) hC tf_X4_54 ht3 rfl dX4_add_9 ?_
  refine mx_ifnonnull (tgt := 23) hC dX4_add_12 (by decide) (fun hc5 => ?_) (fun hc5 => ?_)
  · replace h := mj_nn hc5 h
    refine mx_aload_n (j := 0) hC dX4_add_23 rfl rfl ?_
    refine mx_get (v := vR (mj_r M l0 2)) hC tf_X4_54 ht3 rfl dX4_add_24 ?_
    refine mx_aload_n (j := 1) hC dX4_add_27 rfl rfl ?_
    obtain ⟨ht6, h⟩ := h
    refine mx_put (v := vR l1) (M1 := mj_wr (mj_wi M l1 0 (mj_i M l0 3)) (mj_r M l0 2) 1 l1) hC tf_X4_44 ht6 (Or.inl rfl) (mj_fitR l1 _) (mj_off_wr _ _ _ _) mj_put_wr dX4_add_28 ?_
    refine mx_sub (L' := [(0, vR l0), (1, vR l1)]) [0, 1] rfl ?_
    exact show mj_X g 31 [(0, vR l0), (1, vR l1)] [] (mj_wr (mj_wi M l1 0 (mj_i M l0 3)) (mj_r M l0 2) 1 l1) 0 0 from (xb_X4_add_31 hC hE l0 l1 (mj_wr (mj_wi M l1 0 (mj_i M l0 3)) (mj_r M l0 2) 1 l1) h)
  · replace h := mj_yy hc5 h
    refine mx_aload_n (j := 0) hC dX4_add_15 rfl rfl ?_
    refine mx_aload_n (j := 1) hC dX4_add_16 rfl rfl ?_
    refine mx_put (v := vR l1) (M1 := mj_wr (mj_wi M l1 0 (mj_i M l0 3)) l0 1 l1) hC tf_X4_37 ht3 (Or.inl rfl) (mj_fitR l1 _) (mj_off_wr _ _ _ _) mj_put_wr dX4_add_17 ?_
    refine mx_goto (tgt := 31) hC dX4_add_20 (by decide) ?_
    refine mx_sub (L' := [(0, vR l0), (1, vR l1)]) [0, 1] rfl ?_
    exact show mj_X g 31 [(0, vR l0), (1, vR l1)] [] (mj_wr (mj_wi M l1 0 (mj_i M l0 3)) l0 1 l1) 0 0 from (xb_X4_add_31 hC hE l0 l1 (mj_wr (mj_wi M l1 0 (mj_i M l0 3)) l0 1 l1) h)
theorem tw308 : (Jvm.Cond.fieldLink "LeaseLand$Land" (57 : Nat) "LeaseLand$Holding" "floors" "I") ∈ mj_tbl := mj_w 314 (by decide +kernel) (by decide +kernel)
theorem tf_X4_57 : mj_F 3 3 .int false "LeaseLand$Land" 57 := ⟨_, tk3, by decide, rfl, rfl, rfl, tw308⟩
def rm_X4_isOwned : Room := { frames := 0, cells := 0, slots := 0, locals := 0 }
theorem dX4_isOwned_0 : decode cX4_isOwned 0 = .ok (.aload_n 0, 1) := by decide +kernel
theorem dX4_isOwned_1 : decode cX4_isOwned 1 = .ok (.getfield 37, 3) := by decide +kernel
theorem dX4_isOwned_4 : decode cX4_isOwned 4 = .ok (.astore_n 2, 1) := by decide +kernel
theorem dX4_isOwned_5 : decode cX4_isOwned 5 = .ok (.aload_n 2, 1) := by decide +kernel
theorem dX4_isOwned_6 : decode cX4_isOwned 6 = .ok (.ifnull 29, 3) := by decide +kernel
theorem dX4_isOwned_9 : decode cX4_isOwned 9 = .ok (.aload_n 2, 1) := by decide +kernel
theorem dX4_isOwned_10 : decode cX4_isOwned 10 = .ok (.getfield 51, 3) := by decide +kernel
theorem dX4_isOwned_13 : decode cX4_isOwned 13 = .ok (.ifnonnull 14, 3) := by decide +kernel
theorem dX4_isOwned_16 : decode cX4_isOwned 16 = .ok (.aload_n 2, 1) := by decide +kernel
theorem dX4_isOwned_17 : decode cX4_isOwned 17 = .ok (.getfield 57, 3) := by decide +kernel
theorem dX4_isOwned_20 : decode cX4_isOwned 20 = .ok (.iload_n 1, 1) := by decide +kernel
theorem dX4_isOwned_21 : decode cX4_isOwned 21 = .ok (.iand, 1) := by decide +kernel
theorem dX4_isOwned_22 : decode cX4_isOwned 22 = .ok (.ifCond .eq 5, 3) := by decide +kernel
theorem dX4_isOwned_25 : decode cX4_isOwned 25 = .ok (.iconst 1, 1) := by decide +kernel
theorem dX4_isOwned_26 : decode cX4_isOwned 26 = .ok (.ireturn, 1) := by decide +kernel
theorem dX4_isOwned_27 : decode cX4_isOwned 27 = .ok (.aload_n 2, 1) := by decide +kernel
theorem dX4_isOwned_28 : decode cX4_isOwned 28 = .ok (.getfield 44, 3) := by decide +kernel
theorem dX4_isOwned_31 : decode cX4_isOwned 31 = .ok (.astore_n 2, 1) := by decide +kernel
theorem dX4_isOwned_32 : decode cX4_isOwned 32 = .ok (.goto (-27), 3) := by decide +kernel
theorem dX4_isOwned_35 : decode cX4_isOwned 35 = .ok (.iconst 0, 1) := by decide +kernel
theorem dX4_isOwned_36 : decode cX4_isOwned 36 = .ok (.ireturn, 1) := by decide +kernel
def vb_X4_isOwned_5 (post : Bool → mj_M → Prop) : Nat → Int32 → Nat → mj_M → Prop
  | 0 => fun _ _ _ => False
  | f + 1 => fun l1 l2 M => if l2 = 0 then (post false M) else (mj_tag M l2 = 4 ∧ if (mj_r M l2 2) = 0 then (if ((mj_i M l2 3) &&& l1) = 0 then (vb_X4_isOwned_5 post f l1 (mj_r M l2 1) M) else (post true M)) else (vb_X4_isOwned_5 post f l1 (mj_r M l2 1) M))
def vc_X4_isOwned (l0 : Nat) (l1 : Int32) (M : mj_M) (post : Bool → mj_M → Prop) : Prop := mj_tag M l0 = 5 ∧ vb_X4_isOwned_5 post 60 l1 (mj_r M l0 1) M
set_option maxHeartbeats 4000000 in
set_option maxRecDepth 100000 in
theorem xb_X4_isOwned_5 {g : mj_G} {post : Bool → mj_M → Prop} (hC : mj_C g yX4_isOwned cX4_isOwned 3 (some .boolean) rm_X4_isOwned) (hE : mj_E g mj_jB post 0 0) : ∀ (f : Nat) (l1 : Int32) (l2 : Nat) (M : mj_M), vb_X4_isOwned_5 post f l1 l2 M → mj_X g 5 [(1, vI l1), (2, vR l2)] [] M 0 0 := by
  intro f
  induction f with
  | zero => exact fun _ _ _ h => absurd h (fun z => z)
  | succ f ih =>
    intro l1 l2 M h
    simp only [vb_X4_isOwned_5] at h
    refine mx_aload_n (j := 1) hC dX4_isOwned_5 rfl rfl ?_
    refine mx_ifnull (tgt := 35) hC dX4_isOwned_6 (by decide) (fun hc1 => ?_) (fun hc1 => ?_)
    · replace h := mj_yy hc1 h
      refine mx_iconst (v := 0) hC dX4_isOwned_35 (by decide) ?_
      exact mx_zret (b := false) hC hE rfl dX4_isOwned_36 h
    · replace h := mj_nn hc1 h
      refine mx_aload_n (j := 1) hC dX4_isOwned_9 rfl rfl ?_
      obtain ⟨ht2, h⟩ := h
      refine mx_get (v := vR (mj_r M l2 2)) hC tf_X4_51 ht2 rfl dX4_isOwned_10 ?_
      refine mx_ifnonnull (tgt := 27) hC dX4_isOwned_13 (by decide) (fun hc3 => ?_) (fun hc3 => ?_)
      · replace h := mj_nn hc3 h
        refine mx_aload_n (j := 1) hC dX4_isOwned_27 rfl rfl ?_
        refine mx_get (v := vR (mj_r M l2 1)) hC tf_X4_44 ht2 rfl dX4_isOwned_28 ?_
        refine mx_astore_n (L' := [(2, vR (mj_r M l2 1)), (1, vI l1)]) hC dX4_isOwned_31 rfl (by decide) rfl ?_
        refine mx_goto (tgt := 5) hC dX4_isOwned_32 (by decide) ?_
        refine mx_sub (L' := [(1, vI l1), (2, vR (mj_r M l2 1))]) [1, 0] rfl ?_
        exact show mj_X g 5 [(1, vI l1), (2, vR (mj_r M l2 1))] [] M 0 0 from (ih l1 (mj_r M l2 1) M h)
      · replace h := mj_yy hc3 h
        refine mx_aload_n (j := 1) hC dX4_isOwned_16 rfl rfl ?_
        refine mx_get (v := vI (mj_i M l2 3)) hC tf_X4_57 ht2 rfl dX4_isOwned_17 ?_
        refine mx_iload_n (j := 0) hC dX4_isOwned_20 rfl rfl ?_
        refine mx_iand hC dX4_isOwned_21 ?_
        refine mx_ifeq (tgt := 27) hC dX4_isOwned_22 (by decide) (fun hc4 => ?_) (fun hc4 => ?_)
        · replace h := mj_yy hc4 h
          refine mx_aload_n (j := 1) hC dX4_isOwned_27 rfl rfl ?_
          refine mx_get (v := vR (mj_r M l2 1)) hC tf_X4_44 ht2 rfl dX4_isOwned_28 ?_
          refine mx_astore_n (L' := [(2, vR (mj_r M l2 1)), (1, vI l1)]) hC dX4_isOwned_31 rfl (by decide) rfl ?_
          refine mx_goto (tgt := 5) hC dX4_isOwned_32 (by decide) ?_
          refine mx_sub (L' := [(1, vI l1), (2, vR (mj_r M l2 1))]) [1, 0] rfl ?_
          exact show mj_X g 5 [(1, vI l1), (2, vR (mj_r M l2 1))] [] M 0 0 from (ih l1 (mj_r M l2 1) M h)
        · replace h := mj_nn hc4 h
          refine mx_iconst (v := 1) hC dX4_isOwned_25 (by decide) ?_
          exact mx_zret (b := true) hC hE rfl dX4_isOwned_26 h
set_option maxHeartbeats 4000000 in
set_option maxRecDepth 100000 in
theorem ct_X4_isOwned {l : Launch} {base : Nat} {D : va_G} {A : mj_AT} (l0 : Nat) (l1 : Int32) (M : mj_M) (post : Bool → mj_M → Prop) (h : vc_X4_isOwned l0 l1 M post) : mj_Met l base D A mj_jB yX4_isOwned cX4_isOwned 3 (some .boolean) rm_X4_isOwned 0 0 [vR l0, vI l1] M post := by
  refine mj_entry (by decide +kernel) (Nat.le_of_ble_eq_true rfl) (fun g hC hE h1 h2 h3 h4 => ?_)
  show mj_X g 0 [(0, vR l0), (1, vI l1)] [] M 0 0
  simp only [vc_X4_isOwned] at h
  refine mx_aload_n (j := 0) hC dX4_isOwned_0 rfl rfl ?_
  obtain ⟨ht5, h⟩ := h
  refine mx_get (v := vR (mj_r M l0 1)) hC tf_X4_37 ht5 rfl dX4_isOwned_1 ?_
  refine mx_astore_n (L' := [(2, vR (mj_r M l0 1)), (0, vR l0), (1, vI l1)]) hC dX4_isOwned_4 rfl (by decide) rfl ?_
  refine mx_sub (L' := [(1, vI l1), (2, vR (mj_r M l0 1))]) [2, 0] rfl ?_
  exact show mj_X g 5 [(1, vI l1), (2, vR (mj_r M l0 1))] [] M 0 0 from (xb_X4_isOwned_5 hC hE 60 l1 (mj_r M l0 1) M h)
theorem tw405 : (Jvm.Cond.methodLink "LeaseLand$Land" (60 : Nat) ({ cls := "LeaseLand$Holding", name := "meets", desc := "(III)Z" } : Jvm.MethodName)) ∈ mj_tbl := mj_w 411 (by decide +kernel) (by decide +kernel)
theorem tw408 : (Jvm.Cond.code ({ cls := "LeaseLand$Holding", name := "meets", desc := "(III)Z" } : Jvm.MethodName) prog_5_method_6_code (4 : Nat) (Option.some Jvm.ClassFile.FieldType.boolean)) ∈ mj_tbl := mj_w 414 (by decide +kernel) (by decide +kernel)
theorem tw406 : (Jvm.Cond.instanceMethod ({ cls := "LeaseLand$Holding", name := "meets", desc := "(III)Z" } : Jvm.MethodName)) ∈ mj_tbl := mj_w 412 (by decide +kernel) (by decide +kernel)
theorem tw407 : (Jvm.Cond.selects "LeaseLand$Holding" ({ cls := "LeaseLand$Holding", name := "meets", desc := "(III)Z" } : Jvm.MethodName) ({ cls := "LeaseLand$Holding", name := "meets", desc := "(III)Z" } : Jvm.MethodName)) ∈ mj_tbl := mj_w 413 (by decide +kernel) (by decide +kernel)
theorem ty_X3_meets : mj_YV 3 yX3_meets cX3_meets 4 (some .boolean) 3 := ⟨⟨tw408, tw11, by decide +kernel, by decide +kernel, by decide +kernel⟩, tw406, tw407, _, rfl, rfl⟩
def rm_X4_hasAnother : Room := { frames := 2, cells := 0, slots := 0, locals := 44 }
theorem dX4_hasAnother_0 : decode cX4_hasAnother 0 = .ok (.aload_n 0, 1) := by decide +kernel
theorem dX4_hasAnother_1 : decode cX4_hasAnother 1 = .ok (.getfield 37, 3) := by decide +kernel
theorem dX4_hasAnother_4 : decode cX4_hasAnother 4 = .ok (.astore 6, 2) := by decide +kernel
theorem dX4_hasAnother_6 : decode cX4_hasAnother 6 = .ok (.aload 6, 2) := by decide +kernel
theorem dX4_hasAnother_8 : decode cX4_hasAnother 8 = .ok (.ifnull 43, 3) := by decide +kernel
theorem dX4_hasAnother_11 : decode cX4_hasAnother 11 = .ok (.aload 6, 2) := by decide +kernel
theorem dX4_hasAnother_13 : decode cX4_hasAnother 13 = .ok (.getfield 51, 3) := by decide +kernel
theorem dX4_hasAnother_16 : decode cX4_hasAnother 16 = .ok (.aload_n 1, 1) := by decide +kernel
theorem dX4_hasAnother_17 : decode cX4_hasAnother 17 = .ok (.if_acmp .ne 24, 3) := by decide +kernel
theorem dX4_hasAnother_20 : decode cX4_hasAnother 20 = .ok (.aload 6, 2) := by decide +kernel
theorem dX4_hasAnother_22 : decode cX4_hasAnother 22 = .ok (.aload_n 2, 1) := by decide +kernel
theorem dX4_hasAnother_23 : decode cX4_hasAnother 23 = .ok (.if_acmp .eq 18, 3) := by decide +kernel
theorem dX4_hasAnother_26 : decode cX4_hasAnother 26 = .ok (.aload 6, 2) := by decide +kernel
theorem dX4_hasAnother_28 : decode cX4_hasAnother 28 = .ok (.iload_n 3, 1) := by decide +kernel
theorem dX4_hasAnother_29 : decode cX4_hasAnother 29 = .ok (.iload 4, 2) := by decide +kernel
theorem dX4_hasAnother_31 : decode cX4_hasAnother 31 = .ok (.iload 5, 2) := by decide +kernel
theorem dX4_hasAnother_33 : decode cX4_hasAnother 33 = .ok (.invokevirtual 60, 3) := by decide +kernel
theorem dX4_hasAnother_36 : decode cX4_hasAnother 36 = .ok (.ifCond .eq 5, 3) := by decide +kernel
theorem dX4_hasAnother_39 : decode cX4_hasAnother 39 = .ok (.iconst 1, 1) := by decide +kernel
theorem dX4_hasAnother_40 : decode cX4_hasAnother 40 = .ok (.ireturn, 1) := by decide +kernel
theorem dX4_hasAnother_41 : decode cX4_hasAnother 41 = .ok (.aload 6, 2) := by decide +kernel
theorem dX4_hasAnother_43 : decode cX4_hasAnother 43 = .ok (.getfield 44, 3) := by decide +kernel
theorem dX4_hasAnother_46 : decode cX4_hasAnother 46 = .ok (.astore 6, 2) := by decide +kernel
theorem dX4_hasAnother_48 : decode cX4_hasAnother 48 = .ok (.goto (-42), 3) := by decide +kernel
theorem dX4_hasAnother_51 : decode cX4_hasAnother 51 = .ok (.iconst 0, 1) := by decide +kernel
theorem dX4_hasAnother_52 : decode cX4_hasAnother 52 = .ok (.ireturn, 1) := by decide +kernel
def vb_X4_hasAnother_6 (post : Bool → mj_M → Prop) : Nat → Nat → Nat → Int32 → Int32 → Int32 → Nat → mj_M → Prop
  | 0 => fun _ _ _ _ _ _ _ => False
  | f + 1 => fun l1 l2 l3 l4 l5 l6 M => if l6 = 0 then (post false M) else (mj_tag M l6 = 4 ∧ if (mj_r M l6 2) = l1 then (if l6 = l2 then (vb_X4_hasAnother_6 post f l1 l2 l3 l4 l5 (mj_r M l6 1) M) else (vc_X3_meets l6 l3 l4 l5 M (fun r5 M6 => if r5 = true then (post true M6) else (mj_tag M6 l6 = 4 ∧ vb_X4_hasAnother_6 post f l1 l2 l3 l4 l5 (mj_r M6 l6 1) M6)))) else (vb_X4_hasAnother_6 post f l1 l2 l3 l4 l5 (mj_r M l6 1) M))
def vc_X4_hasAnother (l0 : Nat) (l1 : Nat) (l2 : Nat) (l3 : Int32) (l4 : Int32) (l5 : Int32) (M : mj_M) (post : Bool → mj_M → Prop) : Prop := mj_tag M l0 = 5 ∧ vb_X4_hasAnother_6 post 60 l1 l2 l3 l4 l5 (mj_r M l0 1) M
set_option maxHeartbeats 4000000 in
set_option maxRecDepth 100000 in
theorem xb_X4_hasAnother_6 {g : mj_G} {post : Bool → mj_M → Prop} (hC : mj_C g yX4_hasAnother cX4_hasAnother 7 (some .boolean) rm_X4_hasAnother) (hE : mj_E g mj_jB post 0 0) : ∀ (f : Nat) (l1 : Nat) (l2 : Nat) (l3 : Int32) (l4 : Int32) (l5 : Int32) (l6 : Nat) (M : mj_M), vb_X4_hasAnother_6 post f l1 l2 l3 l4 l5 l6 M → mj_X g 6 [(1, vR l1), (2, vR l2), (3, vI l3), (4, vI l4), (5, vI l5), (6, vR l6)] [] M 0 0 := by
  intro f
  induction f with
  | zero => exact fun _ _ _ _ _ _ _ h => absurd h (fun z => z)
  | succ f ih =>
    intro l1 l2 l3 l4 l5 l6 M h
    simp only [vb_X4_hasAnother_6] at h
    refine mx_aload (j := 5) hC dX4_hasAnother_6 rfl ?_
    refine mx_ifnull (tgt := 51) hC dX4_hasAnother_8 (by decide) (fun hc1 => ?_) (fun hc1 => ?_)
    · replace h := mj_yy hc1 h
      refine mx_iconst (v := 0) hC dX4_hasAnother_51 (by decide) ?_
      exact mx_zret (b := false) hC hE rfl dX4_hasAnother_52 h
    · replace h := mj_nn hc1 h
      refine mx_aload (j := 5) hC dX4_hasAnother_11 rfl ?_
      obtain ⟨ht2, h⟩ := h
      refine mx_get (v := vR (mj_r M l6 2)) hC tf_X4_51 ht2 rfl dX4_hasAnother_13 ?_
      refine mx_aload_n (j := 0) hC dX4_hasAnother_16 rfl rfl ?_
      refine mx_acmpne (tgt := 41) hC dX4_hasAnother_17 (by decide) (fun hc3 => ?_) (fun hc3 => ?_)
      · replace h := mj_nn hc3 h
        refine mx_aload (j := 5) hC dX4_hasAnother_41 rfl ?_
        refine mx_get (v := vR (mj_r M l6 1)) hC tf_X4_44 ht2 rfl dX4_hasAnother_43 ?_
        refine mx_astore (L' := [(6, vR (mj_r M l6 1)), (1, vR l1), (2, vR l2), (3, vI l3), (4, vI l4), (5, vI l5)]) hC dX4_hasAnother_46 (by decide) rfl ?_
        refine mx_goto (tgt := 6) hC dX4_hasAnother_48 (by decide) ?_
        refine mx_sub (L' := [(1, vR l1), (2, vR l2), (3, vI l3), (4, vI l4), (5, vI l5), (6, vR (mj_r M l6 1))]) [1, 2, 3, 4, 5, 0] rfl ?_
        exact show mj_X g 6 [(1, vR l1), (2, vR l2), (3, vI l3), (4, vI l4), (5, vI l5), (6, vR (mj_r M l6 1))] [] M 0 0 from (ih l1 l2 l3 l4 l5 (mj_r M l6 1) M h)
      · replace h := mj_yy hc3 h
        refine mx_aload (j := 5) hC dX4_hasAnother_20 rfl ?_
        refine mx_aload_n (j := 1) hC dX4_hasAnother_22 rfl rfl ?_
        refine mx_acmpeq (tgt := 41) hC dX4_hasAnother_23 (by decide) (fun hc4 => ?_) (fun hc4 => ?_)
        · replace h := mj_yy hc4 h
          refine mx_aload (j := 5) hC dX4_hasAnother_41 rfl ?_
          refine mx_get (v := vR (mj_r M l6 1)) hC tf_X4_44 ht2 rfl dX4_hasAnother_43 ?_
          refine mx_astore (L' := [(6, vR (mj_r M l6 1)), (1, vR l1), (2, vR l2), (3, vI l3), (4, vI l4), (5, vI l5)]) hC dX4_hasAnother_46 (by decide) rfl ?_
          refine mx_goto (tgt := 6) hC dX4_hasAnother_48 (by decide) ?_
          refine mx_sub (L' := [(1, vR l1), (2, vR l2), (3, vI l3), (4, vI l4), (5, vI l5), (6, vR (mj_r M l6 1))]) [1, 2, 3, 4, 5, 0] rfl ?_
          exact show mj_X g 6 [(1, vR l1), (2, vR l2), (3, vI l3), (4, vI l4), (5, vI l5), (6, vR (mj_r M l6 1))] [] M 0 0 from (ih l1 l2 l3 l4 l5 (mj_r M l6 1) M h)
        · replace h := mj_nn hc4 h
          refine mx_aload (j := 5) hC dX4_hasAnother_26 rfl ?_
          refine mx_iload_n (j := 2) hC dX4_hasAnother_28 rfl rfl ?_
          refine mx_iload (j := 3) hC dX4_hasAnother_29 rfl ?_
          refine mx_iload (j := 4) hC dX4_hasAnother_31 rfl ?_
          refine mx_callV (inj := mj_jB) (As := [vI l3, vI l4, vI l5]) (st := []) hC (ct_X3_meets l6 l3 l4 l5 M _ h) ty_X3_meets tw405 ht2 rfl (Nat.le_of_ble_eq_true rfl) ⟨rfl, rfl, ⟨by decide, by decide⟩, by decide, by decide⟩ dX4_hasAnother_33 (fun r5 M6 h => ?_)
          show mj_X g 36 [(1, vR l1), (2, vR l2), (3, vI l3), (4, vI l4), (5, vI l5), (6, vR l6)] [vI (mj_b r5)] M6 0 0
          refine mx_ifeqB (tgt := 41) hC dX4_hasAnother_36 (by decide) (fun hc7 => ?_) (fun hc7 => ?_)
          · replace h := mj_nn hc7 h
            refine mx_aload (j := 5) hC dX4_hasAnother_41 rfl ?_
            obtain ⟨ht8, h⟩ := h
            refine mx_get (v := vR (mj_r M6 l6 1)) hC tf_X4_44 ht8 rfl dX4_hasAnother_43 ?_
            refine mx_astore (L' := [(6, vR (mj_r M6 l6 1)), (1, vR l1), (2, vR l2), (3, vI l3), (4, vI l4), (5, vI l5)]) hC dX4_hasAnother_46 (by decide) rfl ?_
            refine mx_goto (tgt := 6) hC dX4_hasAnother_48 (by decide) ?_
            refine mx_sub (L' := [(1, vR l1), (2, vR l2), (3, vI l3), (4, vI l4), (5, vI l5), (6, vR (mj_r M6 l6 1))]) [1, 2, 3, 4, 5, 0] rfl ?_
            exact show mj_X g 6 [(1, vR l1), (2, vR l2), (3, vI l3), (4, vI l4), (5, vI l5), (6, vR (mj_r M6 l6 1))] [] M6 0 0 from (ih l1 l2 l3 l4 l5 (mj_r M6 l6 1) M6 h)
          · replace h := mj_yy hc7 h
            refine mx_iconst (v := 1) hC dX4_hasAnother_39 (by decide) ?_
            exact mx_zret (b := true) hC hE rfl dX4_hasAnother_40 h
set_option maxHeartbeats 4000000 in
set_option maxRecDepth 100000 in
theorem ct_X4_hasAnother {l : Launch} {base : Nat} {D : va_G} {A : mj_AT} (l0 : Nat) (l1 : Nat) (l2 : Nat) (l3 : Int32) (l4 : Int32) (l5 : Int32) (M : mj_M) (post : Bool → mj_M → Prop) (h : vc_X4_hasAnother l0 l1 l2 l3 l4 l5 M post) : mj_Met l base D A mj_jB yX4_hasAnother cX4_hasAnother 7 (some .boolean) rm_X4_hasAnother 0 0 [vR l0, vR l1, vR l2, vI l3, vI l4, vI l5] M post := by
  refine mj_entry (by decide +kernel) (Nat.le_of_ble_eq_true rfl) (fun g hC hE h1 h2 h3 h4 => ?_)
  show mj_X g 0 [(0, vR l0), (1, vR l1), (2, vR l2), (3, vI l3), (4, vI l4), (5, vI l5)] [] M 0 0
  simp only [vc_X4_hasAnother] at h
  refine mx_aload_n (j := 0) hC dX4_hasAnother_0 rfl rfl ?_
  obtain ⟨ht9, h⟩ := h
  refine mx_get (v := vR (mj_r M l0 1)) hC tf_X4_37 ht9 rfl dX4_hasAnother_1 ?_
  refine mx_astore (L' := [(6, vR (mj_r M l0 1)), (0, vR l0), (1, vR l1), (2, vR l2), (3, vI l3), (4, vI l4), (5, vI l5)]) hC dX4_hasAnother_4 (by decide) rfl ?_
  refine mx_sub (L' := [(1, vR l1), (2, vR l2), (3, vI l3), (4, vI l4), (5, vI l5), (6, vR (mj_r M l0 1))]) [2, 3, 4, 5, 6, 0] rfl ?_
  exact show mj_X g 6 [(1, vR l1), (2, vR l2), (3, vI l3), (4, vI l4), (5, vI l5), (6, vR (mj_r M l0 1))] [] M 0 0 from (xb_X4_hasAnother_6 hC hE 60 l1 l2 l3 l4 l5 (mj_r M l0 1) M h)
theorem tw401 : (Jvm.Cond.methodLink "LeaseLand$Land" (64 : Nat) ({ cls := "LeaseLand$Land", name := "hasAnother", desc := "(LLeaseLand$Holding;LLeaseLand$Holding;III)Z" } : Jvm.MethodName)) ∈ mj_tbl := mj_w 407 (by decide +kernel) (by decide +kernel)
theorem tw404 : (Jvm.Cond.code ({ cls := "LeaseLand$Land", name := "hasAnother", desc := "(LLeaseLand$Holding;LLeaseLand$Holding;III)Z" } : Jvm.MethodName) prog_6_method_9_code (7 : Nat) (Option.some Jvm.ClassFile.FieldType.boolean)) ∈ mj_tbl := mj_w 410 (by decide +kernel) (by decide +kernel)
theorem tw402 : (Jvm.Cond.instanceMethod ({ cls := "LeaseLand$Land", name := "hasAnother", desc := "(LLeaseLand$Holding;LLeaseLand$Holding;III)Z" } : Jvm.MethodName)) ∈ mj_tbl := mj_w 408 (by decide +kernel) (by decide +kernel)
theorem tw403 : (Jvm.Cond.selects "LeaseLand$Land" ({ cls := "LeaseLand$Land", name := "hasAnother", desc := "(LLeaseLand$Holding;LLeaseLand$Holding;III)Z" } : Jvm.MethodName) ({ cls := "LeaseLand$Land", name := "hasAnother", desc := "(LLeaseLand$Holding;LLeaseLand$Holding;III)Z" } : Jvm.MethodName)) ∈ mj_tbl := mj_w 409 (by decide +kernel) (by decide +kernel)
theorem ty_X4_hasAnother : mj_YV 4 yX4_hasAnother cX4_hasAnother 7 (some .boolean) 5 := ⟨⟨tw404, tw2, by decide +kernel, by decide +kernel, by decide +kernel⟩, tw402, tw403, _, rfl, rfl⟩
def rm_X4_isInTheWay : Room := { frames := 3, cells := 0, slots := 0, locals := 70 }
theorem dX4_isInTheWay_0 : decode cX4_isInTheWay 0 = .ok (.aload_n 0, 1) := by decide +kernel
theorem dX4_isInTheWay_1 : decode cX4_isInTheWay 1 = .ok (.aload_n 1, 1) := by decide +kernel
theorem dX4_isInTheWay_2 : decode cX4_isInTheWay 2 = .ok (.getfield 51, 3) := by decide +kernel
theorem dX4_isInTheWay_5 : decode cX4_isInTheWay 5 = .ok (.aload_n 1, 1) := by decide +kernel
theorem dX4_isInTheWay_6 : decode cX4_isInTheWay 6 = .ok (.aload_n 1, 1) := by decide +kernel
theorem dX4_isInTheWay_7 : decode cX4_isInTheWay 7 = .ok (.getfield 57, 3) := by decide +kernel
theorem dX4_isInTheWay_10 : decode cX4_isInTheWay 10 = .ok (.iload_n 2, 1) := by decide +kernel
theorem dX4_isInTheWay_11 : decode cX4_isInTheWay 11 = .ok (.iload_n 3, 1) := by decide +kernel
theorem dX4_isInTheWay_12 : decode cX4_isInTheWay 12 = .ok (.invokevirtual 64, 3) := by decide +kernel
theorem dX4_isInTheWay_15 : decode cX4_isInTheWay 15 = .ok (.ireturn, 1) := by decide +kernel
def vc_X4_isInTheWay (l0 : Nat) (l1 : Nat) (l2 : Int32) (l3 : Int32) (M : mj_M) (post : Bool → mj_M → Prop) : Prop := mj_tag M l1 = 4 ∧ mj_tag M l0 = 5 ∧ vc_X4_hasAnother l0 (mj_r M l1 2) l1 (mj_i M l1 3) l2 l3 M (fun r3 M4 => post r3 M4)
set_option maxHeartbeats 4000000 in
set_option maxRecDepth 100000 in
theorem ct_X4_isInTheWay {l : Launch} {base : Nat} {D : va_G} {A : mj_AT} (l0 : Nat) (l1 : Nat) (l2 : Int32) (l3 : Int32) (M : mj_M) (post : Bool → mj_M → Prop) (h : vc_X4_isInTheWay l0 l1 l2 l3 M post) : mj_Met l base D A mj_jB yX4_isInTheWay cX4_isInTheWay 4 (some .boolean) rm_X4_isInTheWay 0 0 [vR l0, vR l1, vI l2, vI l3] M post := by
  refine mj_entry (by decide +kernel) (Nat.le_of_ble_eq_true rfl) (fun g hC hE h1 h2 h3 h4 => ?_)
  show mj_X g 0 [(0, vR l0), (1, vR l1), (2, vI l2), (3, vI l3)] [] M 0 0
  simp only [vc_X4_isInTheWay] at h
  refine mx_aload_n (j := 0) hC dX4_isInTheWay_0 rfl rfl ?_
  refine mx_aload_n (j := 1) hC dX4_isInTheWay_1 rfl rfl ?_
  obtain ⟨ht1, h⟩ := h
  refine mx_get (v := vR (mj_r M l1 2)) hC tf_X4_51 ht1 rfl dX4_isInTheWay_2 ?_
  refine mx_aload_n (j := 1) hC dX4_isInTheWay_5 rfl rfl ?_
  refine mx_aload_n (j := 1) hC dX4_isInTheWay_6 rfl rfl ?_
  refine mx_get (v := vI (mj_i M l1 3)) hC tf_X4_57 ht1 rfl dX4_isInTheWay_7 ?_
  refine mx_iload_n (j := 2) hC dX4_isInTheWay_10 rfl rfl ?_
  refine mx_iload_n (j := 3) hC dX4_isInTheWay_11 rfl rfl ?_
  obtain ⟨ht2, h⟩ := h
  refine mx_callV (inj := mj_jB) (As := [vR (mj_r M l1 2), vR l1, vI (mj_i M l1 3), vI l2, vI l3]) (st := []) hC (ct_X4_hasAnother l0 (mj_r M l1 2) l1 (mj_i M l1 3) l2 l3 M _ h) ty_X4_hasAnother tw401 ht2 rfl (Nat.le_of_ble_eq_true rfl) ⟨rfl, rfl, ⟨by decide, by decide⟩, by decide, by decide⟩ dX4_isInTheWay_12 (fun r3 M4 h => ?_)
  show mj_X g 15 [(0, vR l0), (1, vR l1), (2, vI l2), (3, vI l3)] [vI (mj_b r3)] M4 0 0
  exact mx_zret (b := r3) hC hE rfl dX4_isInTheWay_15 h
theorem tw389 : (Jvm.Cond.methodLink "LeaseLand$Land" (68 : Nat) ({ cls := "LeaseLand$Holding", name := "holds", desc := "(III)Z" } : Jvm.MethodName)) ∈ mj_tbl := mj_w 395 (by decide +kernel) (by decide +kernel)
theorem tw392 : (Jvm.Cond.code ({ cls := "LeaseLand$Holding", name := "holds", desc := "(III)Z" } : Jvm.MethodName) prog_5_method_7_code (4 : Nat) (Option.some Jvm.ClassFile.FieldType.boolean)) ∈ mj_tbl := mj_w 398 (by decide +kernel) (by decide +kernel)
theorem tw390 : (Jvm.Cond.instanceMethod ({ cls := "LeaseLand$Holding", name := "holds", desc := "(III)Z" } : Jvm.MethodName)) ∈ mj_tbl := mj_w 396 (by decide +kernel) (by decide +kernel)
theorem tw391 : (Jvm.Cond.selects "LeaseLand$Holding" ({ cls := "LeaseLand$Holding", name := "holds", desc := "(III)Z" } : Jvm.MethodName) ({ cls := "LeaseLand$Holding", name := "holds", desc := "(III)Z" } : Jvm.MethodName)) ∈ mj_tbl := mj_w 397 (by decide +kernel) (by decide +kernel)
theorem ty_X3_holds : mj_YV 3 yX3_holds cX3_holds 4 (some .boolean) 3 := ⟨⟨tw392, tw11, by decide +kernel, by decide +kernel, by decide +kernel⟩, tw390, tw391, _, rfl, rfl⟩
def rm_X4_canGrant : Room := { frames := 3, cells := 0, slots := 0, locals := 70 }
theorem dX4_canGrant_0 : decode cX4_canGrant 0 = .ok (.aload_n 1, 1) := by decide +kernel
theorem dX4_canGrant_1 : decode cX4_canGrant 1 = .ok (.iload_n 2, 1) := by decide +kernel
theorem dX4_canGrant_2 : decode cX4_canGrant 2 = .ok (.iload_n 3, 1) := by decide +kernel
theorem dX4_canGrant_3 : decode cX4_canGrant 3 = .ok (.iload 4, 2) := by decide +kernel
theorem dX4_canGrant_5 : decode cX4_canGrant 5 = .ok (.invokevirtual 68, 3) := by decide +kernel
theorem dX4_canGrant_8 : decode cX4_canGrant 8 = .ok (.ifCond .eq 20, 3) := by decide +kernel
theorem dX4_canGrant_11 : decode cX4_canGrant 11 = .ok (.aload_n 0, 1) := by decide +kernel
theorem dX4_canGrant_12 : decode cX4_canGrant 12 = .ok (.aload_n 1, 1) := by decide +kernel
theorem dX4_canGrant_13 : decode cX4_canGrant 13 = .ok (.aconst_null, 1) := by decide +kernel
theorem dX4_canGrant_14 : decode cX4_canGrant 14 = .ok (.iload_n 2, 1) := by decide +kernel
theorem dX4_canGrant_15 : decode cX4_canGrant 15 = .ok (.iload_n 3, 1) := by decide +kernel
theorem dX4_canGrant_16 : decode cX4_canGrant 16 = .ok (.iload 4, 2) := by decide +kernel
theorem dX4_canGrant_18 : decode cX4_canGrant 18 = .ok (.invokevirtual 64, 3) := by decide +kernel
theorem dX4_canGrant_21 : decode cX4_canGrant 21 = .ok (.ifCond .ne 7, 3) := by decide +kernel
theorem dX4_canGrant_24 : decode cX4_canGrant 24 = .ok (.iconst 1, 1) := by decide +kernel
theorem dX4_canGrant_25 : decode cX4_canGrant 25 = .ok (.goto 4, 3) := by decide +kernel
theorem dX4_canGrant_28 : decode cX4_canGrant 28 = .ok (.iconst 0, 1) := by decide +kernel
theorem dX4_canGrant_29 : decode cX4_canGrant 29 = .ok (.ireturn, 1) := by decide +kernel
def vc_X4_canGrant (l0 : Nat) (l1 : Nat) (l2 : Int32) (l3 : Int32) (l4 : Int32) (M : mj_M) (post : Bool → mj_M → Prop) : Prop := mj_tag M l1 = 4 ∧ vc_X3_holds l1 l2 l3 l4 M (fun r2 M3 => if r2 = true then (mj_tag M3 l0 = 5 ∧ vc_X4_hasAnother l0 l1 0 l2 l3 l4 M3 (fun r6 M7 => if r6 = true then (post false M7) else (post true M7))) else (post false M3))
set_option maxHeartbeats 4000000 in
set_option maxRecDepth 100000 in
theorem ct_X4_canGrant {l : Launch} {base : Nat} {D : va_G} {A : mj_AT} (l0 : Nat) (l1 : Nat) (l2 : Int32) (l3 : Int32) (l4 : Int32) (M : mj_M) (post : Bool → mj_M → Prop) (h : vc_X4_canGrant l0 l1 l2 l3 l4 M post) : mj_Met l base D A mj_jB yX4_canGrant cX4_canGrant 5 (some .boolean) rm_X4_canGrant 0 0 [vR l0, vR l1, vI l2, vI l3, vI l4] M post := by
  refine mj_entry (by decide +kernel) (Nat.le_of_ble_eq_true rfl) (fun g hC hE h1 h2 h3 h4 => ?_)
  show mj_X g 0 [(0, vR l0), (1, vR l1), (2, vI l2), (3, vI l3), (4, vI l4)] [] M 0 0
  simp only [vc_X4_canGrant] at h
  refine mx_aload_n (j := 1) hC dX4_canGrant_0 rfl rfl ?_
  refine mx_iload_n (j := 2) hC dX4_canGrant_1 rfl rfl ?_
  refine mx_iload_n (j := 3) hC dX4_canGrant_2 rfl rfl ?_
  refine mx_iload (j := 4) hC dX4_canGrant_3 rfl ?_
  obtain ⟨ht1, h⟩ := h
  refine mx_callV (inj := mj_jB) (As := [vI l2, vI l3, vI l4]) (st := []) hC (ct_X3_holds l1 l2 l3 l4 M _ h) ty_X3_holds tw389 ht1 rfl (Nat.le_of_ble_eq_true rfl) ⟨rfl, rfl, ⟨by decide, by decide⟩, by decide, by decide⟩ dX4_canGrant_5 (fun r2 M3 h => ?_)
  show mj_X g 8 [(0, vR l0), (1, vR l1), (2, vI l2), (3, vI l3), (4, vI l4)] [vI (mj_b r2)] M3 0 0
  refine mx_ifeqB (tgt := 28) hC dX4_canGrant_8 (by decide) (fun hc4 => ?_) (fun hc4 => ?_)
  · replace h := mj_nn hc4 h
    refine mx_iconst (v := 0) hC dX4_canGrant_28 (by decide) ?_
    exact mx_zret (b := false) hC hE rfl dX4_canGrant_29 h
  · replace h := mj_yy hc4 h
    refine mx_aload_n (j := 0) hC dX4_canGrant_11 rfl rfl ?_
    refine mx_aload_n (j := 1) hC dX4_canGrant_12 rfl rfl ?_
    refine mx_null hC dX4_canGrant_13 ?_
    refine mx_iload_n (j := 2) hC dX4_canGrant_14 rfl rfl ?_
    refine mx_iload_n (j := 3) hC dX4_canGrant_15 rfl rfl ?_
    refine mx_iload (j := 4) hC dX4_canGrant_16 rfl ?_
    obtain ⟨ht5, h⟩ := h
    refine mx_callV (inj := mj_jB) (As := [vR l1, vR 0, vI l2, vI l3, vI l4]) (st := []) hC (ct_X4_hasAnother l0 l1 0 l2 l3 l4 M3 _ h) ty_X4_hasAnother tw401 ht5 rfl (Nat.le_of_ble_eq_true rfl) ⟨rfl, rfl, ⟨by decide, by decide⟩, by decide, by decide⟩ dX4_canGrant_18 (fun r6 M7 h => ?_)
    show mj_X g 21 [(0, vR l0), (1, vR l1), (2, vI l2), (3, vI l3), (4, vI l4)] [vI (mj_b r6)] M7 0 0
    refine mx_ifneB (tgt := 28) hC dX4_canGrant_21 (by decide) (fun hc8 => ?_) (fun hc8 => ?_)
    · replace h := mj_yy hc8 h
      refine mx_iconst (v := 0) hC dX4_canGrant_28 (by decide) ?_
      exact mx_zret (b := false) hC hE rfl dX4_canGrant_29 h
    · replace h := mj_nn hc8 h
      refine mx_iconst (v := 1) hC dX4_canGrant_24 (by decide) ?_
      refine mx_goto (tgt := 29) hC dX4_canGrant_25 (by decide) ?_
      exact mx_zret (b := true) hC hE rfl dX4_canGrant_29 h
theorem tw318 : (Jvm.Cond.fieldLink "LeaseLand$Land" (111 : Nat) "LeaseLand$Holding" "way" "I") ∈ mj_tbl := mj_w 324 (by decide +kernel) (by decide +kernel)
theorem tf_X4_111 : mj_F 3 6 .int false "LeaseLand$Land" 111 := ⟨_, tk3, by decide, rfl, rfl, rfl, tw318⟩
theorem tw320 : (Jvm.Cond.fieldLink "LeaseLand$Land" (114 : Nat) "LeaseLand$Holding" "ended" "I") ∈ mj_tbl := mj_w 326 (by decide +kernel) (by decide +kernel)
theorem tf_X4_114 : mj_F 3 7 .int false "LeaseLand$Land" 114 := ⟨_, tk3, by decide, rfl, rfl, rfl, tw320⟩
theorem tw312 : (Jvm.Cond.fieldLink "LeaseLand$Land" (75 : Nat) "LeaseLand$Holding" "from" "I") ∈ mj_tbl := mj_w 318 (by decide +kernel) (by decide +kernel)
theorem tf_X4_75 : mj_F 3 4 .int true "LeaseLand$Land" 75 := ⟨_, tk3, by decide, rfl, rfl, rfl, tw312⟩
theorem tw676 : (Jvm.Cond.methodLink "LeaseLand$Land" (78 : Nat) ({ cls := "java/lang/Math", name := "max", desc := "(II)I" } : Jvm.MethodName)) ∈ mj_tbl := mj_w 682 (by decide +kernel) (by decide +kernel)
def rm_X4_close : Room := { frames := 1, cells := 0, slots := 0, locals := 21 }
theorem dX4_close_0 : decode cX4_close 0 = .ok (.aload_n 1, 1) := by decide +kernel
theorem dX4_close_1 : decode cX4_close 1 = .ok (.iload_n 2, 1) := by decide +kernel
theorem dX4_close_2 : decode cX4_close 2 = .ok (.putfield 111, 3) := by decide +kernel
theorem dX4_close_5 : decode cX4_close 5 = .ok (.aload_n 1, 1) := by decide +kernel
theorem dX4_close_6 : decode cX4_close 6 = .ok (.aload_n 0, 1) := by decide +kernel
theorem dX4_close_7 : decode cX4_close 7 = .ok (.getfield 28, 3) := by decide +kernel
theorem dX4_close_10 : decode cX4_close 10 = .ok (.aload_n 1, 1) := by decide +kernel
theorem dX4_close_11 : decode cX4_close 11 = .ok (.getfield 75, 3) := by decide +kernel
theorem dX4_close_14 : decode cX4_close 14 = .ok (.invokestatic 78, 3) := by decide +kernel
theorem dX4_close_17 : decode cX4_close 17 = .ok (.putfield 114, 3) := by decide +kernel
theorem dX4_close_20 : decode cX4_close 20 = .ok (.return_, 1) := by decide +kernel
def vc_X4_close (l0 : Nat) (l1 : Nat) (l2 : Int32) (M : mj_M) (post : Unit → mj_M → Prop) : Prop := mj_tag M l1 = 4 ∧ mj_tag M l0 = 5 ∧ vc_J9_max_7cf53 (mj_i (mj_wi M l1 6 l2) l0 0) (mj_i (mj_wi M l1 6 l2) l1 4) (mj_wi M l1 6 l2) (fun r3 M4 => mj_tag M4 l1 = 4 ∧ post () (mj_wi M4 l1 7 r3))
set_option maxHeartbeats 4000000 in
set_option maxRecDepth 100000 in
theorem ct_X4_close {l : Launch} {base : Nat} {D : va_G} {A : mj_AT} (l0 : Nat) (l1 : Nat) (l2 : Int32) (M : mj_M) (post : Unit → mj_M → Prop) (h : vc_X4_close l0 l1 l2 M post) : mj_Met l base D A mj_jV yX4_close cX4_close 3 (none) rm_X4_close 0 0 [vR l0, vR l1, vI l2] M post := by
  refine mj_entry (by decide +kernel) (Nat.le_of_ble_eq_true rfl) (fun g hC hE h1 h2 h3 h4 => ?_)
  show mj_X g 0 [(0, vR l0), (1, vR l1), (2, vI l2)] [] M 0 0
  simp only [vc_X4_close] at h
  refine mx_aload_n (j := 1) hC dX4_close_0 rfl rfl ?_
  refine mx_iload_n (j := 2) hC dX4_close_1 rfl rfl ?_
  obtain ⟨ht1, h⟩ := h
  refine mx_put (v := vI l2) (M1 := mj_wi M l1 6 l2) hC tf_X4_111 ht1 (Or.inl rfl) ⟨rfl, rfl⟩ (mj_off_wi _ _ _ _) mj_put_wi dX4_close_2 ?_
  refine mx_aload_n (j := 1) hC dX4_close_5 rfl rfl ?_
  refine mx_aload_n (j := 0) hC dX4_close_6 rfl rfl ?_
  obtain ⟨ht2, h⟩ := h
  refine mx_get (v := vI (mj_i (mj_wi M l1 6 l2) l0 0)) hC tf_X4_28 ht2 rfl dX4_close_7 ?_
  refine mx_aload_n (j := 1) hC dX4_close_10 rfl rfl ?_
  refine mx_get (v := vI (mj_i (mj_wi M l1 6 l2) l1 4)) hC tf_X4_75 ht1 rfl dX4_close_11 ?_
  refine mx_callS (inj := mj_jI) (As := [vI (mj_i (mj_wi M l1 6 l2) l0 0), vI (mj_i (mj_wi M l1 6 l2) l1 4)]) (st := [vR l1]) hC (ct_J9_max_7cf53 (mj_i (mj_wi M l1 6 l2) l0 0) (mj_i (mj_wi M l1 6 l2) l1 4) (mj_wi M l1 6 l2) _ h) ty_J9_max_7cf53 tw676 rfl (Nat.le_of_ble_eq_true rfl) ⟨rfl, rfl, ⟨by decide, by decide⟩, by decide, by decide⟩ dX4_close_14 (fun r3 M4 h => ?_)
  show mj_X g 17 [(0, vR l0), (1, vR l1), (2, vI l2)] [vI r3, vR l1] M4 0 0
  obtain ⟨ht5, h⟩ := h
  refine mx_put (v := vI r3) (M1 := mj_wi M4 l1 7 r3) hC tf_X4_114 ht5 (Or.inl rfl) ⟨rfl, rfl⟩ (mj_off_wi _ _ _ _) mj_put_wi dX4_close_17 ?_
  exact mx_vret hC hE rfl dX4_close_20 h
theorem tw675 : (Jvm.Cond.methodLink "LeaseLand$Land" (84 : Nat) ({ cls := "LeaseLand$Holding", name := "until", desc := "()I" } : Jvm.MethodName)) ∈ mj_tbl := mj_w 681 (by decide +kernel) (by decide +kernel)
def rm_X4_handOver : Room := { frames := 1, cells := 0, slots := 0, locals := 20 }
theorem dX4_handOver_0 : decode cX4_handOver 0 = .ok (.iconst 0, 1) := by decide +kernel
theorem dX4_handOver_1 : decode cX4_handOver 1 = .ok (.istore_n 3, 1) := by decide +kernel
theorem dX4_handOver_2 : decode cX4_handOver 2 = .ok (.aload_n 0, 1) := by decide +kernel
theorem dX4_handOver_3 : decode cX4_handOver 3 = .ok (.getfield 37, 3) := by decide +kernel
theorem dX4_handOver_6 : decode cX4_handOver 6 = .ok (.astore 4, 2) := by decide +kernel
theorem dX4_handOver_8 : decode cX4_handOver 8 = .ok (.aload 4, 2) := by decide +kernel
theorem dX4_handOver_10 : decode cX4_handOver 10 = .ok (.ifnull 43, 3) := by decide +kernel
theorem dX4_handOver_13 : decode cX4_handOver 13 = .ok (.aload 4, 2) := by decide +kernel
theorem dX4_handOver_15 : decode cX4_handOver 15 = .ok (.getfield 51, 3) := by decide +kernel
theorem dX4_handOver_18 : decode cX4_handOver 18 = .ok (.aload_n 1, 1) := by decide +kernel
theorem dX4_handOver_19 : decode cX4_handOver 19 = .ok (.if_acmp .ne 24, 3) := by decide +kernel
theorem dX4_handOver_22 : decode cX4_handOver 22 = .ok (.aload 4, 2) := by decide +kernel
theorem dX4_handOver_24 : decode cX4_handOver 24 = .ok (.invokevirtual 84, 3) := by decide +kernel
theorem dX4_handOver_27 : decode cX4_handOver 27 = .ok (.aload_n 0, 1) := by decide +kernel
theorem dX4_handOver_28 : decode cX4_handOver 28 = .ok (.getfield 28, 3) := by decide +kernel
theorem dX4_handOver_31 : decode cX4_handOver 31 = .ok (.if_icmp .le 12, 3) := by decide +kernel
theorem dX4_handOver_34 : decode cX4_handOver 34 = .ok (.aload 4, 2) := by decide +kernel
theorem dX4_handOver_36 : decode cX4_handOver 36 = .ok (.aload_n 2, 1) := by decide +kernel
theorem dX4_handOver_37 : decode cX4_handOver 37 = .ok (.putfield 51, 3) := by decide +kernel
theorem dX4_handOver_40 : decode cX4_handOver 40 = .ok (.iinc 3 1, 3) := by decide +kernel
theorem dX4_handOver_43 : decode cX4_handOver 43 = .ok (.aload 4, 2) := by decide +kernel
theorem dX4_handOver_45 : decode cX4_handOver 45 = .ok (.getfield 44, 3) := by decide +kernel
theorem dX4_handOver_48 : decode cX4_handOver 48 = .ok (.astore 4, 2) := by decide +kernel
theorem dX4_handOver_50 : decode cX4_handOver 50 = .ok (.goto (-42), 3) := by decide +kernel
theorem dX4_handOver_53 : decode cX4_handOver 53 = .ok (.iload_n 3, 1) := by decide +kernel
theorem dX4_handOver_54 : decode cX4_handOver 54 = .ok (.ireturn, 1) := by decide +kernel
def vb_X4_handOver_8 (post : Int32 → mj_M → Prop) : Nat → Nat → Nat → Nat → Int32 → Nat → mj_M → Prop
  | 0 => fun _ _ _ _ _ _ => False
  | f + 1 => fun l0 l1 l2 l3 l4 M => if l4 = 0 then (post l3 M) else (mj_tag M l4 = 4 ∧ if (mj_r M l4 2) = l1 then (vc_X3_until l4 M (fun r4 M5 => mj_tag M5 l0 = 5 ∧ if r4 ≤ (mj_i M5 l0 0) then (mj_tag M5 l4 = 4 ∧ vb_X4_handOver_8 post f l0 l1 l2 l3 (mj_r M5 l4 1) M5) else (mj_tag M5 l4 = 4 ∧ vb_X4_handOver_8 post f l0 l1 l2 (l3 + 1) (mj_r (mj_wr M5 l4 2 l2) l4 1) (mj_wr M5 l4 2 l2)))) else (vb_X4_handOver_8 post f l0 l1 l2 l3 (mj_r M l4 1) M))
def vc_X4_handOver (l0 : Nat) (l1 : Nat) (l2 : Nat) (M : mj_M) (post : Int32 → mj_M → Prop) : Prop := mj_tag M l0 = 5 ∧ vb_X4_handOver_8 post 60 l0 l1 l2 0 (mj_r M l0 1) M
set_option maxHeartbeats 4000000 in
set_option maxRecDepth 100000 in
theorem xb_X4_handOver_8 {g : mj_G} {post : Int32 → mj_M → Prop} (hC : mj_C g yX4_handOver cX4_handOver 5 (some .int) rm_X4_handOver) (hE : mj_E g mj_jI post 0 0) : ∀ (f : Nat) (l0 : Nat) (l1 : Nat) (l2 : Nat) (l3 : Int32) (l4 : Nat) (M : mj_M), vb_X4_handOver_8 post f l0 l1 l2 l3 l4 M → mj_X g 8 [(0, vR l0), (1, vR l1), (2, vR l2), (3, vI l3), (4, vR l4)] [] M 0 0 := by
  intro f
  induction f with
  | zero => exact fun _ _ _ _ _ _ h => absurd h (fun z => z)
  | succ f ih =>
    intro l0 l1 l2 l3 l4 M h
    simp only [vb_X4_handOver_8] at h
    refine mx_aload (j := 4) hC dX4_handOver_8 rfl ?_
    refine mx_ifnull (tgt := 53) hC dX4_handOver_10 (by decide) (fun hc1 => ?_) (fun hc1 => ?_)
    · replace h := mj_yy hc1 h
      refine mx_iload_n (j := 3) hC dX4_handOver_53 rfl rfl ?_
      exact mx_iret hC hE rfl dX4_handOver_54 h
    · replace h := mj_nn hc1 h
      refine mx_aload (j := 4) hC dX4_handOver_13 rfl ?_
      obtain ⟨ht2, h⟩ := h
      refine mx_get (v := vR (mj_r M l4 2)) hC tf_X4_51 ht2 rfl dX4_handOver_15 ?_
      refine mx_aload_n (j := 1) hC dX4_handOver_18 rfl rfl ?_
      refine mx_acmpne (tgt := 43) hC dX4_handOver_19 (by decide) (fun hc3 => ?_) (fun hc3 => ?_)
      · replace h := mj_nn hc3 h
        refine mx_aload (j := 4) hC dX4_handOver_43 rfl ?_
        refine mx_get (v := vR (mj_r M l4 1)) hC tf_X4_44 ht2 rfl dX4_handOver_45 ?_
        refine mx_astore (L' := [(4, vR (mj_r M l4 1)), (0, vR l0), (1, vR l1), (2, vR l2), (3, vI l3)]) hC dX4_handOver_48 (by decide) rfl ?_
        refine mx_goto (tgt := 8) hC dX4_handOver_50 (by decide) ?_
        refine mx_sub (L' := [(0, vR l0), (1, vR l1), (2, vR l2), (3, vI l3), (4, vR (mj_r M l4 1))]) [1, 2, 3, 4, 0] rfl ?_
        exact show mj_X g 8 [(0, vR l0), (1, vR l1), (2, vR l2), (3, vI l3), (4, vR (mj_r M l4 1))] [] M 0 0 from (ih l0 l1 l2 l3 (mj_r M l4 1) M h)
      · replace h := mj_yy hc3 h
        refine mx_aload (j := 4) hC dX4_handOver_22 rfl ?_
        refine mx_callV (inj := mj_jI) (As := []) (st := []) hC (ct_X3_until l4 M _ h) ty_X3_until tw675 ht2 rfl (Nat.le_of_ble_eq_true rfl) ⟨rfl, rfl, ⟨by decide, by decide⟩, by decide, by decide⟩ dX4_handOver_24 (fun r4 M5 h => ?_)
        show mj_X g 27 [(0, vR l0), (1, vR l1), (2, vR l2), (3, vI l3), (4, vR l4)] [vI r4] M5 0 0
        refine mx_aload_n (j := 0) hC dX4_handOver_27 rfl rfl ?_
        obtain ⟨ht6, h⟩ := h
        refine mx_get (v := vI (mj_i M5 l0 0)) hC tf_X4_28 ht6 rfl dX4_handOver_28 ?_
        refine mx_icmple (tgt := 43) hC dX4_handOver_31 (by decide) (fun hc7 => ?_) (fun hc7 => ?_)
        · replace h := mj_yy hc7 h
          refine mx_aload (j := 4) hC dX4_handOver_43 rfl ?_
          obtain ⟨ht8, h⟩ := h
          refine mx_get (v := vR (mj_r M5 l4 1)) hC tf_X4_44 ht8 rfl dX4_handOver_45 ?_
          refine mx_astore (L' := [(4, vR (mj_r M5 l4 1)), (0, vR l0), (1, vR l1), (2, vR l2), (3, vI l3)]) hC dX4_handOver_48 (by decide) rfl ?_
          refine mx_goto (tgt := 8) hC dX4_handOver_50 (by decide) ?_
          refine mx_sub (L' := [(0, vR l0), (1, vR l1), (2, vR l2), (3, vI l3), (4, vR (mj_r M5 l4 1))]) [1, 2, 3, 4, 0] rfl ?_
          exact show mj_X g 8 [(0, vR l0), (1, vR l1), (2, vR l2), (3, vI l3), (4, vR (mj_r M5 l4 1))] [] M5 0 0 from (ih l0 l1 l2 l3 (mj_r M5 l4 1) M5 h)
        · replace h := mj_nn hc7 h
          refine mx_aload (j := 4) hC dX4_handOver_34 rfl ?_
          refine mx_aload_n (j := 2) hC dX4_handOver_36 rfl rfl ?_
          obtain ⟨ht9, h⟩ := h
          refine mx_put (v := vR l2) (M1 := mj_wr M5 l4 2 l2) hC tf_X4_51 ht9 (Or.inl rfl) (mj_fitR l2 _) (mj_off_wr _ _ _ _) mj_put_wr dX4_handOver_37 ?_
          refine mx_iinc (j := 3) (v := l3 + 1) (L' := [(3, vI (l3 + 1)), (0, vR l0), (1, vR l1), (2, vR l2), (4, vR l4)]) hC dX4_handOver_40 rfl rfl (by decide) rfl ?_
          refine mx_aload (j := 4) hC dX4_handOver_43 rfl ?_
          refine mx_get (v := vR (mj_r (mj_wr M5 l4 2 l2) l4 1)) hC tf_X4_44 ht9 rfl dX4_handOver_45 ?_
          refine mx_astore (L' := [(4, vR (mj_r (mj_wr M5 l4 2 l2) l4 1)), (3, vI (l3 + 1)), (0, vR l0), (1, vR l1), (2, vR l2)]) hC dX4_handOver_48 (by decide) rfl ?_
          refine mx_goto (tgt := 8) hC dX4_handOver_50 (by decide) ?_
          refine mx_sub (L' := [(0, vR l0), (1, vR l1), (2, vR l2), (3, vI (l3 + 1)), (4, vR (mj_r (mj_wr M5 l4 2 l2) l4 1))]) [2, 3, 4, 1, 0] rfl ?_
          exact show mj_X g 8 [(0, vR l0), (1, vR l1), (2, vR l2), (3, vI (l3 + 1)), (4, vR (mj_r (mj_wr M5 l4 2 l2) l4 1))] [] (mj_wr M5 l4 2 l2) 0 0 from (ih l0 l1 l2 (l3 + 1) (mj_r (mj_wr M5 l4 2 l2) l4 1) (mj_wr M5 l4 2 l2) h)
set_option maxHeartbeats 4000000 in
set_option maxRecDepth 100000 in
theorem ct_X4_handOver {l : Launch} {base : Nat} {D : va_G} {A : mj_AT} (l0 : Nat) (l1 : Nat) (l2 : Nat) (M : mj_M) (post : Int32 → mj_M → Prop) (h : vc_X4_handOver l0 l1 l2 M post) : mj_Met l base D A mj_jI yX4_handOver cX4_handOver 5 (some .int) rm_X4_handOver 0 0 [vR l0, vR l1, vR l2] M post := by
  refine mj_entry (by decide +kernel) (Nat.le_of_ble_eq_true rfl) (fun g hC hE h1 h2 h3 h4 => ?_)
  show mj_X g 0 [(0, vR l0), (1, vR l1), (2, vR l2)] [] M 0 0
  simp only [vc_X4_handOver] at h
  refine mx_iconst (v := 0) hC dX4_handOver_0 (by decide) ?_
  refine mx_istore_n (L' := [(3, vI 0), (0, vR l0), (1, vR l1), (2, vR l2)]) hC dX4_handOver_1 rfl (by decide) rfl ?_
  refine mx_aload_n (j := 1) hC dX4_handOver_2 rfl rfl ?_
  obtain ⟨ht10, h⟩ := h
  refine mx_get (v := vR (mj_r M l0 1)) hC tf_X4_37 ht10 rfl dX4_handOver_3 ?_
  refine mx_astore (L' := [(4, vR (mj_r M l0 1)), (3, vI 0), (0, vR l0), (1, vR l1), (2, vR l2)]) hC dX4_handOver_6 (by decide) rfl ?_
  refine mx_sub (L' := [(0, vR l0), (1, vR l1), (2, vR l2), (3, vI 0), (4, vR (mj_r M l0 1))]) [2, 3, 4, 1, 0] rfl ?_
  exact show mj_X g 8 [(0, vR l0), (1, vR l1), (2, vR l2), (3, vI 0), (4, vR (mj_r M l0 1))] [] M 0 0 from (xb_X4_handOver_8 hC hE 60 l0 l1 l2 0 (mj_r M l0 1) M h)
def rm_X4_hangsFrom : Room := { frames := 1, cells := 0, slots := 0, locals := 20 }
theorem dX4_hangsFrom_0 : decode cX4_hangsFrom 0 = .ok (.aload_n 1, 1) := by decide +kernel
theorem dX4_hangsFrom_1 : decode cX4_hangsFrom 1 = .ok (.astore_n 3, 1) := by decide +kernel
theorem dX4_hangsFrom_2 : decode cX4_hangsFrom 2 = .ok (.aload_n 3, 1) := by decide +kernel
theorem dX4_hangsFrom_3 : decode cX4_hangsFrom 3 = .ok (.ifnull 32, 3) := by decide +kernel
theorem dX4_hangsFrom_6 : decode cX4_hangsFrom 6 = .ok (.aload_n 3, 1) := by decide +kernel
theorem dX4_hangsFrom_7 : decode cX4_hangsFrom 7 = .ok (.invokevirtual 84, 3) := by decide +kernel
theorem dX4_hangsFrom_10 : decode cX4_hangsFrom 10 = .ok (.aload_n 0, 1) := by decide +kernel
theorem dX4_hangsFrom_11 : decode cX4_hangsFrom 11 = .ok (.getfield 28, 3) := by decide +kernel
theorem dX4_hangsFrom_14 : decode cX4_hangsFrom 14 = .ok (.if_icmp .le 21, 3) := by decide +kernel
theorem dX4_hangsFrom_17 : decode cX4_hangsFrom 17 = .ok (.aload_n 3, 1) := by decide +kernel
theorem dX4_hangsFrom_18 : decode cX4_hangsFrom 18 = .ok (.getfield 51, 3) := by decide +kernel
theorem dX4_hangsFrom_21 : decode cX4_hangsFrom 21 = .ok (.aload_n 2, 1) := by decide +kernel
theorem dX4_hangsFrom_22 : decode cX4_hangsFrom 22 = .ok (.if_acmp .ne 5, 3) := by decide +kernel
theorem dX4_hangsFrom_25 : decode cX4_hangsFrom 25 = .ok (.iconst 1, 1) := by decide +kernel
theorem dX4_hangsFrom_26 : decode cX4_hangsFrom 26 = .ok (.ireturn, 1) := by decide +kernel
theorem dX4_hangsFrom_27 : decode cX4_hangsFrom 27 = .ok (.aload_n 3, 1) := by decide +kernel
theorem dX4_hangsFrom_28 : decode cX4_hangsFrom 28 = .ok (.getfield 51, 3) := by decide +kernel
theorem dX4_hangsFrom_31 : decode cX4_hangsFrom 31 = .ok (.astore_n 3, 1) := by decide +kernel
theorem dX4_hangsFrom_32 : decode cX4_hangsFrom 32 = .ok (.goto (-30), 3) := by decide +kernel
theorem dX4_hangsFrom_35 : decode cX4_hangsFrom 35 = .ok (.iconst 0, 1) := by decide +kernel
theorem dX4_hangsFrom_36 : decode cX4_hangsFrom 36 = .ok (.ireturn, 1) := by decide +kernel
def vb_X4_hangsFrom_2 (post : Bool → mj_M → Prop) : Nat → Nat → Nat → Nat → mj_M → Prop
  | 0 => fun _ _ _ _ => False
  | f + 1 => fun l0 l2 l3 M => if l3 = 0 then (post false M) else (mj_tag M l3 = 4 ∧ vc_X3_until l3 M (fun r3 M4 => mj_tag M4 l0 = 5 ∧ if r3 ≤ (mj_i M4 l0 0) then (post false M4) else (mj_tag M4 l3 = 4 ∧ if (mj_r M4 l3 2) = l2 then (post true M4) else (vb_X4_hangsFrom_2 post f l0 l2 (mj_r M4 l3 2) M4))))
def vc_X4_hangsFrom (l0 : Nat) (l1 : Nat) (l2 : Nat) (M : mj_M) (post : Bool → mj_M → Prop) : Prop := vb_X4_hangsFrom_2 post 60 l0 l2 l1 M
set_option maxHeartbeats 4000000 in
set_option maxRecDepth 100000 in
theorem xb_X4_hangsFrom_2 {g : mj_G} {post : Bool → mj_M → Prop} (hC : mj_C g yX4_hangsFrom cX4_hangsFrom 4 (some .boolean) rm_X4_hangsFrom) (hE : mj_E g mj_jB post 0 0) : ∀ (f : Nat) (l0 : Nat) (l2 : Nat) (l3 : Nat) (M : mj_M), vb_X4_hangsFrom_2 post f l0 l2 l3 M → mj_X g 2 [(0, vR l0), (2, vR l2), (3, vR l3)] [] M 0 0 := by
  intro f
  induction f with
  | zero => exact fun _ _ _ _ h => absurd h (fun z => z)
  | succ f ih =>
    intro l0 l2 l3 M h
    simp only [vb_X4_hangsFrom_2] at h
    refine mx_aload_n (j := 2) hC dX4_hangsFrom_2 rfl rfl ?_
    refine mx_ifnull (tgt := 35) hC dX4_hangsFrom_3 (by decide) (fun hc1 => ?_) (fun hc1 => ?_)
    · replace h := mj_yy hc1 h
      refine mx_iconst (v := 0) hC dX4_hangsFrom_35 (by decide) ?_
      exact mx_zret (b := false) hC hE rfl dX4_hangsFrom_36 h
    · replace h := mj_nn hc1 h
      refine mx_aload_n (j := 2) hC dX4_hangsFrom_6 rfl rfl ?_
      obtain ⟨ht2, h⟩ := h
      refine mx_callV (inj := mj_jI) (As := []) (st := []) hC (ct_X3_until l3 M _ h) ty_X3_until tw675 ht2 rfl (Nat.le_of_ble_eq_true rfl) ⟨rfl, rfl, ⟨by decide, by decide⟩, by decide, by decide⟩ dX4_hangsFrom_7 (fun r3 M4 h => ?_)
      show mj_X g 10 [(0, vR l0), (2, vR l2), (3, vR l3)] [vI r3] M4 0 0
      refine mx_aload_n (j := 0) hC dX4_hangsFrom_10 rfl rfl ?_
      obtain ⟨ht5, h⟩ := h
      refine mx_get (v := vI (mj_i M4 l0 0)) hC tf_X4_28 ht5 rfl dX4_hangsFrom_11 ?_
      refine mx_icmple (tgt := 35) hC dX4_hangsFrom_14 (by decide) (fun hc6 => ?_) (fun hc6 => ?_)
      · replace h := mj_yy hc6 h
        refine mx_iconst (v := 0) hC dX4_hangsFrom_35 (by decide) ?_
        exact mx_zret (b := false) hC hE rfl dX4_hangsFrom_36 h
      · replace h := mj_nn hc6 h
        refine mx_aload_n (j := 2) hC dX4_hangsFrom_17 rfl rfl ?_
        obtain ⟨ht7, h⟩ := h
        refine mx_get (v := vR (mj_r M4 l3 2)) hC tf_X4_51 ht7 rfl dX4_hangsFrom_18 ?_
        refine mx_aload_n (j := 1) hC dX4_hangsFrom_21 rfl rfl ?_
        refine mx_acmpne (tgt := 27) hC dX4_hangsFrom_22 (by decide) (fun hc8 => ?_) (fun hc8 => ?_)
        · replace h := mj_nn hc8 h
          refine mx_aload_n (j := 2) hC dX4_hangsFrom_27 rfl rfl ?_
          refine mx_get (v := vR (mj_r M4 l3 2)) hC tf_X4_51 ht7 rfl dX4_hangsFrom_28 ?_
          refine mx_astore_n (L' := [(3, vR (mj_r M4 l3 2)), (0, vR l0), (2, vR l2)]) hC dX4_hangsFrom_31 rfl (by decide) rfl ?_
          refine mx_goto (tgt := 2) hC dX4_hangsFrom_32 (by decide) ?_
          refine mx_sub (L' := [(0, vR l0), (2, vR l2), (3, vR (mj_r M4 l3 2))]) [1, 2, 0] rfl ?_
          exact show mj_X g 2 [(0, vR l0), (2, vR l2), (3, vR (mj_r M4 l3 2))] [] M4 0 0 from (ih l0 l2 (mj_r M4 l3 2) M4 h)
        · replace h := mj_yy hc8 h
          refine mx_iconst (v := 1) hC dX4_hangsFrom_25 (by decide) ?_
          exact mx_zret (b := true) hC hE rfl dX4_hangsFrom_26 h
set_option maxHeartbeats 4000000 in
set_option maxRecDepth 100000 in
theorem ct_X4_hangsFrom {l : Launch} {base : Nat} {D : va_G} {A : mj_AT} (l0 : Nat) (l1 : Nat) (l2 : Nat) (M : mj_M) (post : Bool → mj_M → Prop) (h : vc_X4_hangsFrom l0 l1 l2 M post) : mj_Met l base D A mj_jB yX4_hangsFrom cX4_hangsFrom 4 (some .boolean) rm_X4_hangsFrom 0 0 [vR l0, vR l1, vR l2] M post := by
  refine mj_entry (by decide +kernel) (Nat.le_of_ble_eq_true rfl) (fun g hC hE h1 h2 h3 h4 => ?_)
  show mj_X g 0 [(0, vR l0), (1, vR l1), (2, vR l2)] [] M 0 0
  simp only [vc_X4_hangsFrom] at h
  refine mx_aload_n (j := 1) hC dX4_hangsFrom_0 rfl rfl ?_
  refine mx_astore_n (L' := [(3, vR l1), (0, vR l0), (1, vR l1), (2, vR l2)]) hC dX4_hangsFrom_1 rfl (by decide) rfl ?_
  refine mx_sub (L' := [(0, vR l0), (2, vR l2), (3, vR l1)]) [1, 3, 0] rfl ?_
  exact show mj_X g 2 [(0, vR l0), (2, vR l2), (3, vR l1)] [] M 0 0 from (xb_X4_hangsFrom_2 hC hE 60 l0 l2 l1 M h)
theorem tw337 : (Jvm.Cond.fieldLink "LeaseLand$Land" (121 : Nat) "LeaseLand$Holding" "falling" "Z") ∈ mj_tbl := mj_w 343 (by decide +kernel) (by decide +kernel)
theorem tf_X4_121 : mj_F 3 14 .boolean false "LeaseLand$Land" 121 := ⟨_, tk3, by decide, rfl, rfl, rfl, tw337⟩
theorem tw336 : (Jvm.Cond.fieldLink "LeaseLand$Land" (129 : Nat) "LeaseLand$Holding" "fellBy" "LLeaseLand$Holding;") ∈ mj_tbl := mj_w 342 (by decide +kernel) (by decide +kernel)
theorem tf_X4_129 : mj_F 3 13 (.object "LeaseLand$Holding") false "LeaseLand$Land" 129 := ⟨_, tk3, by decide, rfl, rfl, rfl, tw336⟩
theorem tw827 : (Jvm.Cond.methodLink "LeaseLand$Land" (125 : Nat) ({ cls := "LeaseLand$Land", name := "close", desc := "(LLeaseLand$Holding;I)V" } : Jvm.MethodName)) ∈ mj_tbl := mj_w 833 (by decide +kernel) (by decide +kernel)
theorem tw839 : (Jvm.Cond.methodLink "LeaseLand$Land" (117 : Nat) ({ cls := "LeaseLand$Land", name := "hangsFrom", desc := "(LLeaseLand$Holding;LLeaseLand$Holding;)Z" } : Jvm.MethodName)) ∈ mj_tbl := mj_w 845 (by decide +kernel) (by decide +kernel)
theorem tw830 : (Jvm.Cond.code ({ cls := "LeaseLand$Land", name := "close", desc := "(LLeaseLand$Holding;I)V" } : Jvm.MethodName) prog_6_method_18_code (3 : Nat) (Option.none : Option Jvm.ClassFile.FieldType)) ∈ mj_tbl := mj_w 836 (by decide +kernel) (by decide +kernel)
theorem tw828 : (Jvm.Cond.instanceMethod ({ cls := "LeaseLand$Land", name := "close", desc := "(LLeaseLand$Holding;I)V" } : Jvm.MethodName)) ∈ mj_tbl := mj_w 834 (by decide +kernel) (by decide +kernel)
theorem tw829 : (Jvm.Cond.selects "LeaseLand$Land" ({ cls := "LeaseLand$Land", name := "close", desc := "(LLeaseLand$Holding;I)V" } : Jvm.MethodName) ({ cls := "LeaseLand$Land", name := "close", desc := "(LLeaseLand$Holding;I)V" } : Jvm.MethodName)) ∈ mj_tbl := mj_w 835 (by decide +kernel) (by decide +kernel)
theorem ty_X4_close : mj_YV 4 yX4_close cX4_close 3 (none) 2 := ⟨⟨tw830, tw2, by decide +kernel, by decide +kernel, by decide +kernel⟩, tw828, tw829, _, rfl, rfl⟩
theorem tw842 : (Jvm.Cond.code ({ cls := "LeaseLand$Land", name := "hangsFrom", desc := "(LLeaseLand$Holding;LLeaseLand$Holding;)Z" } : Jvm.MethodName) prog_6_method_21_code (4 : Nat) (Option.some Jvm.ClassFile.FieldType.boolean)) ∈ mj_tbl := mj_w 848 (by decide +kernel) (by decide +kernel)
theorem tw840 : (Jvm.Cond.instanceMethod ({ cls := "LeaseLand$Land", name := "hangsFrom", desc := "(LLeaseLand$Holding;LLeaseLand$Holding;)Z" } : Jvm.MethodName)) ∈ mj_tbl := mj_w 846 (by decide +kernel) (by decide +kernel)
theorem tw841 : (Jvm.Cond.selects "LeaseLand$Land" ({ cls := "LeaseLand$Land", name := "hangsFrom", desc := "(LLeaseLand$Holding;LLeaseLand$Holding;)Z" } : Jvm.MethodName) ({ cls := "LeaseLand$Land", name := "hangsFrom", desc := "(LLeaseLand$Holding;LLeaseLand$Holding;)Z" } : Jvm.MethodName)) ∈ mj_tbl := mj_w 847 (by decide +kernel) (by decide +kernel)
theorem ty_X4_hangsFrom : mj_YV 4 yX4_hangsFrom cX4_hangsFrom 4 (some .boolean) 2 := ⟨⟨tw842, tw2, by decide +kernel, by decide +kernel, by decide +kernel⟩, tw840, tw841, _, rfl, rfl⟩
def rm_X4_letFall : Room := { frames := 2, cells := 0, slots := 0, locals := 43 }
theorem dX4_letFall_0 : decode cX4_letFall 0 = .ok (.aload_n 0, 1) := by decide +kernel
theorem dX4_letFall_1 : decode cX4_letFall 1 = .ok (.getfield 37, 3) := by decide +kernel
theorem dX4_letFall_4 : decode cX4_letFall 4 = .ok (.astore_n 3, 1) := by decide +kernel
theorem dX4_letFall_5 : decode cX4_letFall 5 = .ok (.aload_n 3, 1) := by decide +kernel
theorem dX4_letFall_6 : decode cX4_letFall 6 = .ok (.ifnull 21, 3) := by decide +kernel
theorem dX4_letFall_9 : decode cX4_letFall 9 = .ok (.aload_n 3, 1) := by decide +kernel
theorem dX4_letFall_10 : decode cX4_letFall 10 = .ok (.aload_n 0, 1) := by decide +kernel
theorem dX4_letFall_11 : decode cX4_letFall 11 = .ok (.aload_n 3, 1) := by decide +kernel
theorem dX4_letFall_12 : decode cX4_letFall 12 = .ok (.aload_n 1, 1) := by decide +kernel
theorem dX4_letFall_13 : decode cX4_letFall 13 = .ok (.invokevirtual 117, 3) := by decide +kernel
theorem dX4_letFall_16 : decode cX4_letFall 16 = .ok (.putfield 121, 3) := by decide +kernel
theorem dX4_letFall_19 : decode cX4_letFall 19 = .ok (.aload_n 3, 1) := by decide +kernel
theorem dX4_letFall_20 : decode cX4_letFall 20 = .ok (.getfield 44, 3) := by decide +kernel
theorem dX4_letFall_23 : decode cX4_letFall 23 = .ok (.astore_n 3, 1) := by decide +kernel
theorem dX4_letFall_24 : decode cX4_letFall 24 = .ok (.goto (-19), 3) := by decide +kernel
theorem dX4_letFall_27 : decode cX4_letFall 27 = .ok (.iconst 0, 1) := by decide +kernel
theorem dX4_letFall_28 : decode cX4_letFall 28 = .ok (.istore_n 3, 1) := by decide +kernel
theorem dX4_letFall_29 : decode cX4_letFall 29 = .ok (.aload_n 0, 1) := by decide +kernel
theorem dX4_letFall_30 : decode cX4_letFall 30 = .ok (.getfield 37, 3) := by decide +kernel
theorem dX4_letFall_33 : decode cX4_letFall 33 = .ok (.astore 4, 2) := by decide +kernel
theorem dX4_letFall_35 : decode cX4_letFall 35 = .ok (.aload 4, 2) := by decide +kernel
theorem dX4_letFall_37 : decode cX4_letFall 37 = .ok (.ifnull 37, 3) := by decide +kernel
theorem dX4_letFall_40 : decode cX4_letFall 40 = .ok (.aload 4, 2) := by decide +kernel
theorem dX4_letFall_42 : decode cX4_letFall 42 = .ok (.getfield 121, 3) := by decide +kernel
theorem dX4_letFall_45 : decode cX4_letFall 45 = .ok (.ifCond .eq 19, 3) := by decide +kernel
theorem dX4_letFall_48 : decode cX4_letFall 48 = .ok (.aload_n 0, 1) := by decide +kernel
theorem dX4_letFall_49 : decode cX4_letFall 49 = .ok (.aload 4, 2) := by decide +kernel
theorem dX4_letFall_51 : decode cX4_letFall 51 = .ok (.iconst 4, 1) := by decide +kernel
theorem dX4_letFall_52 : decode cX4_letFall 52 = .ok (.invokevirtual 125, 3) := by decide +kernel
theorem dX4_letFall_55 : decode cX4_letFall 55 = .ok (.aload 4, 2) := by decide +kernel
theorem dX4_letFall_57 : decode cX4_letFall 57 = .ok (.aload_n 2, 1) := by decide +kernel
theorem dX4_letFall_58 : decode cX4_letFall 58 = .ok (.putfield 129, 3) := by decide +kernel
theorem dX4_letFall_61 : decode cX4_letFall 61 = .ok (.iinc 3 1, 3) := by decide +kernel
theorem dX4_letFall_64 : decode cX4_letFall 64 = .ok (.aload 4, 2) := by decide +kernel
theorem dX4_letFall_66 : decode cX4_letFall 66 = .ok (.getfield 44, 3) := by decide +kernel
theorem dX4_letFall_69 : decode cX4_letFall 69 = .ok (.astore 4, 2) := by decide +kernel
theorem dX4_letFall_71 : decode cX4_letFall 71 = .ok (.goto (-36), 3) := by decide +kernel
theorem dX4_letFall_74 : decode cX4_letFall 74 = .ok (.iload_n 3, 1) := by decide +kernel
theorem dX4_letFall_75 : decode cX4_letFall 75 = .ok (.ireturn, 1) := by decide +kernel
def vb_X4_letFall_35 (post : Int32 → mj_M → Prop) : Nat → Nat → Nat → Int32 → Nat → mj_M → Prop
  | 0 => fun _ _ _ _ _ => False
  | f + 1 => fun l0 l2 l3 l4 M => if l4 = 0 then (post l3 M) else (mj_tag M l4 = 4 ∧ if (mj_i M l4 14) = 0 then (vb_X4_letFall_35 post f l0 l2 l3 (mj_r M l4 1) M) else (mj_tag M l0 = 5 ∧ vc_X4_close l0 l4 4 M (fun _ M5 => mj_tag M5 l4 = 4 ∧ vb_X4_letFall_35 post f l0 l2 (l3 + 1) (mj_r (mj_wr M5 l4 13 l2) l4 1) (mj_wr M5 l4 13 l2))))
def vb_X4_letFall_5 (post : Int32 → mj_M → Prop) : Nat → Nat → Nat → Nat → Nat → mj_M → Prop
  | 0 => fun _ _ _ _ _ => False
  | f + 1 => fun l0 l1 l2 l3 M => if l3 = 0 then (mj_tag M l0 = 5 ∧ vb_X4_letFall_35 post 60 l0 l2 0 (mj_r M l0 1) M) else (mj_tag M l0 = 5 ∧ vc_X4_hangsFrom l0 l3 l1 M (fun r10 M11 => mj_tag M11 l3 = 4 ∧ vb_X4_letFall_5 post f l0 l1 l2 (mj_r M11 l3 1) (mj_wi M11 l3 14 (mj_b r10))))
def vc_X4_letFall (l0 : Nat) (l1 : Nat) (l2 : Nat) (M : mj_M) (post : Int32 → mj_M → Prop) : Prop := mj_tag M l0 = 5 ∧ vb_X4_letFall_5 post 60 l0 l1 l2 (mj_r M l0 1) M
set_option maxHeartbeats 4000000 in
set_option maxRecDepth 100000 in
theorem xb_X4_letFall_35 {g : mj_G} {post : Int32 → mj_M → Prop} (hC : mj_C g yX4_letFall cX4_letFall 5 (some .int) rm_X4_letFall) (hE : mj_E g mj_jI post 0 0) : ∀ (f : Nat) (l0 : Nat) (l2 : Nat) (l3 : Int32) (l4 : Nat) (M : mj_M), vb_X4_letFall_35 post f l0 l2 l3 l4 M → mj_X g 35 [(0, vR l0), (2, vR l2), (3, vI l3), (4, vR l4)] [] M 0 0 := by
  intro f
  induction f with
  | zero => exact fun _ _ _ _ _ h => absurd h (fun z => z)
  | succ f ih =>
    intro l0 l2 l3 l4 M h
    simp only [vb_X4_letFall_35] at h
    refine mx_aload (j := 3) hC dX4_letFall_35 rfl ?_
    refine mx_ifnull (tgt := 74) hC dX4_letFall_37 (by decide) (fun hc1 => ?_) (fun hc1 => ?_)
    · replace h := mj_yy hc1 h
      refine mx_iload_n (j := 2) hC dX4_letFall_74 rfl rfl ?_
      exact mx_iret hC hE rfl dX4_letFall_75 h
    · replace h := mj_nn hc1 h
      refine mx_aload (j := 3) hC dX4_letFall_40 rfl ?_
      obtain ⟨ht2, h⟩ := h
      refine mx_get (v := vI (mj_i M l4 14)) hC tf_X4_121 ht2 rfl dX4_letFall_42 ?_
      refine mx_ifeq (tgt := 64) hC dX4_letFall_45 (by decide) (fun hc3 => ?_) (fun hc3 => ?_)
      · replace h := mj_yy hc3 h
        refine mx_aload (j := 3) hC dX4_letFall_64 rfl ?_
        refine mx_get (v := vR (mj_r M l4 1)) hC tf_X4_44 ht2 rfl dX4_letFall_66 ?_
        refine mx_astore (L' := [(4, vR (mj_r M l4 1)), (0, vR l0), (2, vR l2), (3, vI l3)]) hC dX4_letFall_69 (by decide) rfl ?_
        refine mx_goto (tgt := 35) hC dX4_letFall_71 (by decide) ?_
        refine mx_sub (L' := [(0, vR l0), (2, vR l2), (3, vI l3), (4, vR (mj_r M l4 1))]) [1, 2, 3, 0] rfl ?_
        exact show mj_X g 35 [(0, vR l0), (2, vR l2), (3, vI l3), (4, vR (mj_r M l4 1))] [] M 0 0 from (ih l0 l2 l3 (mj_r M l4 1) M h)
      · replace h := mj_nn hc3 h
        refine mx_aload_n (j := 0) hC dX4_letFall_48 rfl rfl ?_
        refine mx_aload (j := 3) hC dX4_letFall_49 rfl ?_
        refine mx_iconst (v := 4) hC dX4_letFall_51 (by decide) ?_
        obtain ⟨ht4, h⟩ := h
        refine mx_callV (inj := mj_jV) (As := [vR l4, vI 4]) (st := []) hC (ct_X4_close l0 l4 4 M _ h) ty_X4_close tw827 ht4 rfl (Nat.le_of_ble_eq_true rfl) ⟨rfl, rfl, ⟨by decide, by decide⟩, by decide, by decide⟩ dX4_letFall_52 (fun _ M5 h => ?_)
        show mj_X g 55 [(0, vR l0), (2, vR l2), (3, vI l3), (4, vR l4)] [] M5 0 0
        refine mx_aload (j := 3) hC dX4_letFall_55 rfl ?_
        refine mx_aload_n (j := 1) hC dX4_letFall_57 rfl rfl ?_
        obtain ⟨ht6, h⟩ := h
        refine mx_put (v := vR l2) (M1 := mj_wr M5 l4 13 l2) hC tf_X4_129 ht6 (Or.inl rfl) (mj_fitR l2 _) (mj_off_wr _ _ _ _) mj_put_wr dX4_letFall_58 ?_
        refine mx_iinc (j := 2) (v := l3 + 1) (L' := [(3, vI (l3 + 1)), (0, vR l0), (2, vR l2), (4, vR l4)]) hC dX4_letFall_61 rfl rfl (by decide) rfl ?_
        refine mx_aload (j := 3) hC dX4_letFall_64 rfl ?_
        refine mx_get (v := vR (mj_r (mj_wr M5 l4 13 l2) l4 1)) hC tf_X4_44 ht6 rfl dX4_letFall_66 ?_
        refine mx_astore (L' := [(4, vR (mj_r (mj_wr M5 l4 13 l2) l4 1)), (3, vI (l3 + 1)), (0, vR l0), (2, vR l2)]) hC dX4_letFall_69 (by decide) rfl ?_
        refine mx_goto (tgt := 35) hC dX4_letFall_71 (by decide) ?_
        refine mx_sub (L' := [(0, vR l0), (2, vR l2), (3, vI (l3 + 1)), (4, vR (mj_r (mj_wr M5 l4 13 l2) l4 1))]) [2, 3, 1, 0] rfl ?_
        exact show mj_X g 35 [(0, vR l0), (2, vR l2), (3, vI (l3 + 1)), (4, vR (mj_r (mj_wr M5 l4 13 l2) l4 1))] [] (mj_wr M5 l4 13 l2) 0 0 from (ih l0 l2 (l3 + 1) (mj_r (mj_wr M5 l4 13 l2) l4 1) (mj_wr M5 l4 13 l2) h)
set_option maxHeartbeats 4000000 in
set_option maxRecDepth 100000 in
theorem xb_X4_letFall_5 {g : mj_G} {post : Int32 → mj_M → Prop} (hC : mj_C g yX4_letFall cX4_letFall 5 (some .int) rm_X4_letFall) (hE : mj_E g mj_jI post 0 0) : ∀ (f : Nat) (l0 : Nat) (l1 : Nat) (l2 : Nat) (l3 : Nat) (M : mj_M), vb_X4_letFall_5 post f l0 l1 l2 l3 M → mj_X g 5 [(0, vR l0), (1, vR l1), (2, vR l2), (3, vR l3)] [] M 0 0 := by
  intro f
  induction f with
  | zero => exact fun _ _ _ _ _ h => absurd h (fun z => z)
  | succ f ih =>
    intro l0 l1 l2 l3 M h
    simp only [vb_X4_letFall_5] at h
    refine mx_aload_n (j := 3) hC dX4_letFall_5 rfl rfl ?_
    refine mx_ifnull (tgt := 27) hC dX4_letFall_6 (by decide) (fun hc7 => ?_) (fun hc7 => ?_)
    · replace h := mj_yy hc7 h
      refine mx_iconst (v := 0) hC dX4_letFall_27 (by decide) ?_
      refine mx_istore_n (L' := [(3, vI 0), (0, vR l0), (1, vR l1), (2, vR l2)]) hC dX4_letFall_28 rfl (by decide) rfl ?_
      refine mx_aload_n (j := 1) hC dX4_letFall_29 rfl rfl ?_
      obtain ⟨ht8, h⟩ := h
      refine mx_get (v := vR (mj_r M l0 1)) hC tf_X4_37 ht8 rfl dX4_letFall_30 ?_
      refine mx_astore (L' := [(4, vR (mj_r M l0 1)), (3, vI 0), (0, vR l0), (1, vR l1), (2, vR l2)]) hC dX4_letFall_33 (by decide) rfl ?_
      refine mx_sub (L' := [(0, vR l0), (2, vR l2), (3, vI 0), (4, vR (mj_r M l0 1))]) [2, 4, 1, 0] rfl ?_
      exact show mj_X g 35 [(0, vR l0), (2, vR l2), (3, vI 0), (4, vR (mj_r M l0 1))] [] M 0 0 from (xb_X4_letFall_35 hC hE 60 l0 l2 0 (mj_r M l0 1) M h)
    · replace h := mj_nn hc7 h
      refine mx_aload_n (j := 3) hC dX4_letFall_9 rfl rfl ?_
      refine mx_aload_n (j := 0) hC dX4_letFall_10 rfl rfl ?_
      refine mx_aload_n (j := 3) hC dX4_letFall_11 rfl rfl ?_
      refine mx_aload_n (j := 1) hC dX4_letFall_12 rfl rfl ?_
      obtain ⟨ht9, h⟩ := h
      refine mx_callV (inj := mj_jB) (As := [vR l3, vR l1]) (st := [vR l3]) hC (ct_X4_hangsFrom l0 l3 l1 M _ h) ty_X4_hangsFrom tw839 ht9 rfl (Nat.le_of_ble_eq_true rfl) ⟨rfl, rfl, ⟨by decide, by decide⟩, by decide, by decide⟩ dX4_letFall_13 (fun r10 M11 h => ?_)
      show mj_X g 16 [(0, vR l0), (1, vR l1), (2, vR l2), (3, vR l3)] [vI (mj_b r10), vR l3] M11 0 0
      obtain ⟨ht12, h⟩ := h
      refine mx_put (v := vI (mj_b r10)) (M1 := mj_wi M11 l3 14 (mj_b r10)) hC tf_X4_121 ht12 (Or.inl rfl) (mj_fitZ r10) (mj_off_wi _ _ _ _) mj_put_wz dX4_letFall_16 ?_
      refine mx_aload_n (j := 3) hC dX4_letFall_19 rfl rfl ?_
      refine mx_get (v := vR (mj_r M11 l3 1)) hC tf_X4_44 ht12 rfl dX4_letFall_20 ?_
      refine mx_astore_n (L' := [(3, vR (mj_r M11 l3 1)), (0, vR l0), (1, vR l1), (2, vR l2)]) hC dX4_letFall_23 rfl (by decide) rfl ?_
      refine mx_goto (tgt := 5) hC dX4_letFall_24 (by decide) ?_
      refine mx_sub (L' := [(0, vR l0), (1, vR l1), (2, vR l2), (3, vR (mj_r M11 l3 1))]) [1, 2, 3, 0] rfl ?_
      exact show mj_X g 5 [(0, vR l0), (1, vR l1), (2, vR l2), (3, vR (mj_r M11 l3 1))] [] (mj_wi M11 l3 14 (mj_b r10)) 0 0 from (ih l0 l1 l2 (mj_r M11 l3 1) (mj_wi M11 l3 14 (mj_b r10)) h)
set_option maxHeartbeats 4000000 in
set_option maxRecDepth 100000 in
theorem ct_X4_letFall {l : Launch} {base : Nat} {D : va_G} {A : mj_AT} (l0 : Nat) (l1 : Nat) (l2 : Nat) (M : mj_M) (post : Int32 → mj_M → Prop) (h : vc_X4_letFall l0 l1 l2 M post) : mj_Met l base D A mj_jI yX4_letFall cX4_letFall 5 (some .int) rm_X4_letFall 0 0 [vR l0, vR l1, vR l2] M post := by
  refine mj_entry (by decide +kernel) (Nat.le_of_ble_eq_true rfl) (fun g hC hE h1 h2 h3 h4 => ?_)
  show mj_X g 0 [(0, vR l0), (1, vR l1), (2, vR l2)] [] M 0 0
  simp only [vc_X4_letFall] at h
  refine mx_aload_n (j := 0) hC dX4_letFall_0 rfl rfl ?_
  obtain ⟨ht13, h⟩ := h
  refine mx_get (v := vR (mj_r M l0 1)) hC tf_X4_37 ht13 rfl dX4_letFall_1 ?_
  refine mx_astore_n (L' := [(3, vR (mj_r M l0 1)), (0, vR l0), (1, vR l1), (2, vR l2)]) hC dX4_letFall_4 rfl (by decide) rfl ?_
  refine mx_sub (L' := [(0, vR l0), (1, vR l1), (2, vR l2), (3, vR (mj_r M l0 1))]) [1, 2, 3, 0] rfl ?_
  exact show mj_X g 5 [(0, vR l0), (1, vR l1), (2, vR l2), (3, vR (mj_r M l0 1))] [] M 0 0 from (xb_X4_letFall_5 hC hE 60 l0 l1 l2 (mj_r M l0 1) M h)
theorem tw315 : (Jvm.Cond.fieldLink "LeaseLand$Land" (88 : Nat) "LeaseLand$Holding" "to" "I") ∈ mj_tbl := mj_w 321 (by decide +kernel) (by decide +kernel)
theorem tf_X4_88 : mj_F 3 5 .int false "LeaseLand$Land" 88 := ⟨_, tk3, by decide, rfl, rfl, rfl, tw315⟩
theorem tw811 : (Jvm.Cond.methodLink "LeaseLand$Land" (135 : Nat) ({ cls := "LeaseLand$Land", name := "isInTheWay", desc := "(LLeaseLand$Holding;II)Z" } : Jvm.MethodName)) ∈ mj_tbl := mj_w 817 (by decide +kernel) (by decide +kernel)
theorem tw942 : (Jvm.Cond.methodLink "LeaseLand$Land" (132 : Nat) ({ cls := "LeaseLand$Land", name := "isInForce", desc := "(LLeaseLand$Holding;)Z" } : Jvm.MethodName)) ∈ mj_tbl := mj_w 948 (by decide +kernel) (by decide +kernel)
theorem tw943 : (Jvm.Cond.methodLink "LeaseLand$Land" (95 : Nat) ({ cls := "LeaseLand$Holding", name := "hasFloors", desc := "(I)Z" } : Jvm.MethodName)) ∈ mj_tbl := mj_w 949 (by decide +kernel) (by decide +kernel)
theorem tw652 : (Jvm.Cond.code ({ cls := "LeaseLand$Land", name := "isInForce", desc := "(LLeaseLand$Holding;)Z" } : Jvm.MethodName) prog_6_method_3_code (2 : Nat) (Option.some Jvm.ClassFile.FieldType.boolean)) ∈ mj_tbl := mj_w 658 (by decide +kernel) (by decide +kernel)
theorem tw650 : (Jvm.Cond.instanceMethod ({ cls := "LeaseLand$Land", name := "isInForce", desc := "(LLeaseLand$Holding;)Z" } : Jvm.MethodName)) ∈ mj_tbl := mj_w 656 (by decide +kernel) (by decide +kernel)
theorem tw651 : (Jvm.Cond.selects "LeaseLand$Land" ({ cls := "LeaseLand$Land", name := "isInForce", desc := "(LLeaseLand$Holding;)Z" } : Jvm.MethodName) ({ cls := "LeaseLand$Land", name := "isInForce", desc := "(LLeaseLand$Holding;)Z" } : Jvm.MethodName)) ∈ mj_tbl := mj_w 657 (by decide +kernel) (by decide +kernel)
theorem ty_X4_isInForce : mj_YV 4 yX4_isInForce cX4_isInForce 2 (some .boolean) 1 := ⟨⟨tw652, tw2, by decide +kernel, by decide +kernel, by decide +kernel⟩, tw650, tw651, _, rfl, rfl⟩
theorem tw814 : (Jvm.Cond.code ({ cls := "LeaseLand$Land", name := "isInTheWay", desc := "(LLeaseLand$Holding;II)Z" } : Jvm.MethodName) prog_6_method_10_code (4 : Nat) (Option.some Jvm.ClassFile.FieldType.boolean)) ∈ mj_tbl := mj_w 820 (by decide +kernel) (by decide +kernel)
theorem tw812 : (Jvm.Cond.instanceMethod ({ cls := "LeaseLand$Land", name := "isInTheWay", desc := "(LLeaseLand$Holding;II)Z" } : Jvm.MethodName)) ∈ mj_tbl := mj_w 818 (by decide +kernel) (by decide +kernel)
theorem tw813 : (Jvm.Cond.selects "LeaseLand$Land" ({ cls := "LeaseLand$Land", name := "isInTheWay", desc := "(LLeaseLand$Holding;II)Z" } : Jvm.MethodName) ({ cls := "LeaseLand$Land", name := "isInTheWay", desc := "(LLeaseLand$Holding;II)Z" } : Jvm.MethodName)) ∈ mj_tbl := mj_w 819 (by decide +kernel) (by decide +kernel)
theorem ty_X4_isInTheWay : mj_YV 4 yX4_isInTheWay cX4_isInTheWay 4 (some .boolean) 3 := ⟨⟨tw814, tw2, by decide +kernel, by decide +kernel, by decide +kernel⟩, tw812, tw813, _, rfl, rfl⟩
def rm_X4_canStandAgain : Room := { frames := 4, cells := 0, slots := 0, locals := 93 }
theorem dX4_canStandAgain_0 : decode cX4_canStandAgain 0 = .ok (.aload_n 1, 1) := by decide +kernel
theorem dX4_canStandAgain_1 : decode cX4_canStandAgain 1 = .ok (.getfield 51, 3) := by decide +kernel
theorem dX4_canStandAgain_4 : decode cX4_canStandAgain 4 = .ok (.astore_n 2, 1) := by decide +kernel
theorem dX4_canStandAgain_5 : decode cX4_canStandAgain 5 = .ok (.aload_n 2, 1) := by decide +kernel
theorem dX4_canStandAgain_6 : decode cX4_canStandAgain 6 = .ok (.ifnull 26, 3) := by decide +kernel
theorem dX4_canStandAgain_9 : decode cX4_canStandAgain 9 = .ok (.aload_n 0, 1) := by decide +kernel
theorem dX4_canStandAgain_10 : decode cX4_canStandAgain 10 = .ok (.aload_n 2, 1) := by decide +kernel
theorem dX4_canStandAgain_11 : decode cX4_canStandAgain 11 = .ok (.invokevirtual 132, 3) := by decide +kernel
theorem dX4_canStandAgain_14 : decode cX4_canStandAgain 14 = .ok (.ifCond .eq 18, 3) := by decide +kernel
theorem dX4_canStandAgain_17 : decode cX4_canStandAgain 17 = .ok (.aload_n 2, 1) := by decide +kernel
theorem dX4_canStandAgain_18 : decode cX4_canStandAgain 18 = .ok (.aload_n 1, 1) := by decide +kernel
theorem dX4_canStandAgain_19 : decode cX4_canStandAgain 19 = .ok (.getfield 57, 3) := by decide +kernel
theorem dX4_canStandAgain_22 : decode cX4_canStandAgain 22 = .ok (.invokevirtual 95, 3) := by decide +kernel
theorem dX4_canStandAgain_25 : decode cX4_canStandAgain 25 = .ok (.ifCond .eq 7, 3) := by decide +kernel
theorem dX4_canStandAgain_28 : decode cX4_canStandAgain 28 = .ok (.iconst 1, 1) := by decide +kernel
theorem dX4_canStandAgain_29 : decode cX4_canStandAgain 29 = .ok (.goto 4, 3) := by decide +kernel
theorem dX4_canStandAgain_32 : decode cX4_canStandAgain 32 = .ok (.iconst 0, 1) := by decide +kernel
theorem dX4_canStandAgain_33 : decode cX4_canStandAgain 33 = .ok (.istore_n 3, 1) := by decide +kernel
theorem dX4_canStandAgain_34 : decode cX4_canStandAgain 34 = .ok (.iload_n 3, 1) := by decide +kernel
theorem dX4_canStandAgain_35 : decode cX4_canStandAgain 35 = .ok (.ifCond .eq 23, 3) := by decide +kernel
theorem dX4_canStandAgain_38 : decode cX4_canStandAgain 38 = .ok (.aload_n 0, 1) := by decide +kernel
theorem dX4_canStandAgain_39 : decode cX4_canStandAgain 39 = .ok (.aload_n 1, 1) := by decide +kernel
theorem dX4_canStandAgain_40 : decode cX4_canStandAgain 40 = .ok (.aload_n 0, 1) := by decide +kernel
theorem dX4_canStandAgain_41 : decode cX4_canStandAgain 41 = .ok (.getfield 28, 3) := by decide +kernel
theorem dX4_canStandAgain_44 : decode cX4_canStandAgain 44 = .ok (.aload_n 1, 1) := by decide +kernel
theorem dX4_canStandAgain_45 : decode cX4_canStandAgain 45 = .ok (.getfield 88, 3) := by decide +kernel
theorem dX4_canStandAgain_48 : decode cX4_canStandAgain 48 = .ok (.invokevirtual 135, 3) := by decide +kernel
theorem dX4_canStandAgain_51 : decode cX4_canStandAgain 51 = .ok (.ifCond .ne 7, 3) := by decide +kernel
theorem dX4_canStandAgain_54 : decode cX4_canStandAgain 54 = .ok (.iconst 1, 1) := by decide +kernel
theorem dX4_canStandAgain_55 : decode cX4_canStandAgain 55 = .ok (.goto 4, 3) := by decide +kernel
theorem dX4_canStandAgain_58 : decode cX4_canStandAgain 58 = .ok (.iconst 0, 1) := by decide +kernel
theorem dX4_canStandAgain_59 : decode cX4_canStandAgain 59 = .ok (.ireturn, 1) := by decide +kernel
def vb_X4_canStandAgain_33 (post : Bool → mj_M → Prop) (l0 : Nat) (l1 : Nat) (s0 : Bool) (M : mj_M) : Prop := if s0 = true then (mj_tag M l0 = 5 ∧ mj_tag M l1 = 4 ∧ vc_X4_isInTheWay l0 l1 (mj_i M l0 0) (mj_i M l1 5) M (fun r4 M5 => if r4 = true then (post false M5) else (post true M5))) else (post false M)
def vb_X4_canStandAgain_32 (post : Bool → mj_M → Prop) (l0 : Nat) (l1 : Nat) (M : mj_M) : Prop := vb_X4_canStandAgain_33 post l0 l1 false M
def vc_X4_canStandAgain (l0 : Nat) (l1 : Nat) (M : mj_M) (post : Bool → mj_M → Prop) : Prop := mj_tag M l1 = 4 ∧ if (mj_r M l1 2) = 0 then (vb_X4_canStandAgain_32 post l0 l1 M) else (mj_tag M l0 = 5 ∧ vc_X4_isInForce l0 (mj_r M l1 2) M (fun r10 M11 => if r10 = true then (mj_tag M11 l1 = 4 ∧ mj_tag M11 (mj_r M l1 2) = 4 ∧ vc_X3_hasFloors (mj_r M l1 2) (mj_i M11 l1 3) M11 (fun r15 M16 => if r15 = true then (vb_X4_canStandAgain_33 post l0 l1 true M16) else (vb_X4_canStandAgain_32 post l0 l1 M16))) else (vb_X4_canStandAgain_32 post l0 l1 M11)))
set_option maxHeartbeats 4000000 in
set_option maxRecDepth 100000 in
theorem xb_X4_canStandAgain_33 {g : mj_G} {post : Bool → mj_M → Prop} (hC : mj_C g yX4_canStandAgain cX4_canStandAgain 4 (some .boolean) rm_X4_canStandAgain) (hE : mj_E g mj_jB post 0 0) (l0 : Nat) (l1 : Nat) (s0 : Bool) (M : mj_M) (h : vb_X4_canStandAgain_33 post l0 l1 s0 M) : mj_X g 33 [(0, vR l0), (1, vR l1)] [vI (mj_b s0)] M 0 0 := by
  simp only [vb_X4_canStandAgain_33] at h
  refine mx_istore_n (L' := [(3, vI (mj_b s0)), (0, vR l0), (1, vR l1)]) hC dX4_canStandAgain_33 rfl (by decide) rfl ?_
  refine mx_iload_n (j := 0) hC dX4_canStandAgain_34 rfl rfl ?_
  refine mx_ifeqB (tgt := 58) hC dX4_canStandAgain_35 (by decide) (fun hc1 => ?_) (fun hc1 => ?_)
  · replace h := mj_nn hc1 h
    refine mx_iconst (v := 0) hC dX4_canStandAgain_58 (by decide) ?_
    exact mx_zret (b := false) hC hE rfl dX4_canStandAgain_59 h
  · replace h := mj_yy hc1 h
    refine mx_aload_n (j := 1) hC dX4_canStandAgain_38 rfl rfl ?_
    refine mx_aload_n (j := 2) hC dX4_canStandAgain_39 rfl rfl ?_
    refine mx_aload_n (j := 1) hC dX4_canStandAgain_40 rfl rfl ?_
    obtain ⟨ht2, h⟩ := h
    refine mx_get (v := vI (mj_i M l0 0)) hC tf_X4_28 ht2 rfl dX4_canStandAgain_41 ?_
    refine mx_aload_n (j := 2) hC dX4_canStandAgain_44 rfl rfl ?_
    obtain ⟨ht3, h⟩ := h
    refine mx_get (v := vI (mj_i M l1 5)) hC tf_X4_88 ht3 rfl dX4_canStandAgain_45 ?_
    refine mx_callV (inj := mj_jB) (As := [vR l1, vI (mj_i M l0 0), vI (mj_i M l1 5)]) (st := []) hC (ct_X4_isInTheWay l0 l1 (mj_i M l0 0) (mj_i M l1 5) M _ h) ty_X4_isInTheWay tw811 ht2 rfl (Nat.le_of_ble_eq_true rfl) ⟨rfl, rfl, ⟨by decide, by decide⟩, by decide, by decide⟩ dX4_canStandAgain_48 (fun r4 M5 h => ?_)
    show mj_X g 51 [(3, vI (mj_b s0)), (0, vR l0), (1, vR l1)] [vI (mj_b r4)] M5 0 0
    refine mx_ifneB (tgt := 58) hC dX4_canStandAgain_51 (by decide) (fun hc6 => ?_) (fun hc6 => ?_)
    · replace h := mj_yy hc6 h
      refine mx_iconst (v := 0) hC dX4_canStandAgain_58 (by decide) ?_
      exact mx_zret (b := false) hC hE rfl dX4_canStandAgain_59 h
    · replace h := mj_nn hc6 h
      refine mx_iconst (v := 1) hC dX4_canStandAgain_54 (by decide) ?_
      refine mx_goto (tgt := 59) hC dX4_canStandAgain_55 (by decide) ?_
      exact mx_zret (b := true) hC hE rfl dX4_canStandAgain_59 h
set_option maxHeartbeats 4000000 in
set_option maxRecDepth 100000 in
theorem xb_X4_canStandAgain_32 {g : mj_G} {post : Bool → mj_M → Prop} (hC : mj_C g yX4_canStandAgain cX4_canStandAgain 4 (some .boolean) rm_X4_canStandAgain) (hE : mj_E g mj_jB post 0 0) (l0 : Nat) (l1 : Nat) (M : mj_M) (h : vb_X4_canStandAgain_32 post l0 l1 M) : mj_X g 32 [(0, vR l0), (1, vR l1)] [] M 0 0 := by
  simp only [vb_X4_canStandAgain_32] at h
  refine mx_iconst (v := 0) hC dX4_canStandAgain_32 (by decide) ?_
  refine mx_sub (L' := [(0, vR l0), (1, vR l1)]) [0, 1] rfl ?_
  exact show mj_X g 33 [(0, vR l0), (1, vR l1)] [vI (mj_b false)] M 0 0 from (xb_X4_canStandAgain_33 hC hE l0 l1 false M h)
set_option maxHeartbeats 4000000 in
set_option maxRecDepth 100000 in
theorem ct_X4_canStandAgain {l : Launch} {base : Nat} {D : va_G} {A : mj_AT} (l0 : Nat) (l1 : Nat) (M : mj_M) (post : Bool → mj_M → Prop) (h : vc_X4_canStandAgain l0 l1 M post) : mj_Met l base D A mj_jB yX4_canStandAgain cX4_canStandAgain 4 (some .boolean) rm_X4_canStandAgain 0 0 [vR l0, vR l1] M post := by
  refine mj_entry (by decide +kernel) (Nat.le_of_ble_eq_true rfl) (fun g hC hE h1 h2 h3 h4 => ?_)
  show mj_X g 0 [(0, vR l0), (1, vR l1)] [] M 0 0
  simp only [vc_X4_canStandAgain] at h
  refine mx_aload_n (j := 1) hC dX4_canStandAgain_0 rfl rfl ?_
  obtain ⟨ht7, h⟩ := h
  refine mx_get (v := vR (mj_r M l1 2)) hC tf_X4_51 ht7 rfl dX4_canStandAgain_1 ?_
  refine mx_astore_n (L' := [(2, vR (mj_r M l1 2)), (0, vR l0), (1, vR l1)]) hC dX4_canStandAgain_4 rfl (by decide) rfl ?_
  refine mx_aload_n (j := 0) hC dX4_canStandAgain_5 rfl rfl ?_
  refine mx_ifnull (tgt := 32) hC dX4_canStandAgain_6 (by decide) (fun hc8 => ?_) (fun hc8 => ?_)
  · replace h := mj_yy hc8 h
    refine mx_sub (L' := [(0, vR l0), (1, vR l1)]) [1, 2] rfl ?_
    exact show mj_X g 32 [(0, vR l0), (1, vR l1)] [] M 0 0 from (xb_X4_canStandAgain_32 hC hE l0 l1 M h)
  · replace h := mj_nn hc8 h
    refine mx_aload_n (j := 1) hC dX4_canStandAgain_9 rfl rfl ?_
    refine mx_aload_n (j := 0) hC dX4_canStandAgain_10 rfl rfl ?_
    obtain ⟨ht9, h⟩ := h
    refine mx_callV (inj := mj_jB) (As := [vR (mj_r M l1 2)]) (st := []) hC (ct_X4_isInForce l0 (mj_r M l1 2) M _ h) ty_X4_isInForce tw942 ht9 rfl (Nat.le_of_ble_eq_true rfl) ⟨rfl, rfl, ⟨by decide, by decide⟩, by decide, by decide⟩ dX4_canStandAgain_11 (fun r10 M11 h => ?_)
    show mj_X g 14 [(2, vR (mj_r M l1 2)), (0, vR l0), (1, vR l1)] [vI (mj_b r10)] M11 0 0
    refine mx_ifeqB (tgt := 32) hC dX4_canStandAgain_14 (by decide) (fun hc12 => ?_) (fun hc12 => ?_)
    · replace h := mj_nn hc12 h
      refine mx_sub (L' := [(0, vR l0), (1, vR l1)]) [1, 2] rfl ?_
      exact show mj_X g 32 [(0, vR l0), (1, vR l1)] [] M11 0 0 from (xb_X4_canStandAgain_32 hC hE l0 l1 M11 h)
    · replace h := mj_yy hc12 h
      refine mx_aload_n (j := 0) hC dX4_canStandAgain_17 rfl rfl ?_
      refine mx_aload_n (j := 2) hC dX4_canStandAgain_18 rfl rfl ?_
      obtain ⟨ht13, h⟩ := h
      refine mx_get (v := vI (mj_i M11 l1 3)) hC tf_X4_57 ht13 rfl dX4_canStandAgain_19 ?_
      obtain ⟨ht14, h⟩ := h
      refine mx_callV (inj := mj_jB) (As := [vI (mj_i M11 l1 3)]) (st := []) hC (ct_X3_hasFloors (mj_r M l1 2) (mj_i M11 l1 3) M11 _ h) ty_X3_hasFloors tw943 ht14 rfl (Nat.le_of_ble_eq_true rfl) ⟨rfl, rfl, ⟨by decide, by decide⟩, by decide, by decide⟩ dX4_canStandAgain_22 (fun r15 M16 h => ?_)
      show mj_X g 25 [(2, vR (mj_r M l1 2)), (0, vR l0), (1, vR l1)] [vI (mj_b r15)] M16 0 0
      refine mx_ifeqB (tgt := 32) hC dX4_canStandAgain_25 (by decide) (fun hc17 => ?_) (fun hc17 => ?_)
      · replace h := mj_nn hc17 h
        refine mx_sub (L' := [(0, vR l0), (1, vR l1)]) [1, 2] rfl ?_
        exact show mj_X g 32 [(0, vR l0), (1, vR l1)] [] M16 0 0 from (xb_X4_canStandAgain_32 hC hE l0 l1 M16 h)
      · replace h := mj_yy hc17 h
        refine mx_iconst (v := 1) hC dX4_canStandAgain_28 (by decide) ?_
        refine mx_goto (tgt := 33) hC dX4_canStandAgain_29 (by decide) ?_
        refine mx_sub (L' := [(0, vR l0), (1, vR l1)]) [1, 2] rfl ?_
        exact show mj_X g 33 [(0, vR l0), (1, vR l1)] [vI (mj_b true)] M16 0 0 from (xb_X4_canStandAgain_33 hC hE l0 l1 true M16 h)
theorem tw335 : (Jvm.Cond.fieldLink "LeaseLand$Land" (139 : Nat) "LeaseLand$Holding" "breach" "I") ∈ mj_tbl := mj_w 341 (by decide +kernel) (by decide +kernel)
theorem tf_X4_139 : mj_F 3 12 .int false "LeaseLand$Land" 139 := ⟨_, tk3, by decide, rfl, rfl, rfl, tw335⟩
def rm_X4_standAgain : Room := { frames := 0, cells := 0, slots := 0, locals := 0 }
theorem dX4_standAgain_0 : decode cX4_standAgain 0 = .ok (.aload_n 1, 1) := by decide +kernel
theorem dX4_standAgain_1 : decode cX4_standAgain 1 = .ok (.iconst 0, 1) := by decide +kernel
theorem dX4_standAgain_2 : decode cX4_standAgain 2 = .ok (.putfield 111, 3) := by decide +kernel
theorem dX4_standAgain_5 : decode cX4_standAgain 5 = .ok (.aload_n 1, 1) := by decide +kernel
theorem dX4_standAgain_6 : decode cX4_standAgain 6 = .ok (.bipush (-6), 2) := by decide +kernel
theorem dX4_standAgain_8 : decode cX4_standAgain 8 = .ok (.putfield 139, 3) := by decide +kernel
theorem dX4_standAgain_11 : decode cX4_standAgain 11 = .ok (.iconst 1, 1) := by decide +kernel
theorem dX4_standAgain_12 : decode cX4_standAgain 12 = .ok (.istore_n 2, 1) := by decide +kernel
theorem dX4_standAgain_13 : decode cX4_standAgain 13 = .ok (.aload_n 0, 1) := by decide +kernel
theorem dX4_standAgain_14 : decode cX4_standAgain 14 = .ok (.getfield 37, 3) := by decide +kernel
theorem dX4_standAgain_17 : decode cX4_standAgain 17 = .ok (.astore_n 3, 1) := by decide +kernel
theorem dX4_standAgain_18 : decode cX4_standAgain 18 = .ok (.aload_n 3, 1) := by decide +kernel
theorem dX4_standAgain_19 : decode cX4_standAgain 19 = .ok (.ifnull 32, 3) := by decide +kernel
theorem dX4_standAgain_22 : decode cX4_standAgain 22 = .ok (.aload_n 3, 1) := by decide +kernel
theorem dX4_standAgain_23 : decode cX4_standAgain 23 = .ok (.getfield 129, 3) := by decide +kernel
theorem dX4_standAgain_26 : decode cX4_standAgain 26 = .ok (.aload_n 1, 1) := by decide +kernel
theorem dX4_standAgain_27 : decode cX4_standAgain 27 = .ok (.if_acmp .ne 16, 3) := by decide +kernel
theorem dX4_standAgain_30 : decode cX4_standAgain 30 = .ok (.aload_n 3, 1) := by decide +kernel
theorem dX4_standAgain_31 : decode cX4_standAgain 31 = .ok (.iconst 0, 1) := by decide +kernel
theorem dX4_standAgain_32 : decode cX4_standAgain 32 = .ok (.putfield 111, 3) := by decide +kernel
theorem dX4_standAgain_35 : decode cX4_standAgain 35 = .ok (.aload_n 3, 1) := by decide +kernel
theorem dX4_standAgain_36 : decode cX4_standAgain 36 = .ok (.aconst_null, 1) := by decide +kernel
theorem dX4_standAgain_37 : decode cX4_standAgain 37 = .ok (.putfield 129, 3) := by decide +kernel
theorem dX4_standAgain_40 : decode cX4_standAgain 40 = .ok (.iinc 2 1, 3) := by decide +kernel
theorem dX4_standAgain_43 : decode cX4_standAgain 43 = .ok (.aload_n 3, 1) := by decide +kernel
theorem dX4_standAgain_44 : decode cX4_standAgain 44 = .ok (.getfield 44, 3) := by decide +kernel
theorem dX4_standAgain_47 : decode cX4_standAgain 47 = .ok (.astore_n 3, 1) := by decide +kernel
theorem dX4_standAgain_48 : decode cX4_standAgain 48 = .ok (.goto (-30), 3) := by decide +kernel
theorem dX4_standAgain_51 : decode cX4_standAgain 51 = .ok (.iload_n 2, 1) := by decide +kernel
theorem dX4_standAgain_52 : decode cX4_standAgain 52 = .ok (.ireturn, 1) := by decide +kernel
def vb_X4_standAgain_18 (post : Int32 → mj_M → Prop) : Nat → Nat → Int32 → Nat → mj_M → Prop
  | 0 => fun _ _ _ _ => False
  | f + 1 => fun l1 l2 l3 M => if l3 = 0 then (post l2 M) else (mj_tag M l3 = 4 ∧ if (mj_r M l3 13) = l1 then (vb_X4_standAgain_18 post f l1 (l2 + 1) (mj_r (mj_wr (mj_wi M l3 6 0) l3 13 0) l3 1) (mj_wr (mj_wi M l3 6 0) l3 13 0)) else (vb_X4_standAgain_18 post f l1 l2 (mj_r M l3 1) M))
def vc_X4_standAgain (l0 : Nat) (l1 : Nat) (M : mj_M) (post : Int32 → mj_M → Prop) : Prop := mj_tag M l1 = 4 ∧ mj_tag M l0 = 5 ∧ vb_X4_standAgain_18 post 60 l1 1 (mj_r M l0 1) (mj_wi (mj_wi M l1 6 0) l1 12 ((-6)))
set_option maxHeartbeats 4000000 in
set_option maxRecDepth 100000 in
theorem xb_X4_standAgain_18 {g : mj_G} {post : Int32 → mj_M → Prop} (hC : mj_C g yX4_standAgain cX4_standAgain 4 (some .int) rm_X4_standAgain) (hE : mj_E g mj_jI post 0 0) : ∀ (f : Nat) (l1 : Nat) (l2 : Int32) (l3 : Nat) (M : mj_M), vb_X4_standAgain_18 post f l1 l2 l3 M → mj_X g 18 [(1, vR l1), (2, vI l2), (3, vR l3)] [] M 0 0 := by
  intro f
  induction f with
  | zero => exact fun _ _ _ _ h => absurd h (fun z => z)
  | succ f ih =>
    intro l1 l2 l3 M h
    simp only [vb_X4_standAgain_18] at h
    refine mx_aload_n (j := 2) hC dX4_standAgain_18 rfl rfl ?_
    refine mx_ifnull (tgt := 51) hC dX4_standAgain_19 (by decide) (fun hc1 => ?_) (fun hc1 => ?_)
    · replace h := mj_yy hc1 h
      refine mx_iload_n (j := 1) hC dX4_standAgain_51 rfl rfl ?_
      exact mx_iret hC hE rfl dX4_standAgain_52 h
    · replace h := mj_nn hc1 h
      refine mx_aload_n (j := 2) hC dX4_standAgain_22 rfl rfl ?_
      obtain ⟨ht2, h⟩ := h
      refine mx_get (v := vR (mj_r M l3 13)) hC tf_X4_129 ht2 rfl dX4_standAgain_23 ?_
      refine mx_aload_n (j := 0) hC dX4_standAgain_26 rfl rfl ?_
      refine mx_acmpne (tgt := 43) hC dX4_standAgain_27 (by decide) (fun hc3 => ?_) (fun hc3 => ?_)
      · replace h := mj_nn hc3 h
        refine mx_aload_n (j := 2) hC dX4_standAgain_43 rfl rfl ?_
        refine mx_get (v := vR (mj_r M l3 1)) hC tf_X4_44 ht2 rfl dX4_standAgain_44 ?_
        refine mx_astore_n (L' := [(3, vR (mj_r M l3 1)), (1, vR l1), (2, vI l2)]) hC dX4_standAgain_47 rfl (by decide) rfl ?_
        refine mx_goto (tgt := 18) hC dX4_standAgain_48 (by decide) ?_
        refine mx_sub (L' := [(1, vR l1), (2, vI l2), (3, vR (mj_r M l3 1))]) [1, 2, 0] rfl ?_
        exact show mj_X g 18 [(1, vR l1), (2, vI l2), (3, vR (mj_r M l3 1))] [] M 0 0 from (ih l1 l2 (mj_r M l3 1) M h)
      · replace h := mj_yy hc3 h
        refine mx_aload_n (j := 2) hC dX4_standAgain_30 rfl rfl ?_
        refine mx_iconst (v := 0) hC dX4_standAgain_31 (by decide) ?_
        refine mx_put (v := vI 0) (M1 := mj_wi M l3 6 0) hC tf_X4_111 ht2 (Or.inl rfl) ⟨rfl, rfl⟩ (mj_off_wi _ _ _ _) mj_put_wi dX4_standAgain_32 ?_
        refine mx_aload_n (j := 2) hC dX4_standAgain_35 rfl rfl ?_
        refine mx_null hC dX4_standAgain_36 ?_
        refine mx_put (v := vR 0) (M1 := mj_wr (mj_wi M l3 6 0) l3 13 0) hC tf_X4_129 ht2 (Or.inl rfl) (mj_fitR 0 _) (mj_off_wr _ _ _ _) mj_put_wr dX4_standAgain_37 ?_
        refine mx_iinc (j := 1) (v := l2 + 1) (L' := [(2, vI (l2 + 1)), (1, vR l1), (3, vR l3)]) hC dX4_standAgain_40 rfl rfl (by decide) rfl ?_
        refine mx_aload_n (j := 2) hC dX4_standAgain_43 rfl rfl ?_
        refine mx_get (v := vR (mj_r (mj_wr (mj_wi M l3 6 0) l3 13 0) l3 1)) hC tf_X4_44 ht2 rfl dX4_standAgain_44 ?_
        refine mx_astore_n (L' := [(3, vR (mj_r (mj_wr (mj_wi M l3 6 0) l3 13 0) l3 1)), (2, vI (l2 + 1)), (1, vR l1)]) hC dX4_standAgain_47 rfl (by decide) rfl ?_
        refine mx_goto (tgt := 18) hC dX4_standAgain_48 (by decide) ?_
        refine mx_sub (L' := [(1, vR l1), (2, vI (l2 + 1)), (3, vR (mj_r (mj_wr (mj_wi M l3 6 0) l3 13 0) l3 1))]) [2, 1, 0] rfl ?_
        exact show mj_X g 18 [(1, vR l1), (2, vI (l2 + 1)), (3, vR (mj_r (mj_wr (mj_wi M l3 6 0) l3 13 0) l3 1))] [] (mj_wr (mj_wi M l3 6 0) l3 13 0) 0 0 from (ih l1 (l2 + 1) (mj_r (mj_wr (mj_wi M l3 6 0) l3 13 0) l3 1) (mj_wr (mj_wi M l3 6 0) l3 13 0) h)
set_option maxHeartbeats 4000000 in
set_option maxRecDepth 100000 in
theorem ct_X4_standAgain {l : Launch} {base : Nat} {D : va_G} {A : mj_AT} (l0 : Nat) (l1 : Nat) (M : mj_M) (post : Int32 → mj_M → Prop) (h : vc_X4_standAgain l0 l1 M post) : mj_Met l base D A mj_jI yX4_standAgain cX4_standAgain 4 (some .int) rm_X4_standAgain 0 0 [vR l0, vR l1] M post := by
  refine mj_entry (by decide +kernel) (Nat.le_of_ble_eq_true rfl) (fun g hC hE h1 h2 h3 h4 => ?_)
  show mj_X g 0 [(0, vR l0), (1, vR l1)] [] M 0 0
  simp only [vc_X4_standAgain] at h
  refine mx_aload_n (j := 1) hC dX4_standAgain_0 rfl rfl ?_
  refine mx_iconst (v := 0) hC dX4_standAgain_1 (by decide) ?_
  obtain ⟨ht4, h⟩ := h
  refine mx_put (v := vI 0) (M1 := mj_wi M l1 6 0) hC tf_X4_111 ht4 (Or.inl rfl) ⟨rfl, rfl⟩ (mj_off_wi _ _ _ _) mj_put_wi dX4_standAgain_2 ?_
  refine mx_aload_n (j := 1) hC dX4_standAgain_5 rfl rfl ?_
  refine mx_bipush (v := (-6)) hC dX4_standAgain_6 (by decide) ?_
  refine mx_put (v := vI ((-6))) (M1 := mj_wi (mj_wi M l1 6 0) l1 12 ((-6))) hC tf_X4_139 ht4 (Or.inl rfl) ⟨rfl, rfl⟩ (mj_off_wi _ _ _ _) mj_put_wi dX4_standAgain_8 ?_
  refine mx_iconst (v := 1) hC dX4_standAgain_11 (by decide) ?_
  refine mx_istore_n (L' := [(2, vI 1), (0, vR l0), (1, vR l1)]) hC dX4_standAgain_12 rfl (by decide) rfl ?_
  refine mx_aload_n (j := 1) hC dX4_standAgain_13 rfl rfl ?_
  obtain ⟨ht5, h⟩ := h
  refine mx_get (v := vR (mj_r M l0 1)) hC tf_X4_37 ht5 rfl dX4_standAgain_14 ?_
  refine mx_astore_n (L' := [(3, vR (mj_r M l0 1)), (2, vI 1), (0, vR l0), (1, vR l1)]) hC dX4_standAgain_17 rfl (by decide) rfl ?_
  refine mx_sub (L' := [(1, vR l1), (2, vI 1), (3, vR (mj_r M l0 1))]) [3, 1, 0] rfl ?_
  exact show mj_X g 18 [(1, vR l1), (2, vI 1), (3, vR (mj_r M l0 1))] [] (mj_wi (mj_wi M l1 6 0) l1 12 ((-6))) 0 0 from (xb_X4_standAgain_18 hC hE 60 l1 1 (mj_r M l0 1) (mj_wi (mj_wi M l1 6 0) l1 12 ((-6))) h)
theorem tw808 : (Jvm.Cond.constant "LeaseLand$Land" (145 : Nat) (73000 : Int32)) ∈ mj_tbl := mj_w 814 (by decide +kernel) (by decide +kernel)
theorem tw809 : (Jvm.Cond.constant "LeaseLand$Land" (146 : Nat) (32850 : Int32)) ∈ mj_tbl := mj_w 815 (by decide +kernel) (by decide +kernel)
theorem tw810 : (Jvm.Cond.methodLink "LeaseLand$Land" (147 : Nat) ({ cls := "java/lang/Math", name := "min", desc := "(II)I" } : Jvm.MethodName)) ∈ mj_tbl := mj_w 816 (by decide +kernel) (by decide +kernel)
def rm_X4_lengthened : Room := { frames := 1, cells := 0, slots := 0, locals := 21 }
theorem dX4_lengthened_0 : decode cX4_lengthened 0 = .ok (.ldc 145, 2) := by decide +kernel
theorem dX4_lengthened_2 : decode cX4_lengthened 2 = .ok (.aload_n 1, 1) := by decide +kernel
theorem dX4_lengthened_3 : decode cX4_lengthened 3 = .ok (.getfield 88, 3) := by decide +kernel
theorem dX4_lengthened_6 : decode cX4_lengthened 6 = .ok (.ldc 146, 2) := by decide +kernel
theorem dX4_lengthened_8 : decode cX4_lengthened 8 = .ok (.iadd, 1) := by decide +kernel
theorem dX4_lengthened_9 : decode cX4_lengthened 9 = .ok (.invokestatic 147, 3) := by decide +kernel
theorem dX4_lengthened_12 : decode cX4_lengthened 12 = .ok (.ireturn, 1) := by decide +kernel
def vc_X4_lengthened (l0 : Nat) (l1 : Nat) (M : mj_M) (post : Int32 → mj_M → Prop) : Prop := mj_tag M l1 = 4 ∧ vc_J9_min_7cf53 73000 ((mj_i M l1 5) + 32850) M (fun r2 M3 => post r2 M3)
set_option maxHeartbeats 4000000 in
set_option maxRecDepth 100000 in
theorem ct_X4_lengthened {l : Launch} {base : Nat} {D : va_G} {A : mj_AT} (l0 : Nat) (l1 : Nat) (M : mj_M) (post : Int32 → mj_M → Prop) (h : vc_X4_lengthened l0 l1 M post) : mj_Met l base D A mj_jI yX4_lengthened cX4_lengthened 2 (some .int) rm_X4_lengthened 0 0 [vR l0, vR l1] M post := by
  refine mj_entry (by decide +kernel) (Nat.le_of_ble_eq_true rfl) (fun g hC hE h1 h2 h3 h4 => ?_)
  show mj_X g 0 [(0, vR l0), (1, vR l1)] [] M 0 0
  simp only [vc_X4_lengthened] at h
  refine mx_ldc (v := 73000) hC dX4_lengthened_0 tw808 ?_
  refine mx_aload_n (j := 1) hC dX4_lengthened_2 rfl rfl ?_
  obtain ⟨ht1, h⟩ := h
  refine mx_get (v := vI (mj_i M l1 5)) hC tf_X4_88 ht1 rfl dX4_lengthened_3 ?_
  refine mx_ldc (v := 32850) hC dX4_lengthened_6 tw809 ?_
  refine mx_iadd hC dX4_lengthened_8 ?_
  refine mx_callS (inj := mj_jI) (As := [vI 73000, vI ((mj_i M l1 5) + 32850)]) (st := []) hC (ct_J9_min_7cf53 73000 ((mj_i M l1 5) + 32850) M _ h) ty_J9_min_7cf53 tw810 rfl (Nat.le_of_ble_eq_true rfl) ⟨rfl, rfl, ⟨by decide, by decide⟩, by decide, by decide⟩ dX4_lengthened_9 (fun r2 M3 h => ?_)
  show mj_X g 12 [(0, vR l0), (1, vR l1)] [vI r2] M3 0 0
  exact mx_iret hC hE rfl dX4_lengthened_12 h
theorem tw804 : (Jvm.Cond.methodLink "LeaseLand$Land" (142 : Nat) ({ cls := "LeaseLand$Land", name := "lengthened", desc := "(LLeaseLand$Holding;)I" } : Jvm.MethodName)) ∈ mj_tbl := mj_w 810 (by decide +kernel) (by decide +kernel)
theorem tw807 : (Jvm.Cond.code ({ cls := "LeaseLand$Land", name := "lengthened", desc := "(LLeaseLand$Holding;)I" } : Jvm.MethodName) prog_6_method_26_code (2 : Nat) (Option.some Jvm.ClassFile.FieldType.int)) ∈ mj_tbl := mj_w 813 (by decide +kernel) (by decide +kernel)
theorem tw805 : (Jvm.Cond.instanceMethod ({ cls := "LeaseLand$Land", name := "lengthened", desc := "(LLeaseLand$Holding;)I" } : Jvm.MethodName)) ∈ mj_tbl := mj_w 811 (by decide +kernel) (by decide +kernel)
theorem tw806 : (Jvm.Cond.selects "LeaseLand$Land" ({ cls := "LeaseLand$Land", name := "lengthened", desc := "(LLeaseLand$Holding;)I" } : Jvm.MethodName) ({ cls := "LeaseLand$Land", name := "lengthened", desc := "(LLeaseLand$Holding;)I" } : Jvm.MethodName)) ∈ mj_tbl := mj_w 812 (by decide +kernel) (by decide +kernel)
theorem ty_X4_lengthened : mj_YV 4 yX4_lengthened cX4_lengthened 2 (some .int) 1 := ⟨⟨tw807, tw2, by decide +kernel, by decide +kernel, by decide +kernel⟩, tw805, tw806, _, rfl, rfl⟩
def rm_X4_canLengthen : Room := { frames := 4, cells := 0, slots := 0, locals := 93 }
theorem dX4_canLengthen_0 : decode cX4_canLengthen 0 = .ok (.aload_n 0, 1) := by decide +kernel
theorem dX4_canLengthen_1 : decode cX4_canLengthen 1 = .ok (.aload_n 1, 1) := by decide +kernel
theorem dX4_canLengthen_2 : decode cX4_canLengthen 2 = .ok (.invokevirtual 142, 3) := by decide +kernel
theorem dX4_canLengthen_5 : decode cX4_canLengthen 5 = .ok (.istore_n 2, 1) := by decide +kernel
theorem dX4_canLengthen_6 : decode cX4_canLengthen 6 = .ok (.aload_n 1, 1) := by decide +kernel
theorem dX4_canLengthen_7 : decode cX4_canLengthen 7 = .ok (.astore_n 3, 1) := by decide +kernel
theorem dX4_canLengthen_8 : decode cX4_canLengthen 8 = .ok (.aload_n 3, 1) := by decide +kernel
theorem dX4_canLengthen_9 : decode cX4_canLengthen 9 = .ok (.getfield 51, 3) := by decide +kernel
theorem dX4_canLengthen_12 : decode cX4_canLengthen 12 = .ok (.ifnull 26, 3) := by decide +kernel
theorem dX4_canLengthen_15 : decode cX4_canLengthen 15 = .ok (.aload_n 0, 1) := by decide +kernel
theorem dX4_canLengthen_16 : decode cX4_canLengthen 16 = .ok (.aload_n 3, 1) := by decide +kernel
theorem dX4_canLengthen_17 : decode cX4_canLengthen 17 = .ok (.aload_n 3, 1) := by decide +kernel
theorem dX4_canLengthen_18 : decode cX4_canLengthen 18 = .ok (.getfield 88, 3) := by decide +kernel
theorem dX4_canLengthen_21 : decode cX4_canLengthen 21 = .ok (.iload_n 2, 1) := by decide +kernel
theorem dX4_canLengthen_22 : decode cX4_canLengthen 22 = .ok (.invokevirtual 135, 3) := by decide +kernel
theorem dX4_canLengthen_25 : decode cX4_canLengthen 25 = .ok (.ifCond .eq 5, 3) := by decide +kernel
theorem dX4_canLengthen_28 : decode cX4_canLengthen 28 = .ok (.iconst 0, 1) := by decide +kernel
theorem dX4_canLengthen_29 : decode cX4_canLengthen 29 = .ok (.ireturn, 1) := by decide +kernel
theorem dX4_canLengthen_30 : decode cX4_canLengthen 30 = .ok (.aload_n 3, 1) := by decide +kernel
theorem dX4_canLengthen_31 : decode cX4_canLengthen 31 = .ok (.getfield 51, 3) := by decide +kernel
theorem dX4_canLengthen_34 : decode cX4_canLengthen 34 = .ok (.astore_n 3, 1) := by decide +kernel
theorem dX4_canLengthen_35 : decode cX4_canLengthen 35 = .ok (.goto (-27), 3) := by decide +kernel
theorem dX4_canLengthen_38 : decode cX4_canLengthen 38 = .ok (.iconst 1, 1) := by decide +kernel
theorem dX4_canLengthen_39 : decode cX4_canLengthen 39 = .ok (.ireturn, 1) := by decide +kernel
def vb_X4_canLengthen_8 (post : Bool → mj_M → Prop) : Nat → Nat → Int32 → Nat → mj_M → Prop
  | 0 => fun _ _ _ _ => False
  | f + 1 => fun l0 l2 l3 M => mj_tag M l3 = 4 ∧ if (mj_r M l3 2) = 0 then (post true M) else (mj_tag M l0 = 5 ∧ vc_X4_isInTheWay l0 l3 (mj_i M l3 5) l2 M (fun r4 M5 => if r4 = true then (post false M5) else (mj_tag M5 l3 = 4 ∧ vb_X4_canLengthen_8 post f l0 l2 (mj_r M5 l3 2) M5)))
def vc_X4_canLengthen (l0 : Nat) (l1 : Nat) (M : mj_M) (post : Bool → mj_M → Prop) : Prop := mj_tag M l0 = 5 ∧ vc_X4_lengthened l0 l1 M (fun r9 M10 => vb_X4_canLengthen_8 post 60 l0 r9 l1 M10)
set_option maxHeartbeats 4000000 in
set_option maxRecDepth 100000 in
theorem xb_X4_canLengthen_8 {g : mj_G} {post : Bool → mj_M → Prop} (hC : mj_C g yX4_canLengthen cX4_canLengthen 4 (some .boolean) rm_X4_canLengthen) (hE : mj_E g mj_jB post 0 0) : ∀ (f : Nat) (l0 : Nat) (l2 : Int32) (l3 : Nat) (M : mj_M), vb_X4_canLengthen_8 post f l0 l2 l3 M → mj_X g 8 [(0, vR l0), (2, vI l2), (3, vR l3)] [] M 0 0 := by
  intro f
  induction f with
  | zero => exact fun _ _ _ _ h => absurd h (fun z => z)
  | succ f ih =>
    intro l0 l2 l3 M h
    simp only [vb_X4_canLengthen_8] at h
    refine mx_aload_n (j := 2) hC dX4_canLengthen_8 rfl rfl ?_
    obtain ⟨ht1, h⟩ := h
    refine mx_get (v := vR (mj_r M l3 2)) hC tf_X4_51 ht1 rfl dX4_canLengthen_9 ?_
    refine mx_ifnull (tgt := 38) hC dX4_canLengthen_12 (by decide) (fun hc2 => ?_) (fun hc2 => ?_)
    · replace h := mj_yy hc2 h
      refine mx_iconst (v := 1) hC dX4_canLengthen_38 (by decide) ?_
      exact mx_zret (b := true) hC hE rfl dX4_canLengthen_39 h
    · replace h := mj_nn hc2 h
      refine mx_aload_n (j := 0) hC dX4_canLengthen_15 rfl rfl ?_
      refine mx_aload_n (j := 2) hC dX4_canLengthen_16 rfl rfl ?_
      refine mx_aload_n (j := 2) hC dX4_canLengthen_17 rfl rfl ?_
      refine mx_get (v := vI (mj_i M l3 5)) hC tf_X4_88 ht1 rfl dX4_canLengthen_18 ?_
      refine mx_iload_n (j := 1) hC dX4_canLengthen_21 rfl rfl ?_
      obtain ⟨ht3, h⟩ := h
      refine mx_callV (inj := mj_jB) (As := [vR l3, vI (mj_i M l3 5), vI l2]) (st := []) hC (ct_X4_isInTheWay l0 l3 (mj_i M l3 5) l2 M _ h) ty_X4_isInTheWay tw811 ht3 rfl (Nat.le_of_ble_eq_true rfl) ⟨rfl, rfl, ⟨by decide, by decide⟩, by decide, by decide⟩ dX4_canLengthen_22 (fun r4 M5 h => ?_)
      show mj_X g 25 [(0, vR l0), (2, vI l2), (3, vR l3)] [vI (mj_b r4)] M5 0 0
      refine mx_ifeqB (tgt := 30) hC dX4_canLengthen_25 (by decide) (fun hc6 => ?_) (fun hc6 => ?_)
      · replace h := mj_nn hc6 h
        refine mx_aload_n (j := 2) hC dX4_canLengthen_30 rfl rfl ?_
        obtain ⟨ht7, h⟩ := h
        refine mx_get (v := vR (mj_r M5 l3 2)) hC tf_X4_51 ht7 rfl dX4_canLengthen_31 ?_
        refine mx_astore_n (L' := [(3, vR (mj_r M5 l3 2)), (0, vR l0), (2, vI l2)]) hC dX4_canLengthen_34 rfl (by decide) rfl ?_
        refine mx_goto (tgt := 8) hC dX4_canLengthen_35 (by decide) ?_
        refine mx_sub (L' := [(0, vR l0), (2, vI l2), (3, vR (mj_r M5 l3 2))]) [1, 2, 0] rfl ?_
        exact show mj_X g 8 [(0, vR l0), (2, vI l2), (3, vR (mj_r M5 l3 2))] [] M5 0 0 from (ih l0 l2 (mj_r M5 l3 2) M5 h)
      · replace h := mj_yy hc6 h
        refine mx_iconst (v := 0) hC dX4_canLengthen_28 (by decide) ?_
        exact mx_zret (b := false) hC hE rfl dX4_canLengthen_29 h
set_option maxHeartbeats 4000000 in
set_option maxRecDepth 100000 in
theorem ct_X4_canLengthen {l : Launch} {base : Nat} {D : va_G} {A : mj_AT} (l0 : Nat) (l1 : Nat) (M : mj_M) (post : Bool → mj_M → Prop) (h : vc_X4_canLengthen l0 l1 M post) : mj_Met l base D A mj_jB yX4_canLengthen cX4_canLengthen 4 (some .boolean) rm_X4_canLengthen 0 0 [vR l0, vR l1] M post := by
  refine mj_entry (by decide +kernel) (Nat.le_of_ble_eq_true rfl) (fun g hC hE h1 h2 h3 h4 => ?_)
  show mj_X g 0 [(0, vR l0), (1, vR l1)] [] M 0 0
  simp only [vc_X4_canLengthen] at h
  refine mx_aload_n (j := 0) hC dX4_canLengthen_0 rfl rfl ?_
  refine mx_aload_n (j := 1) hC dX4_canLengthen_1 rfl rfl ?_
  obtain ⟨ht8, h⟩ := h
  refine mx_callV (inj := mj_jI) (As := [vR l1]) (st := []) hC (ct_X4_lengthened l0 l1 M _ h) ty_X4_lengthened tw804 ht8 rfl (Nat.le_of_ble_eq_true rfl) ⟨rfl, rfl, ⟨by decide, by decide⟩, by decide, by decide⟩ dX4_canLengthen_2 (fun r9 M10 h => ?_)
  show mj_X g 5 [(0, vR l0), (1, vR l1)] [vI r9] M10 0 0
  refine mx_istore_n (L' := [(2, vI r9), (0, vR l0), (1, vR l1)]) hC dX4_canLengthen_5 rfl (by decide) rfl ?_
  refine mx_aload_n (j := 2) hC dX4_canLengthen_6 rfl rfl ?_
  refine mx_astore_n (L' := [(3, vR l1), (2, vI r9), (0, vR l0), (1, vR l1)]) hC dX4_canLengthen_7 rfl (by decide) rfl ?_
  refine mx_sub (L' := [(0, vR l0), (2, vI r9), (3, vR l1)]) [2, 1, 0] rfl ?_
  exact show mj_X g 8 [(0, vR l0), (2, vI r9), (3, vR l1)] [] M10 0 0 from (xb_X4_canLengthen_8 hC hE 60 l0 r9 l1 M10 h)
theorem tw330 : (Jvm.Cond.fieldLink "LeaseLand$Land" (105 : Nat) "LeaseLand$Holding" "amount" "I") ∈ mj_tbl := mj_w 336 (by decide +kernel) (by decide +kernel)
theorem tf_X4_105 : mj_F 3 10 .int false "LeaseLand$Land" 105 := ⟨_, tk3, by decide, rfl, rfl, rfl, tw330⟩
def rm_X4_lengthen : Room := { frames := 2, cells := 0, slots := 0, locals := 42 }
theorem dX4_lengthen_0 : decode cX4_lengthen 0 = .ok (.aload_n 0, 1) := by decide +kernel
theorem dX4_lengthen_1 : decode cX4_lengthen 1 = .ok (.aload_n 1, 1) := by decide +kernel
theorem dX4_lengthen_2 : decode cX4_lengthen 2 = .ok (.invokevirtual 142, 3) := by decide +kernel
theorem dX4_lengthen_5 : decode cX4_lengthen 5 = .ok (.istore_n 2, 1) := by decide +kernel
theorem dX4_lengthen_6 : decode cX4_lengthen 6 = .ok (.aload_n 1, 1) := by decide +kernel
theorem dX4_lengthen_7 : decode cX4_lengthen 7 = .ok (.astore_n 3, 1) := by decide +kernel
theorem dX4_lengthen_8 : decode cX4_lengthen 8 = .ok (.aload_n 3, 1) := by decide +kernel
theorem dX4_lengthen_9 : decode cX4_lengthen 9 = .ok (.getfield 51, 3) := by decide +kernel
theorem dX4_lengthen_12 : decode cX4_lengthen 12 = .ok (.ifnull 23, 3) := by decide +kernel
theorem dX4_lengthen_15 : decode cX4_lengthen 15 = .ok (.aload_n 3, 1) := by decide +kernel
theorem dX4_lengthen_16 : decode cX4_lengthen 16 = .ok (.aload_n 3, 1) := by decide +kernel
theorem dX4_lengthen_17 : decode cX4_lengthen 17 = .ok (.getfield 88, 3) := by decide +kernel
theorem dX4_lengthen_20 : decode cX4_lengthen 20 = .ok (.iload_n 2, 1) := by decide +kernel
theorem dX4_lengthen_21 : decode cX4_lengthen 21 = .ok (.invokestatic 78, 3) := by decide +kernel
theorem dX4_lengthen_24 : decode cX4_lengthen 24 = .ok (.putfield 88, 3) := by decide +kernel
theorem dX4_lengthen_27 : decode cX4_lengthen 27 = .ok (.aload_n 3, 1) := by decide +kernel
theorem dX4_lengthen_28 : decode cX4_lengthen 28 = .ok (.getfield 51, 3) := by decide +kernel
theorem dX4_lengthen_31 : decode cX4_lengthen 31 = .ok (.astore_n 3, 1) := by decide +kernel
theorem dX4_lengthen_32 : decode cX4_lengthen 32 = .ok (.goto (-24), 3) := by decide +kernel
theorem dX4_lengthen_35 : decode cX4_lengthen 35 = .ok (.aload_n 1, 1) := by decide +kernel
theorem dX4_lengthen_36 : decode cX4_lengthen 36 = .ok (.iconst 0, 1) := by decide +kernel
theorem dX4_lengthen_37 : decode cX4_lengthen 37 = .ok (.putfield 105, 3) := by decide +kernel
theorem dX4_lengthen_40 : decode cX4_lengthen 40 = .ok (.return_, 1) := by decide +kernel
def vb_X4_lengthen_8 (post : Unit → mj_M → Prop) : Nat → Nat → Int32 → Nat → mj_M → Prop
  | 0 => fun _ _ _ _ => False
  | f + 1 => fun l1 l2 l3 M => mj_tag M l3 = 4 ∧ if (mj_r M l3 2) = 0 then (mj_tag M l1 = 4 ∧ post () (mj_wi M l1 10 0)) else (vc_J9_max_7cf53 (mj_i M l3 5) l2 M (fun r4 M5 => mj_tag M5 l3 = 4 ∧ vb_X4_lengthen_8 post f l1 l2 (mj_r M5 l3 2) (mj_wi M5 l3 5 r4)))
def vc_X4_lengthen (l0 : Nat) (l1 : Nat) (M : mj_M) (post : Unit → mj_M → Prop) : Prop := mj_tag M l0 = 5 ∧ vc_X4_lengthened l0 l1 M (fun r8 M9 => vb_X4_lengthen_8 post 60 l1 r8 l1 M9)
set_option maxHeartbeats 4000000 in
set_option maxRecDepth 100000 in
theorem xb_X4_lengthen_8 {g : mj_G} {post : Unit → mj_M → Prop} (hC : mj_C g yX4_lengthen cX4_lengthen 4 (none) rm_X4_lengthen) (hE : mj_E g mj_jV post 0 0) : ∀ (f : Nat) (l1 : Nat) (l2 : Int32) (l3 : Nat) (M : mj_M), vb_X4_lengthen_8 post f l1 l2 l3 M → mj_X g 8 [(1, vR l1), (2, vI l2), (3, vR l3)] [] M 0 0 := by
  intro f
  induction f with
  | zero => exact fun _ _ _ _ h => absurd h (fun z => z)
  | succ f ih =>
    intro l1 l2 l3 M h
    simp only [vb_X4_lengthen_8] at h
    refine mx_aload_n (j := 2) hC dX4_lengthen_8 rfl rfl ?_
    obtain ⟨ht1, h⟩ := h
    refine mx_get (v := vR (mj_r M l3 2)) hC tf_X4_51 ht1 rfl dX4_lengthen_9 ?_
    refine mx_ifnull (tgt := 35) hC dX4_lengthen_12 (by decide) (fun hc2 => ?_) (fun hc2 => ?_)
    · replace h := mj_yy hc2 h
      refine mx_aload_n (j := 0) hC dX4_lengthen_35 rfl rfl ?_
      refine mx_iconst (v := 0) hC dX4_lengthen_36 (by decide) ?_
      obtain ⟨ht3, h⟩ := h
      refine mx_put (v := vI 0) (M1 := mj_wi M l1 10 0) hC tf_X4_105 ht3 (Or.inl rfl) ⟨rfl, rfl⟩ (mj_off_wi _ _ _ _) mj_put_wi dX4_lengthen_37 ?_
      exact mx_vret hC hE rfl dX4_lengthen_40 h
    · replace h := mj_nn hc2 h
      refine mx_aload_n (j := 2) hC dX4_lengthen_15 rfl rfl ?_
      refine mx_aload_n (j := 2) hC dX4_lengthen_16 rfl rfl ?_
      refine mx_get (v := vI (mj_i M l3 5)) hC tf_X4_88 ht1 rfl dX4_lengthen_17 ?_
      refine mx_iload_n (j := 1) hC dX4_lengthen_20 rfl rfl ?_
      refine mx_callS (inj := mj_jI) (As := [vI (mj_i M l3 5), vI l2]) (st := [vR l3]) hC (ct_J9_max_7cf53 (mj_i M l3 5) l2 M _ h) ty_J9_max_7cf53 tw676 rfl (Nat.le_of_ble_eq_true rfl) ⟨rfl, rfl, ⟨by decide, by decide⟩, by decide, by decide⟩ dX4_lengthen_21 (fun r4 M5 h => ?_)
      show mj_X g 24 [(1, vR l1), (2, vI l2), (3, vR l3)] [vI r4, vR l3] M5 0 0
      obtain ⟨ht6, h⟩ := h
      refine mx_put (v := vI r4) (M1 := mj_wi M5 l3 5 r4) hC tf_X4_88 ht6 (Or.inl rfl) ⟨rfl, rfl⟩ (mj_off_wi _ _ _ _) mj_put_wi dX4_lengthen_24 ?_
      refine mx_aload_n (j := 2) hC dX4_lengthen_27 rfl rfl ?_
      refine mx_get (v := vR (mj_r M5 l3 2)) hC tf_X4_51 ht6 rfl dX4_lengthen_28 ?_
      refine mx_astore_n (L' := [(3, vR (mj_r M5 l3 2)), (1, vR l1), (2, vI l2)]) hC dX4_lengthen_31 rfl (by decide) rfl ?_
      refine mx_goto (tgt := 8) hC dX4_lengthen_32 (by decide) ?_
      refine mx_sub (L' := [(1, vR l1), (2, vI l2), (3, vR (mj_r M5 l3 2))]) [1, 2, 0] rfl ?_
      exact show mj_X g 8 [(1, vR l1), (2, vI l2), (3, vR (mj_r M5 l3 2))] [] (mj_wi M5 l3 5 r4) 0 0 from (ih l1 l2 (mj_r M5 l3 2) (mj_wi M5 l3 5 r4) h)
set_option maxHeartbeats 4000000 in
set_option maxRecDepth 100000 in
theorem ct_X4_lengthen {l : Launch} {base : Nat} {D : va_G} {A : mj_AT} (l0 : Nat) (l1 : Nat) (M : mj_M) (post : Unit → mj_M → Prop) (h : vc_X4_lengthen l0 l1 M post) : mj_Met l base D A mj_jV yX4_lengthen cX4_lengthen 4 (none) rm_X4_lengthen 0 0 [vR l0, vR l1] M post := by
  refine mj_entry (by decide +kernel) (Nat.le_of_ble_eq_true rfl) (fun g hC hE h1 h2 h3 h4 => ?_)
  show mj_X g 0 [(0, vR l0), (1, vR l1)] [] M 0 0
  simp only [vc_X4_lengthen] at h
  refine mx_aload_n (j := 0) hC dX4_lengthen_0 rfl rfl ?_
  refine mx_aload_n (j := 1) hC dX4_lengthen_1 rfl rfl ?_
  obtain ⟨ht7, h⟩ := h
  refine mx_callV (inj := mj_jI) (As := [vR l1]) (st := []) hC (ct_X4_lengthened l0 l1 M _ h) ty_X4_lengthened tw804 ht7 rfl (Nat.le_of_ble_eq_true rfl) ⟨rfl, rfl, ⟨by decide, by decide⟩, by decide, by decide⟩ dX4_lengthen_2 (fun r8 M9 h => ?_)
  show mj_X g 5 [(0, vR l0), (1, vR l1)] [vI r8] M9 0 0
  refine mx_istore_n (L' := [(2, vI r8), (0, vR l0), (1, vR l1)]) hC dX4_lengthen_5 rfl (by decide) rfl ?_
  refine mx_aload_n (j := 2) hC dX4_lengthen_6 rfl rfl ?_
  refine mx_astore_n (L' := [(3, vR l1), (2, vI r8), (0, vR l0), (1, vR l1)]) hC dX4_lengthen_7 rfl (by decide) rfl ?_
  refine mx_sub (L' := [(1, vR l1), (2, vI r8), (3, vR l1)]) [3, 1, 0] rfl ?_
  exact show mj_X g 8 [(1, vR l1), (2, vI r8), (3, vR l1)] [] M9 0 0 from (xb_X4_lengthen_8 hC hE 60 l1 r8 l1 M9 h)
def rm_X4_canBuyOut : Room := { frames := 0, cells := 0, slots := 0, locals := 0 }
theorem dX4_canBuyOut_0 : decode cX4_canBuyOut 0 = .ok (.aload_n 1, 1) := by decide +kernel
theorem dX4_canBuyOut_1 : decode cX4_canBuyOut 1 = .ok (.getfield 51, 3) := by decide +kernel
theorem dX4_canBuyOut_4 : decode cX4_canBuyOut 4 = .ok (.astore_n 2, 1) := by decide +kernel
theorem dX4_canBuyOut_5 : decode cX4_canBuyOut 5 = .ok (.aload_n 2, 1) := by decide +kernel
theorem dX4_canBuyOut_6 : decode cX4_canBuyOut 6 = .ok (.ifnull 24, 3) := by decide +kernel
theorem dX4_canBuyOut_9 : decode cX4_canBuyOut 9 = .ok (.aload_n 2, 1) := by decide +kernel
theorem dX4_canBuyOut_10 : decode cX4_canBuyOut 10 = .ok (.getfield 57, 3) := by decide +kernel
theorem dX4_canBuyOut_13 : decode cX4_canBuyOut 13 = .ok (.aload_n 1, 1) := by decide +kernel
theorem dX4_canBuyOut_14 : decode cX4_canBuyOut 14 = .ok (.getfield 57, 3) := by decide +kernel
theorem dX4_canBuyOut_17 : decode cX4_canBuyOut 17 = .ok (.if_icmp .eq 5, 3) := by decide +kernel
theorem dX4_canBuyOut_20 : decode cX4_canBuyOut 20 = .ok (.iconst 0, 1) := by decide +kernel
theorem dX4_canBuyOut_21 : decode cX4_canBuyOut 21 = .ok (.ireturn, 1) := by decide +kernel
theorem dX4_canBuyOut_22 : decode cX4_canBuyOut 22 = .ok (.aload_n 2, 1) := by decide +kernel
theorem dX4_canBuyOut_23 : decode cX4_canBuyOut 23 = .ok (.getfield 51, 3) := by decide +kernel
theorem dX4_canBuyOut_26 : decode cX4_canBuyOut 26 = .ok (.astore_n 2, 1) := by decide +kernel
theorem dX4_canBuyOut_27 : decode cX4_canBuyOut 27 = .ok (.goto (-22), 3) := by decide +kernel
theorem dX4_canBuyOut_30 : decode cX4_canBuyOut 30 = .ok (.iconst 1, 1) := by decide +kernel
theorem dX4_canBuyOut_31 : decode cX4_canBuyOut 31 = .ok (.ireturn, 1) := by decide +kernel
def vb_X4_canBuyOut_5 (post : Bool → mj_M → Prop) : Nat → Nat → Nat → mj_M → Prop
  | 0 => fun _ _ _ => False
  | f + 1 => fun l1 l2 M => if l2 = 0 then (post true M) else (mj_tag M l2 = 4 ∧ mj_tag M l1 = 4 ∧ if (mj_i M l2 3) = (mj_i M l1 3) then (vb_X4_canBuyOut_5 post f l1 (mj_r M l2 2) M) else (post false M))
def vc_X4_canBuyOut (l0 : Nat) (l1 : Nat) (M : mj_M) (post : Bool → mj_M → Prop) : Prop := mj_tag M l1 = 4 ∧ vb_X4_canBuyOut_5 post 60 l1 (mj_r M l1 2) M
set_option maxHeartbeats 4000000 in
set_option maxRecDepth 100000 in
theorem xb_X4_canBuyOut_5 {g : mj_G} {post : Bool → mj_M → Prop} (hC : mj_C g yX4_canBuyOut cX4_canBuyOut 3 (some .boolean) rm_X4_canBuyOut) (hE : mj_E g mj_jB post 0 0) : ∀ (f : Nat) (l1 : Nat) (l2 : Nat) (M : mj_M), vb_X4_canBuyOut_5 post f l1 l2 M → mj_X g 5 [(1, vR l1), (2, vR l2)] [] M 0 0 := by
  intro f
  induction f with
  | zero => exact fun _ _ _ h => absurd h (fun z => z)
  | succ f ih =>
    intro l1 l2 M h
    simp only [vb_X4_canBuyOut_5] at h
    refine mx_aload_n (j := 1) hC dX4_canBuyOut_5 rfl rfl ?_
    refine mx_ifnull (tgt := 30) hC dX4_canBuyOut_6 (by decide) (fun hc1 => ?_) (fun hc1 => ?_)
    · replace h := mj_yy hc1 h
      refine mx_iconst (v := 1) hC dX4_canBuyOut_30 (by decide) ?_
      exact mx_zret (b := true) hC hE rfl dX4_canBuyOut_31 h
    · replace h := mj_nn hc1 h
      refine mx_aload_n (j := 1) hC dX4_canBuyOut_9 rfl rfl ?_
      obtain ⟨ht2, h⟩ := h
      refine mx_get (v := vI (mj_i M l2 3)) hC tf_X4_57 ht2 rfl dX4_canBuyOut_10 ?_
      refine mx_aload_n (j := 0) hC dX4_canBuyOut_13 rfl rfl ?_
      obtain ⟨ht3, h⟩ := h
      refine mx_get (v := vI (mj_i M l1 3)) hC tf_X4_57 ht3 rfl dX4_canBuyOut_14 ?_
      refine mx_icmpeq (tgt := 22) hC dX4_canBuyOut_17 (by decide) (fun hc4 => ?_) (fun hc4 => ?_)
      · replace h := mj_yy hc4 h
        refine mx_aload_n (j := 1) hC dX4_canBuyOut_22 rfl rfl ?_
        refine mx_get (v := vR (mj_r M l2 2)) hC tf_X4_51 ht2 rfl dX4_canBuyOut_23 ?_
        refine mx_astore_n (L' := [(2, vR (mj_r M l2 2)), (1, vR l1)]) hC dX4_canBuyOut_26 rfl (by decide) rfl ?_
        refine mx_goto (tgt := 5) hC dX4_canBuyOut_27 (by decide) ?_
        refine mx_sub (L' := [(1, vR l1), (2, vR (mj_r M l2 2))]) [1, 0] rfl ?_
        exact show mj_X g 5 [(1, vR l1), (2, vR (mj_r M l2 2))] [] M 0 0 from (ih l1 (mj_r M l2 2) M h)
      · replace h := mj_nn hc4 h
        refine mx_iconst (v := 0) hC dX4_canBuyOut_20 (by decide) ?_
        exact mx_zret (b := false) hC hE rfl dX4_canBuyOut_21 h
set_option maxHeartbeats 4000000 in
set_option maxRecDepth 100000 in
theorem ct_X4_canBuyOut {l : Launch} {base : Nat} {D : va_G} {A : mj_AT} (l0 : Nat) (l1 : Nat) (M : mj_M) (post : Bool → mj_M → Prop) (h : vc_X4_canBuyOut l0 l1 M post) : mj_Met l base D A mj_jB yX4_canBuyOut cX4_canBuyOut 3 (some .boolean) rm_X4_canBuyOut 0 0 [vR l0, vR l1] M post := by
  refine mj_entry (by decide +kernel) (Nat.le_of_ble_eq_true rfl) (fun g hC hE h1 h2 h3 h4 => ?_)
  show mj_X g 0 [(0, vR l0), (1, vR l1)] [] M 0 0
  simp only [vc_X4_canBuyOut] at h
  refine mx_aload_n (j := 1) hC dX4_canBuyOut_0 rfl rfl ?_
  obtain ⟨ht5, h⟩ := h
  refine mx_get (v := vR (mj_r M l1 2)) hC tf_X4_51 ht5 rfl dX4_canBuyOut_1 ?_
  refine mx_astore_n (L' := [(2, vR (mj_r M l1 2)), (0, vR l0), (1, vR l1)]) hC dX4_canBuyOut_4 rfl (by decide) rfl ?_
  refine mx_sub (L' := [(1, vR l1), (2, vR (mj_r M l1 2))]) [2, 0] rfl ?_
  exact show mj_X g 5 [(1, vR l1), (2, vR (mj_r M l1 2))] [] M 0 0 from (xb_X4_canBuyOut_5 hC hE 60 l1 (mj_r M l1 2) M h)
theorem tw324 : (Jvm.Cond.fieldLink "LeaseLand$Land" (150 : Nat) "LeaseLand$Holding" "person" "I") ∈ mj_tbl := mj_w 330 (by decide +kernel) (by decide +kernel)
theorem tf_X4_150 : mj_F 3 8 .int false "LeaseLand$Land" 150 := ⟨_, tk3, by decide, rfl, rfl, rfl, tw324⟩
theorem tw327 : (Jvm.Cond.fieldLink "LeaseLand$Land" (153 : Nat) "LeaseLand$Holding" "since" "I") ∈ mj_tbl := mj_w 333 (by decide +kernel) (by decide +kernel)
theorem tf_X4_153 : mj_F 3 9 .int false "LeaseLand$Land" 153 := ⟨_, tk3, by decide, rfl, rfl, rfl, tw327⟩
theorem tw831 : (Jvm.Cond.methodLink "LeaseLand$Land" (156 : Nat) ({ cls := "LeaseLand$Land", name := "handOver", desc := "(LLeaseLand$Holding;LLeaseLand$Holding;)I" } : Jvm.MethodName)) ∈ mj_tbl := mj_w 837 (by decide +kernel) (by decide +kernel)
theorem tw835 : (Jvm.Cond.methodLink "LeaseLand$Land" (160 : Nat) ({ cls := "LeaseLand$Land", name := "letFall", desc := "(LLeaseLand$Holding;LLeaseLand$Holding;)I" } : Jvm.MethodName)) ∈ mj_tbl := mj_w 841 (by decide +kernel) (by decide +kernel)
theorem tw834 : (Jvm.Cond.code ({ cls := "LeaseLand$Land", name := "handOver", desc := "(LLeaseLand$Holding;LLeaseLand$Holding;)I" } : Jvm.MethodName) prog_6_method_19_code (5 : Nat) (Option.some Jvm.ClassFile.FieldType.int)) ∈ mj_tbl := mj_w 840 (by decide +kernel) (by decide +kernel)
theorem tw832 : (Jvm.Cond.instanceMethod ({ cls := "LeaseLand$Land", name := "handOver", desc := "(LLeaseLand$Holding;LLeaseLand$Holding;)I" } : Jvm.MethodName)) ∈ mj_tbl := mj_w 838 (by decide +kernel) (by decide +kernel)
theorem tw833 : (Jvm.Cond.selects "LeaseLand$Land" ({ cls := "LeaseLand$Land", name := "handOver", desc := "(LLeaseLand$Holding;LLeaseLand$Holding;)I" } : Jvm.MethodName) ({ cls := "LeaseLand$Land", name := "handOver", desc := "(LLeaseLand$Holding;LLeaseLand$Holding;)I" } : Jvm.MethodName)) ∈ mj_tbl := mj_w 839 (by decide +kernel) (by decide +kernel)
theorem ty_X4_handOver : mj_YV 4 yX4_handOver cX4_handOver 5 (some .int) 2 := ⟨⟨tw834, tw2, by decide +kernel, by decide +kernel, by decide +kernel⟩, tw832, tw833, _, rfl, rfl⟩
theorem tw838 : (Jvm.Cond.code ({ cls := "LeaseLand$Land", name := "letFall", desc := "(LLeaseLand$Holding;LLeaseLand$Holding;)I" } : Jvm.MethodName) prog_6_method_20_code (5 : Nat) (Option.some Jvm.ClassFile.FieldType.int)) ∈ mj_tbl := mj_w 844 (by decide +kernel) (by decide +kernel)
theorem tw836 : (Jvm.Cond.instanceMethod ({ cls := "LeaseLand$Land", name := "letFall", desc := "(LLeaseLand$Holding;LLeaseLand$Holding;)I" } : Jvm.MethodName)) ∈ mj_tbl := mj_w 842 (by decide +kernel) (by decide +kernel)
theorem tw837 : (Jvm.Cond.selects "LeaseLand$Land" ({ cls := "LeaseLand$Land", name := "letFall", desc := "(LLeaseLand$Holding;LLeaseLand$Holding;)I" } : Jvm.MethodName) ({ cls := "LeaseLand$Land", name := "letFall", desc := "(LLeaseLand$Holding;LLeaseLand$Holding;)I" } : Jvm.MethodName)) ∈ mj_tbl := mj_w 843 (by decide +kernel) (by decide +kernel)
theorem ty_X4_letFall : mj_YV 4 yX4_letFall cX4_letFall 5 (some .int) 2 := ⟨⟨tw838, tw2, by decide +kernel, by decide +kernel, by decide +kernel⟩, tw836, tw837, _, rfl, rfl⟩
def rm_X4_buyOut : Room := { frames := 3, cells := 0, slots := 0, locals := 67 }
theorem dX4_buyOut_0 : decode cX4_buyOut 0 = .ok (.aload_n 0, 1) := by decide +kernel
theorem dX4_buyOut_1 : decode cX4_buyOut 1 = .ok (.aload_n 1, 1) := by decide +kernel
theorem dX4_buyOut_2 : decode cX4_buyOut 2 = .ok (.iconst 3, 1) := by decide +kernel
theorem dX4_buyOut_3 : decode cX4_buyOut 3 = .ok (.invokevirtual 125, 3) := by decide +kernel
theorem dX4_buyOut_6 : decode cX4_buyOut 6 = .ok (.aload_n 1, 1) := by decide +kernel
theorem dX4_buyOut_7 : decode cX4_buyOut 7 = .ok (.astore_n 2, 1) := by decide +kernel
theorem dX4_buyOut_8 : decode cX4_buyOut 8 = .ok (.aload_n 1, 1) := by decide +kernel
theorem dX4_buyOut_9 : decode cX4_buyOut 9 = .ok (.getfield 51, 3) := by decide +kernel
theorem dX4_buyOut_12 : decode cX4_buyOut 12 = .ok (.astore_n 3, 1) := by decide +kernel
theorem dX4_buyOut_13 : decode cX4_buyOut 13 = .ok (.aload_n 3, 1) := by decide +kernel
theorem dX4_buyOut_14 : decode cX4_buyOut 14 = .ok (.ifnull 26, 3) := by decide +kernel
theorem dX4_buyOut_17 : decode cX4_buyOut 17 = .ok (.aload_n 3, 1) := by decide +kernel
theorem dX4_buyOut_18 : decode cX4_buyOut 18 = .ok (.getfield 51, 3) := by decide +kernel
theorem dX4_buyOut_21 : decode cX4_buyOut 21 = .ok (.ifnull 9, 3) := by decide +kernel
theorem dX4_buyOut_24 : decode cX4_buyOut 24 = .ok (.aload_n 0, 1) := by decide +kernel
theorem dX4_buyOut_25 : decode cX4_buyOut 25 = .ok (.aload_n 3, 1) := by decide +kernel
theorem dX4_buyOut_26 : decode cX4_buyOut 26 = .ok (.iconst 5, 1) := by decide +kernel
theorem dX4_buyOut_27 : decode cX4_buyOut 27 = .ok (.invokevirtual 125, 3) := by decide +kernel
theorem dX4_buyOut_30 : decode cX4_buyOut 30 = .ok (.aload_n 3, 1) := by decide +kernel
theorem dX4_buyOut_31 : decode cX4_buyOut 31 = .ok (.astore_n 2, 1) := by decide +kernel
theorem dX4_buyOut_32 : decode cX4_buyOut 32 = .ok (.aload_n 3, 1) := by decide +kernel
theorem dX4_buyOut_33 : decode cX4_buyOut 33 = .ok (.getfield 51, 3) := by decide +kernel
theorem dX4_buyOut_36 : decode cX4_buyOut 36 = .ok (.astore_n 3, 1) := by decide +kernel
theorem dX4_buyOut_37 : decode cX4_buyOut 37 = .ok (.goto (-24), 3) := by decide +kernel
theorem dX4_buyOut_40 : decode cX4_buyOut 40 = .ok (.aload_n 2, 1) := by decide +kernel
theorem dX4_buyOut_41 : decode cX4_buyOut 41 = .ok (.aload_n 1, 1) := by decide +kernel
theorem dX4_buyOut_42 : decode cX4_buyOut 42 = .ok (.getfield 150, 3) := by decide +kernel
theorem dX4_buyOut_45 : decode cX4_buyOut 45 = .ok (.putfield 150, 3) := by decide +kernel
theorem dX4_buyOut_48 : decode cX4_buyOut 48 = .ok (.aload_n 2, 1) := by decide +kernel
theorem dX4_buyOut_49 : decode cX4_buyOut 49 = .ok (.aload_n 0, 1) := by decide +kernel
theorem dX4_buyOut_50 : decode cX4_buyOut 50 = .ok (.getfield 28, 3) := by decide +kernel
theorem dX4_buyOut_53 : decode cX4_buyOut 53 = .ok (.putfield 153, 3) := by decide +kernel
theorem dX4_buyOut_56 : decode cX4_buyOut 56 = .ok (.aload_n 0, 1) := by decide +kernel
theorem dX4_buyOut_57 : decode cX4_buyOut 57 = .ok (.aload_n 1, 1) := by decide +kernel
theorem dX4_buyOut_58 : decode cX4_buyOut 58 = .ok (.aload_n 2, 1) := by decide +kernel
theorem dX4_buyOut_59 : decode cX4_buyOut 59 = .ok (.invokevirtual 156, 3) := by decide +kernel
theorem dX4_buyOut_62 : decode cX4_buyOut 62 = .ok (.pop, 1) := by decide +kernel
theorem dX4_buyOut_63 : decode cX4_buyOut 63 = .ok (.aload_n 1, 1) := by decide +kernel
theorem dX4_buyOut_64 : decode cX4_buyOut 64 = .ok (.getfield 51, 3) := by decide +kernel
theorem dX4_buyOut_67 : decode cX4_buyOut 67 = .ok (.astore_n 3, 1) := by decide +kernel
theorem dX4_buyOut_68 : decode cX4_buyOut 68 = .ok (.aload_n 3, 1) := by decide +kernel
theorem dX4_buyOut_69 : decode cX4_buyOut 69 = .ok (.ifnull 25, 3) := by decide +kernel
theorem dX4_buyOut_72 : decode cX4_buyOut 72 = .ok (.aload_n 3, 1) := by decide +kernel
theorem dX4_buyOut_73 : decode cX4_buyOut 73 = .ok (.getfield 51, 3) := by decide +kernel
theorem dX4_buyOut_76 : decode cX4_buyOut 76 = .ok (.ifnull 18, 3) := by decide +kernel
theorem dX4_buyOut_79 : decode cX4_buyOut 79 = .ok (.aload_n 0, 1) := by decide +kernel
theorem dX4_buyOut_80 : decode cX4_buyOut 80 = .ok (.aload_n 3, 1) := by decide +kernel
theorem dX4_buyOut_81 : decode cX4_buyOut 81 = .ok (.aconst_null, 1) := by decide +kernel
theorem dX4_buyOut_82 : decode cX4_buyOut 82 = .ok (.invokevirtual 160, 3) := by decide +kernel
theorem dX4_buyOut_85 : decode cX4_buyOut 85 = .ok (.pop, 1) := by decide +kernel
theorem dX4_buyOut_86 : decode cX4_buyOut 86 = .ok (.aload_n 3, 1) := by decide +kernel
theorem dX4_buyOut_87 : decode cX4_buyOut 87 = .ok (.getfield 51, 3) := by decide +kernel
theorem dX4_buyOut_90 : decode cX4_buyOut 90 = .ok (.astore_n 3, 1) := by decide +kernel
theorem dX4_buyOut_91 : decode cX4_buyOut 91 = .ok (.goto (-23), 3) := by decide +kernel
theorem dX4_buyOut_94 : decode cX4_buyOut 94 = .ok (.return_, 1) := by decide +kernel
def vb_X4_buyOut_30 (k13 : Nat → Nat → Nat → Nat → mj_M → Prop) (post : Unit → mj_M → Prop) (l0 : Nat) (l1 : Nat) (l3 : Nat) (M : mj_M) : Prop := mj_tag M l3 = 4 ∧ k13 l0 l1 l3 (mj_r M l3 2) M
def vb_X4_buyOut_68 (post : Unit → mj_M → Prop) : Nat → Nat → Nat → mj_M → Prop
  | 0 => fun _ _ _ => False
  | f + 1 => fun l0 l3 M => if l3 = 0 then (post () M) else (mj_tag M l3 = 4 ∧ if (mj_r M l3 2) = 0 then (post () M) else (mj_tag M l0 = 5 ∧ vc_X4_letFall l0 l3 0 M (fun r6 M7 => mj_tag M7 l3 = 4 ∧ vb_X4_buyOut_68 post f l0 (mj_r M7 l3 2) M7)))
def vb_X4_buyOut_13 (post : Unit → mj_M → Prop) : Nat → Nat → Nat → Nat → Nat → mj_M → Prop
  | 0 => fun _ _ _ _ _ => False
  | f + 1 => fun l0 l1 l2 l3 M => if l3 = 0 then (mj_tag M l1 = 4 ∧ mj_tag M l2 = 4 ∧ mj_tag M l0 = 5 ∧ vc_X4_handOver l0 l1 l2 (mj_wi (mj_wi M l2 8 (mj_i M l1 8)) l2 9 (mj_i (mj_wi M l2 8 (mj_i M l1 8)) l0 0)) (fun r13 M14 => mj_tag M14 l1 = 4 ∧ vb_X4_buyOut_68 post 60 l0 (mj_r M14 l1 2) M14)) else (mj_tag M l3 = 4 ∧ if (mj_r M l3 2) = 0 then (vb_X4_buyOut_30 (vb_X4_buyOut_13 post f) post l0 l1 l3 M) else (mj_tag M l0 = 5 ∧ vc_X4_close l0 l3 5 M (fun _ M19 => vb_X4_buyOut_30 (vb_X4_buyOut_13 post f) post l0 l1 l3 M19)))
def vc_X4_buyOut (l0 : Nat) (l1 : Nat) (M : mj_M) (post : Unit → mj_M → Prop) : Prop := mj_tag M l0 = 5 ∧ vc_X4_close l0 l1 3 M (fun _ M21 => mj_tag M21 l1 = 4 ∧ vb_X4_buyOut_13 post 60 l0 l1 l1 (mj_r M21 l1 2) M21)
set_option maxHeartbeats 4000000 in
set_option maxRecDepth 100000 in
theorem xb_X4_buyOut_30 {g : mj_G} {post : Unit → mj_M → Prop} (hC : mj_C g yX4_buyOut cX4_buyOut 4 (none) rm_X4_buyOut) (hE : mj_E g mj_jV post 0 0) {k13 : Nat → Nat → Nat → Nat → mj_M → Prop} (hk13 : ∀ (l0 : Nat) (l1 : Nat) (l2 : Nat) (l3 : Nat) (M : mj_M), k13 l0 l1 l2 l3 M → mj_X g 13 [(0, vR l0), (1, vR l1), (2, vR l2), (3, vR l3)] [] M 0 0) (l0 : Nat) (l1 : Nat) (l3 : Nat) (M : mj_M) (h : vb_X4_buyOut_30 k13 post l0 l1 l3 M) : mj_X g 30 [(0, vR l0), (1, vR l1), (3, vR l3)] [] M 0 0 := by
  simp only [vb_X4_buyOut_30] at h
  refine mx_aload_n (j := 2) hC dX4_buyOut_30 rfl rfl ?_
  refine mx_astore_n (L' := [(2, vR l3), (0, vR l0), (1, vR l1), (3, vR l3)]) hC dX4_buyOut_31 rfl (by decide) rfl ?_
  refine mx_aload_n (j := 3) hC dX4_buyOut_32 rfl rfl ?_
  obtain ⟨ht1, h⟩ := h
  refine mx_get (v := vR (mj_r M l3 2)) hC tf_X4_51 ht1 rfl dX4_buyOut_33 ?_
  refine mx_astore_n (L' := [(3, vR (mj_r M l3 2)), (2, vR l3), (0, vR l0), (1, vR l1)]) hC dX4_buyOut_36 rfl (by decide) rfl ?_
  refine mx_goto (tgt := 13) hC dX4_buyOut_37 (by decide) ?_
  refine mx_sub (L' := [(0, vR l0), (1, vR l1), (2, vR l3), (3, vR (mj_r M l3 2))]) [2, 3, 1, 0] rfl ?_
  exact show mj_X g 13 [(0, vR l0), (1, vR l1), (2, vR l3), (3, vR (mj_r M l3 2))] [] M 0 0 from (hk13 l0 l1 l3 (mj_r M l3 2) M h)
set_option maxHeartbeats 4000000 in
set_option maxRecDepth 100000 in
theorem xb_X4_buyOut_68 {g : mj_G} {post : Unit → mj_M → Prop} (hC : mj_C g yX4_buyOut cX4_buyOut 4 (none) rm_X4_buyOut) (hE : mj_E g mj_jV post 0 0) : ∀ (f : Nat) (l0 : Nat) (l3 : Nat) (M : mj_M), vb_X4_buyOut_68 post f l0 l3 M → mj_X g 68 [(0, vR l0), (3, vR l3)] [] M 0 0 := by
  intro f
  induction f with
  | zero => exact fun _ _ _ h => absurd h (fun z => z)
  | succ f ih =>
    intro l0 l3 M h
    simp only [vb_X4_buyOut_68] at h
    refine mx_aload_n (j := 1) hC dX4_buyOut_68 rfl rfl ?_
    refine mx_ifnull (tgt := 94) hC dX4_buyOut_69 (by decide) (fun hc2 => ?_) (fun hc2 => ?_)
    · replace h := mj_yy hc2 h
      exact mx_vret hC hE rfl dX4_buyOut_94 h
    · replace h := mj_nn hc2 h
      refine mx_aload_n (j := 1) hC dX4_buyOut_72 rfl rfl ?_
      obtain ⟨ht3, h⟩ := h
      refine mx_get (v := vR (mj_r M l3 2)) hC tf_X4_51 ht3 rfl dX4_buyOut_73 ?_
      refine mx_ifnull (tgt := 94) hC dX4_buyOut_76 (by decide) (fun hc4 => ?_) (fun hc4 => ?_)
      · replace h := mj_yy hc4 h
        exact mx_vret hC hE rfl dX4_buyOut_94 h
      · replace h := mj_nn hc4 h
        refine mx_aload_n (j := 0) hC dX4_buyOut_79 rfl rfl ?_
        refine mx_aload_n (j := 1) hC dX4_buyOut_80 rfl rfl ?_
        refine mx_null hC dX4_buyOut_81 ?_
        obtain ⟨ht5, h⟩ := h
        refine mx_callV (inj := mj_jI) (As := [vR l3, vR 0]) (st := []) hC (ct_X4_letFall l0 l3 0 M _ h) ty_X4_letFall tw835 ht5 rfl (Nat.le_of_ble_eq_true rfl) ⟨rfl, rfl, ⟨by decide, by decide⟩, by decide, by decide⟩ dX4_buyOut_82 (fun r6 M7 h => ?_)
        show mj_X g 85 [(0, vR l0), (3, vR l3)] [vI r6] M7 0 0
        refine mx_pop hC dX4_buyOut_85 rfl ?_
        refine mx_aload_n (j := 1) hC dX4_buyOut_86 rfl rfl ?_
        obtain ⟨ht8, h⟩ := h
        refine mx_get (v := vR (mj_r M7 l3 2)) hC tf_X4_51 ht8 rfl dX4_buyOut_87 ?_
        refine mx_astore_n (L' := [(3, vR (mj_r M7 l3 2)), (0, vR l0)]) hC dX4_buyOut_90 rfl (by decide) rfl ?_
        refine mx_goto (tgt := 68) hC dX4_buyOut_91 (by decide) ?_
        refine mx_sub (L' := [(0, vR l0), (3, vR (mj_r M7 l3 2))]) [1, 0] rfl ?_
        exact show mj_X g 68 [(0, vR l0), (3, vR (mj_r M7 l3 2))] [] M7 0 0 from (ih l0 (mj_r M7 l3 2) M7 h)
set_option maxHeartbeats 4000000 in
set_option maxRecDepth 100000 in
theorem xb_X4_buyOut_13 {g : mj_G} {post : Unit → mj_M → Prop} (hC : mj_C g yX4_buyOut cX4_buyOut 4 (none) rm_X4_buyOut) (hE : mj_E g mj_jV post 0 0) : ∀ (f : Nat) (l0 : Nat) (l1 : Nat) (l2 : Nat) (l3 : Nat) (M : mj_M), vb_X4_buyOut_13 post f l0 l1 l2 l3 M → mj_X g 13 [(0, vR l0), (1, vR l1), (2, vR l2), (3, vR l3)] [] M 0 0 := by
  intro f
  induction f with
  | zero => exact fun _ _ _ _ _ h => absurd h (fun z => z)
  | succ f ih =>
    intro l0 l1 l2 l3 M h
    simp only [vb_X4_buyOut_13] at h
    refine mx_aload_n (j := 3) hC dX4_buyOut_13 rfl rfl ?_
    refine mx_ifnull (tgt := 40) hC dX4_buyOut_14 (by decide) (fun hc9 => ?_) (fun hc9 => ?_)
    · replace h := mj_yy hc9 h
      refine mx_aload_n (j := 2) hC dX4_buyOut_40 rfl rfl ?_
      refine mx_aload_n (j := 1) hC dX4_buyOut_41 rfl rfl ?_
      obtain ⟨ht10, h⟩ := h
      refine mx_get (v := vI (mj_i M l1 8)) hC tf_X4_150 ht10 rfl dX4_buyOut_42 ?_
      obtain ⟨ht11, h⟩ := h
      refine mx_put (v := vI (mj_i M l1 8)) (M1 := mj_wi M l2 8 (mj_i M l1 8)) hC tf_X4_150 ht11 (Or.inl rfl) ⟨rfl, rfl⟩ (mj_off_wi _ _ _ _) mj_put_wi dX4_buyOut_45 ?_
      refine mx_aload_n (j := 2) hC dX4_buyOut_48 rfl rfl ?_
      refine mx_aload_n (j := 0) hC dX4_buyOut_49 rfl rfl ?_
      obtain ⟨ht12, h⟩ := h
      refine mx_get (v := vI (mj_i (mj_wi M l2 8 (mj_i M l1 8)) l0 0)) hC tf_X4_28 ht12 rfl dX4_buyOut_50 ?_
      refine mx_put (v := vI (mj_i (mj_wi M l2 8 (mj_i M l1 8)) l0 0)) (M1 := mj_wi (mj_wi M l2 8 (mj_i M l1 8)) l2 9 (mj_i (mj_wi M l2 8 (mj_i M l1 8)) l0 0)) hC tf_X4_153 ht11 (Or.inl rfl) ⟨rfl, rfl⟩ (mj_off_wi _ _ _ _) mj_put_wi dX4_buyOut_53 ?_
      refine mx_aload_n (j := 0) hC dX4_buyOut_56 rfl rfl ?_
      refine mx_aload_n (j := 1) hC dX4_buyOut_57 rfl rfl ?_
      refine mx_aload_n (j := 2) hC dX4_buyOut_58 rfl rfl ?_
      refine mx_callV (inj := mj_jI) (As := [vR l1, vR l2]) (st := []) hC (ct_X4_handOver l0 l1 l2 (mj_wi (mj_wi M l2 8 (mj_i M l1 8)) l2 9 (mj_i (mj_wi M l2 8 (mj_i M l1 8)) l0 0)) _ h) ty_X4_handOver tw831 ht12 rfl (Nat.le_of_ble_eq_true rfl) ⟨rfl, rfl, ⟨by decide, by decide⟩, by decide, by decide⟩ dX4_buyOut_59 (fun r13 M14 h => ?_)
      show mj_X g 62 [(0, vR l0), (1, vR l1), (2, vR l2), (3, vR l3)] [vI r13] M14 0 0
      refine mx_pop hC dX4_buyOut_62 rfl ?_
      refine mx_aload_n (j := 1) hC dX4_buyOut_63 rfl rfl ?_
      obtain ⟨ht15, h⟩ := h
      refine mx_get (v := vR (mj_r M14 l1 2)) hC tf_X4_51 ht15 rfl dX4_buyOut_64 ?_
      refine mx_astore_n (L' := [(3, vR (mj_r M14 l1 2)), (0, vR l0), (1, vR l1), (2, vR l2)]) hC dX4_buyOut_67 rfl (by decide) rfl ?_
      refine mx_sub (L' := [(0, vR l0), (3, vR (mj_r M14 l1 2))]) [1, 0] rfl ?_
      exact show mj_X g 68 [(0, vR l0), (3, vR (mj_r M14 l1 2))] [] M14 0 0 from (xb_X4_buyOut_68 hC hE 60 l0 (mj_r M14 l1 2) M14 h)
    · replace h := mj_nn hc9 h
      refine mx_aload_n (j := 3) hC dX4_buyOut_17 rfl rfl ?_
      obtain ⟨ht16, h⟩ := h
      refine mx_get (v := vR (mj_r M l3 2)) hC tf_X4_51 ht16 rfl dX4_buyOut_18 ?_
      refine mx_ifnull (tgt := 30) hC dX4_buyOut_21 (by decide) (fun hc17 => ?_) (fun hc17 => ?_)
      · replace h := mj_yy hc17 h
        refine mx_sub (L' := [(0, vR l0), (1, vR l1), (3, vR l3)]) [0, 1, 3] rfl ?_
        exact show mj_X g 30 [(0, vR l0), (1, vR l1), (3, vR l3)] [] M 0 0 from (xb_X4_buyOut_30 hC hE ih l0 l1 l3 M h)
      · replace h := mj_nn hc17 h
        refine mx_aload_n (j := 0) hC dX4_buyOut_24 rfl rfl ?_
        refine mx_aload_n (j := 3) hC dX4_buyOut_25 rfl rfl ?_
        refine mx_iconst (v := 5) hC dX4_buyOut_26 (by decide) ?_
        obtain ⟨ht18, h⟩ := h
        refine mx_callV (inj := mj_jV) (As := [vR l3, vI 5]) (st := []) hC (ct_X4_close l0 l3 5 M _ h) ty_X4_close tw827 ht18 rfl (Nat.le_of_ble_eq_true rfl) ⟨rfl, rfl, ⟨by decide, by decide⟩, by decide, by decide⟩ dX4_buyOut_27 (fun _ M19 h => ?_)
        show mj_X g 30 [(0, vR l0), (1, vR l1), (2, vR l2), (3, vR l3)] [] M19 0 0
        refine mx_sub (L' := [(0, vR l0), (1, vR l1), (3, vR l3)]) [0, 1, 3] rfl ?_
        exact show mj_X g 30 [(0, vR l0), (1, vR l1), (3, vR l3)] [] M19 0 0 from (xb_X4_buyOut_30 hC hE ih l0 l1 l3 M19 h)
set_option maxHeartbeats 4000000 in
set_option maxRecDepth 100000 in
theorem ct_X4_buyOut {l : Launch} {base : Nat} {D : va_G} {A : mj_AT} (l0 : Nat) (l1 : Nat) (M : mj_M) (post : Unit → mj_M → Prop) (h : vc_X4_buyOut l0 l1 M post) : mj_Met l base D A mj_jV yX4_buyOut cX4_buyOut 4 (none) rm_X4_buyOut 0 0 [vR l0, vR l1] M post := by
  refine mj_entry (by decide +kernel) (Nat.le_of_ble_eq_true rfl) (fun g hC hE h1 h2 h3 h4 => ?_)
  show mj_X g 0 [(0, vR l0), (1, vR l1)] [] M 0 0
  simp only [vc_X4_buyOut] at h
  refine mx_aload_n (j := 0) hC dX4_buyOut_0 rfl rfl ?_
  refine mx_aload_n (j := 1) hC dX4_buyOut_1 rfl rfl ?_
  refine mx_iconst (v := 3) hC dX4_buyOut_2 (by decide) ?_
  obtain ⟨ht20, h⟩ := h
  refine mx_callV (inj := mj_jV) (As := [vR l1, vI 3]) (st := []) hC (ct_X4_close l0 l1 3 M _ h) ty_X4_close tw827 ht20 rfl (Nat.le_of_ble_eq_true rfl) ⟨rfl, rfl, ⟨by decide, by decide⟩, by decide, by decide⟩ dX4_buyOut_3 (fun _ M21 h => ?_)
  show mj_X g 6 [(0, vR l0), (1, vR l1)] [] M21 0 0
  refine mx_aload_n (j := 1) hC dX4_buyOut_6 rfl rfl ?_
  refine mx_astore_n (L' := [(2, vR l1), (0, vR l0), (1, vR l1)]) hC dX4_buyOut_7 rfl (by decide) rfl ?_
  refine mx_aload_n (j := 2) hC dX4_buyOut_8 rfl rfl ?_
  obtain ⟨ht22, h⟩ := h
  refine mx_get (v := vR (mj_r M21 l1 2)) hC tf_X4_51 ht22 rfl dX4_buyOut_9 ?_
  refine mx_astore_n (L' := [(3, vR (mj_r M21 l1 2)), (2, vR l1), (0, vR l0), (1, vR l1)]) hC dX4_buyOut_12 rfl (by decide) rfl ?_
  refine mx_sub (L' := [(0, vR l0), (1, vR l1), (2, vR l1), (3, vR (mj_r M21 l1 2))]) [2, 3, 1, 0] rfl ?_
  exact show mj_X g 13 [(0, vR l0), (1, vR l1), (2, vR l1), (3, vR (mj_r M21 l1 2))] [] M21 0 0 from (xb_X4_buyOut_13 hC hE 60 l0 l1 l1 (mj_r M21 l1 2) M21 h)

/-! Holding, some of Land. By program (wip/gen) out of the bytecode: vc_KEY: what must hold of a call; ct_KEY: then the machine does it. -/
def rm_J9_max_7cf53 : Room := { frames := 0, cells := 0, slots := 0, locals := 0 }
theorem dJ9_max_7cf53_0 : decode cJ9_max_7cf53 0 = .ok (.iload_n 0, 1) := by decide +kernel
theorem dJ9_max_7cf53_1 : decode cJ9_max_7cf53 1 = .ok (.iload_n 1, 1) := by decide +kernel
theorem dJ9_max_7cf53_2 : decode cJ9_max_7cf53 2 = .ok (.if_icmp .lt 7, 3) := by decide +kernel
theorem dJ9_max_7cf53_5 : decode cJ9_max_7cf53 5 = .ok (.iload_n 0, 1) := by decide +kernel
theorem dJ9_max_7cf53_6 : decode cJ9_max_7cf53 6 = .ok (.goto 4, 3) := by decide +kernel
theorem dJ9_max_7cf53_9 : decode cJ9_max_7cf53 9 = .ok (.iload_n 1, 1) := by decide +kernel
theorem dJ9_max_7cf53_10 : decode cJ9_max_7cf53 10 = .ok (.ireturn, 1) := by decide +kernel
def vc_J9_max_7cf53 (l0 : Int32) (l1 : Int32) (M : mj_M) (post : Int32 → mj_M → Prop) : Prop := if l0 < l1 then (post l1 M) else (post l0 M)
set_option maxHeartbeats 4000000 in
set_option maxRecDepth 100000 in
theorem ct_J9_max_7cf53 {l : Launch} {base : Nat} {D : va_G} {A : ClassId × ClassId × ClassId} (l0 : Int32) (l1 : Int32) (M : mj_M) (post : Int32 → mj_M → Prop) (h : vc_J9_max_7cf53 l0 l1 M post) : mj_Met l base D A mj_jI yJ9_max_7cf53 cJ9_max_7cf53 2 (some .int) rm_J9_max_7cf53 0 0 [vI l0, vI l1] M post := by
  refine mj_entry (by decide +kernel) (Nat.le_of_ble_eq_true rfl) (fun g hC hE h1 h2 h3 h4 => ?_)
  show mj_X g 0 [(0, vI l0), (1, vI l1)] [] M 0 0
  simp only [vc_J9_max_7cf53] at h
  refine mx_iload_n (j := 0) hC dJ9_max_7cf53_0 rfl rfl ?_
  refine mx_iload_n (j := 1) hC dJ9_max_7cf53_1 rfl rfl ?_
  refine mx_icmplt (tgt := 9) hC dJ9_max_7cf53_2 (by decide) (fun hc1 => ?_) (fun hc1 => ?_)
  · replace h := mj_yy hc1 h
    refine mx_iload_n (j := 1) hC dJ9_max_7cf53_9 rfl rfl ?_
    exact mx_iret hC hE rfl dJ9_max_7cf53_10 h
  · replace h := mj_nn hc1 h
    refine mx_iload_n (j := 0) hC dJ9_max_7cf53_5 rfl rfl ?_
    refine mx_goto (tgt := 10) hC dJ9_max_7cf53_6 (by decide) ?_
    exact mx_iret hC hE rfl dJ9_max_7cf53_10 h
def rm_J9_min_7cf53 : Room := { frames := 0, cells := 0, slots := 0, locals := 0 }
theorem dJ9_min_7cf53_0 : decode cJ9_min_7cf53 0 = .ok (.iload_n 0, 1) := by decide +kernel
theorem dJ9_min_7cf53_1 : decode cJ9_min_7cf53 1 = .ok (.iload_n 1, 1) := by decide +kernel
theorem dJ9_min_7cf53_2 : decode cJ9_min_7cf53 2 = .ok (.if_icmp .gt 7, 3) := by decide +kernel
theorem dJ9_min_7cf53_5 : decode cJ9_min_7cf53 5 = .ok (.iload_n 0, 1) := by decide +kernel
theorem dJ9_min_7cf53_6 : decode cJ9_min_7cf53 6 = .ok (.goto 4, 3) := by decide +kernel
theorem dJ9_min_7cf53_9 : decode cJ9_min_7cf53 9 = .ok (.iload_n 1, 1) := by decide +kernel
theorem dJ9_min_7cf53_10 : decode cJ9_min_7cf53 10 = .ok (.ireturn, 1) := by decide +kernel
def vc_J9_min_7cf53 (l0 : Int32) (l1 : Int32) (M : mj_M) (post : Int32 → mj_M → Prop) : Prop := if l1 < l0 then (post l1 M) else (post l0 M)
set_option maxHeartbeats 4000000 in
set_option maxRecDepth 100000 in
theorem ct_J9_min_7cf53 {l : Launch} {base : Nat} {D : va_G} {A : ClassId × ClassId × ClassId} (l0 : Int32) (l1 : Int32) (M : mj_M) (post : Int32 → mj_M → Prop) (h : vc_J9_min_7cf53 l0 l1 M post) : mj_Met l base D A mj_jI yJ9_min_7cf53 cJ9_min_7cf53 2 (some .int) rm_J9_min_7cf53 0 0 [vI l0, vI l1] M post := by
  refine mj_entry (by decide +kernel) (Nat.le_of_ble_eq_true rfl) (fun g hC hE h1 h2 h3 h4 => ?_)
  show mj_X g 0 [(0, vI l0), (1, vI l1)] [] M 0 0
  simp only [vc_J9_min_7cf53] at h
  refine mx_iload_n (j := 0) hC dJ9_min_7cf53_0 rfl rfl ?_
  refine mx_iload_n (j := 1) hC dJ9_min_7cf53_1 rfl rfl ?_
  refine mx_icmpgt (tgt := 9) hC dJ9_min_7cf53_2 (by decide) (fun hc1 => ?_) (fun hc1 => ?_)
  · replace h := mj_yy hc1 h
    refine mx_iload_n (j := 1) hC dJ9_min_7cf53_9 rfl rfl ?_
    exact mx_iret hC hE rfl dJ9_min_7cf53_10 h
  · replace h := mj_nn hc1 h
    refine mx_iload_n (j := 0) hC dJ9_min_7cf53_5 rfl rfl ?_
    refine mx_goto (tgt := 10) hC dJ9_min_7cf53_6 (by decide) ?_
    exact mx_iret hC hE rfl dJ9_min_7cf53_10 h
theorem tw332 : (Jvm.Cond.fieldLink "LeaseLand$Holding" (25 : Nat) "LeaseLand$Holding" "to" "I") ∈ mj_tbl := mj_w 385 (by decide +kernel) (by decide +kernel)
theorem tk3 : mj_KC 3 (RX3, TX3, 15, tyX3) := ⟨rfl, fun w hw => List.mem_filter.mpr ⟨(goodIn_r (big := lw_tbl) (u_ws RX3 TX3 15) [411, 413, 415, 417, 419, 421, 423, 425, 427, 429, 431, 433, 435, 437, 439] (by decide +kernel) (by decide +kernel) w hw).1, List.all_eq_true.mp (show (u_ws RX3 TX3 15).all goodWord = true by decide +kernel) w hw⟩, tyX3_ok, nmX3, by decide⟩
theorem tf_X3_25 : mj_F 3 5 .int false "LeaseLand$Holding" 25 := ⟨_, tk3, by decide, rfl, rfl, rfl, tw332⟩
theorem tw335 : (Jvm.Cond.fieldLink "LeaseLand$Holding" (34 : Nat) "LeaseLand$Holding" "way" "I") ∈ mj_tbl := mj_w 388 (by decide +kernel) (by decide +kernel)
theorem tf_X3_34 : mj_F 3 6 .int false "LeaseLand$Holding" 34 := ⟨_, tk3, by decide, rfl, rfl, rfl, tw335⟩
theorem tw338 : (Jvm.Cond.fieldLink "LeaseLand$Holding" (37 : Nat) "LeaseLand$Holding" "ended" "I") ∈ mj_tbl := mj_w 391 (by decide +kernel) (by decide +kernel)
theorem tf_X3_37 : mj_F 3 7 .int false "LeaseLand$Holding" 37 := ⟨_, tk3, by decide, rfl, rfl, rfl, tw338⟩
def rm_X3_until : Room := { frames := 0, cells := 0, slots := 0, locals := 0 }
theorem dX3_until_0 : decode cX3_until 0 = .ok (.aload_n 0, 1) := by decide +kernel
theorem dX3_until_1 : decode cX3_until 1 = .ok (.getfield 34, 3) := by decide +kernel
theorem dX3_until_4 : decode cX3_until 4 = .ok (.ifCond .ne 10, 3) := by decide +kernel
theorem dX3_until_7 : decode cX3_until 7 = .ok (.aload_n 0, 1) := by decide +kernel
theorem dX3_until_8 : decode cX3_until 8 = .ok (.getfield 25, 3) := by decide +kernel
theorem dX3_until_11 : decode cX3_until 11 = .ok (.goto 7, 3) := by decide +kernel
theorem dX3_until_14 : decode cX3_until 14 = .ok (.aload_n 0, 1) := by decide +kernel
theorem dX3_until_15 : decode cX3_until 15 = .ok (.getfield 37, 3) := by decide +kernel
theorem dX3_until_18 : decode cX3_until 18 = .ok (.ireturn, 1) := by decide +kernel
def vc_X3_until (l0 : Nat) (M : mj_M) (post : Int32 → mj_M → Prop) : Prop := mj_tag M l0 = 4 ∧ if (mj_i M l0 6) = 0 then (post (mj_i M l0 5) M) else (post (mj_i M l0 7) M)
set_option maxHeartbeats 4000000 in
set_option maxRecDepth 100000 in
theorem ct_X3_until {l : Launch} {base : Nat} {D : va_G} {A : ClassId × ClassId × ClassId} (l0 : Nat) (M : mj_M) (post : Int32 → mj_M → Prop) (h : vc_X3_until l0 M post) : mj_Met l base D A mj_jI yX3_until cX3_until 1 (some .int) rm_X3_until 0 0 [vR l0] M post := by
  refine mj_entry (by decide +kernel) (Nat.le_of_ble_eq_true rfl) (fun g hC hE h1 h2 h3 h4 => ?_)
  show mj_X g 0 [(0, vR l0)] [] M 0 0
  simp only [vc_X3_until] at h
  refine mx_aload_n (j := 0) hC dX3_until_0 rfl rfl ?_
  obtain ⟨ht1, h⟩ := h
  refine mx_get (v := vI (mj_i M l0 6)) hC tf_X3_34 ht1 rfl dX3_until_1 ?_
  refine mx_ifne (tgt := 14) hC dX3_until_4 (by decide) (fun hc2 => ?_) (fun hc2 => ?_)
  · replace h := mj_nn hc2 h
    refine mx_aload_n (j := 0) hC dX3_until_14 rfl rfl ?_
    refine mx_get (v := vI (mj_i M l0 7)) hC tf_X3_37 ht1 rfl dX3_until_15 ?_
    exact mx_iret hC hE rfl dX3_until_18 h
  · replace h := mj_yy hc2 h
    refine mx_aload_n (j := 0) hC dX3_until_7 rfl rfl ?_
    refine mx_get (v := vI (mj_i M l0 5)) hC tf_X3_25 ht1 rfl dX3_until_8 ?_
    refine mx_goto (tgt := 18) hC dX3_until_11 (by decide) ?_
    exact mx_iret hC hE rfl dX3_until_18 h
theorem tw329 : (Jvm.Cond.fieldLink "LeaseLand$Holding" (22 : Nat) "LeaseLand$Holding" "from" "I") ∈ mj_tbl := mj_w 382 (by decide +kernel) (by decide +kernel)
theorem tf_X3_22 : mj_F 3 4 .int true "LeaseLand$Holding" 22 := ⟨_, tk3, by decide, rfl, rfl, rfl, tw329⟩
theorem tw417 : (Jvm.Cond.methodLink "LeaseLand$Holding" (40 : Nat) ({ cls := "LeaseLand$Holding", name := "until", desc := "()I" } : Jvm.MethodName)) ∈ mj_tbl := mj_w 470 (by decide +kernel) (by decide +kernel)
theorem tw420 : (Jvm.Cond.code ({ cls := "LeaseLand$Holding", name := "until", desc := "()I" } : Jvm.MethodName) prog_5_method_2_code (1 : Nat) (Option.some Jvm.ClassFile.FieldType.int)) ∈ mj_tbl := mj_w 473 (by decide +kernel) (by decide +kernel)
theorem tw12 : (Jvm.Cond.initialized "LeaseLand$Holding") ∈ mj_tbl := mj_w 65 (by decide +kernel) (by decide +kernel)
theorem tw418 : (Jvm.Cond.instanceMethod ({ cls := "LeaseLand$Holding", name := "until", desc := "()I" } : Jvm.MethodName)) ∈ mj_tbl := mj_w 471 (by decide +kernel) (by decide +kernel)
theorem tw419 : (Jvm.Cond.selects "LeaseLand$Holding" ({ cls := "LeaseLand$Holding", name := "until", desc := "()I" } : Jvm.MethodName) ({ cls := "LeaseLand$Holding", name := "until", desc := "()I" } : Jvm.MethodName)) ∈ mj_tbl := mj_w 472 (by decide +kernel) (by decide +kernel)
theorem ty_X3_until : mj_YV 3 yX3_until cX3_until 1 (some .int) 0 := ⟨⟨tw420, tw12, by decide +kernel, by decide +kernel, by decide +kernel⟩, tw418, tw419, _, rfl, rfl⟩
def rm_X3_isInForce : Room := { frames := 1, cells := 0, slots := 0, locals := 20 }
theorem dX3_isInForce_0 : decode cX3_isInForce 0 = .ok (.aload_n 0, 1) := by decide +kernel
theorem dX3_isInForce_1 : decode cX3_isInForce 1 = .ok (.getfield 22, 3) := by decide +kernel
theorem dX3_isInForce_4 : decode cX3_isInForce 4 = .ok (.iload_n 1, 1) := by decide +kernel
theorem dX3_isInForce_5 : decode cX3_isInForce 5 = .ok (.if_icmp .gt 15, 3) := by decide +kernel
theorem dX3_isInForce_8 : decode cX3_isInForce 8 = .ok (.iload_n 1, 1) := by decide +kernel
theorem dX3_isInForce_9 : decode cX3_isInForce 9 = .ok (.aload_n 0, 1) := by decide +kernel
theorem dX3_isInForce_10 : decode cX3_isInForce 10 = .ok (.invokevirtual 40, 3) := by decide +kernel
theorem dX3_isInForce_13 : decode cX3_isInForce 13 = .ok (.if_icmp .ge 7, 3) := by decide +kernel
theorem dX3_isInForce_16 : decode cX3_isInForce 16 = .ok (.iconst 1, 1) := by decide +kernel
theorem dX3_isInForce_17 : decode cX3_isInForce 17 = .ok (.goto 4, 3) := by decide +kernel
theorem dX3_isInForce_20 : decode cX3_isInForce 20 = .ok (.iconst 0, 1) := by decide +kernel
theorem dX3_isInForce_21 : decode cX3_isInForce 21 = .ok (.ireturn, 1) := by decide +kernel
def vc_X3_isInForce (l0 : Nat) (l1 : Int32) (M : mj_M) (post : Bool → mj_M → Prop) : Prop := mj_tag M l0 = 4 ∧ if l1 < (mj_i M l0 4) then (post false M) else (vc_X3_until l0 M (fun r3 M4 => if r3 ≤ l1 then (post false M4) else (post true M4)))
set_option maxHeartbeats 4000000 in
set_option maxRecDepth 100000 in
theorem ct_X3_isInForce {l : Launch} {base : Nat} {D : va_G} {A : ClassId × ClassId × ClassId} (l0 : Nat) (l1 : Int32) (M : mj_M) (post : Bool → mj_M → Prop) (h : vc_X3_isInForce l0 l1 M post) : mj_Met l base D A mj_jB yX3_isInForce cX3_isInForce 2 (some .boolean) rm_X3_isInForce 0 0 [vR l0, vI l1] M post := by
  refine mj_entry (by decide +kernel) (Nat.le_of_ble_eq_true rfl) (fun g hC hE h1 h2 h3 h4 => ?_)
  show mj_X g 0 [(0, vR l0), (1, vI l1)] [] M 0 0
  simp only [vc_X3_isInForce] at h
  refine mx_aload_n (j := 0) hC dX3_isInForce_0 rfl rfl ?_
  obtain ⟨ht1, h⟩ := h
  refine mx_get (v := vI (mj_i M l0 4)) hC tf_X3_22 ht1 rfl dX3_isInForce_1 ?_
  refine mx_iload_n (j := 1) hC dX3_isInForce_4 rfl rfl ?_
  refine mx_icmpgt (tgt := 20) hC dX3_isInForce_5 (by decide) (fun hc2 => ?_) (fun hc2 => ?_)
  · replace h := mj_yy hc2 h
    refine mx_iconst (v := 0) hC dX3_isInForce_20 (by decide) ?_
    exact mx_zret (b := false) hC hE rfl dX3_isInForce_21 h
  · replace h := mj_nn hc2 h
    refine mx_iload_n (j := 1) hC dX3_isInForce_8 rfl rfl ?_
    refine mx_aload_n (j := 0) hC dX3_isInForce_9 rfl rfl ?_
    refine mx_callV (inj := mj_jI) (As := []) (st := [vI l1]) hC (ct_X3_until l0 M _ h) ty_X3_until tw417 ht1 rfl (Nat.le_of_ble_eq_true rfl) ⟨rfl, rfl, ⟨by decide, by decide⟩, by decide, by decide⟩ dX3_isInForce_10 (fun r3 M4 h => ?_)
    show mj_X g 13 [(0, vR l0), (1, vI l1)] [vI r3, vI l1] M4 0 0
    refine mx_icmpge (tgt := 20) hC dX3_isInForce_13 (by decide) (fun hc5 => ?_) (fun hc5 => ?_)
    · replace h := mj_yy hc5 h
      refine mx_iconst (v := 0) hC dX3_isInForce_20 (by decide) ?_
      exact mx_zret (b := false) hC hE rfl dX3_isInForce_21 h
    · replace h := mj_nn hc5 h
      refine mx_iconst (v := 1) hC dX3_isInForce_16 (by decide) ?_
      refine mx_goto (tgt := 21) hC dX3_isInForce_17 (by decide) ?_
      exact mx_zret (b := true) hC hE rfl dX3_isInForce_21 h
theorem tw325 : (Jvm.Cond.fieldLink "LeaseLand$Holding" (19 : Nat) "LeaseLand$Holding" "floors" "I") ∈ mj_tbl := mj_w 378 (by decide +kernel) (by decide +kernel)
theorem tf_X3_19 : mj_F 3 3 .int false "LeaseLand$Holding" 19 := ⟨_, tk3, by decide, rfl, rfl, rfl, tw325⟩
def rm_X3_hasFloor : Room := { frames := 0, cells := 0, slots := 0, locals := 0 }
theorem dX3_hasFloor_0 : decode cX3_hasFloor 0 = .ok (.aload_n 0, 1) := by decide +kernel
theorem dX3_hasFloor_1 : decode cX3_hasFloor 1 = .ok (.getfield 19, 3) := by decide +kernel
theorem dX3_hasFloor_4 : decode cX3_hasFloor 4 = .ok (.iload_n 1, 1) := by decide +kernel
theorem dX3_hasFloor_5 : decode cX3_hasFloor 5 = .ok (.ishr, 1) := by decide +kernel
theorem dX3_hasFloor_6 : decode cX3_hasFloor 6 = .ok (.iconst 1, 1) := by decide +kernel
theorem dX3_hasFloor_7 : decode cX3_hasFloor 7 = .ok (.iand, 1) := by decide +kernel
theorem dX3_hasFloor_8 : decode cX3_hasFloor 8 = .ok (.iconst 1, 1) := by decide +kernel
theorem dX3_hasFloor_9 : decode cX3_hasFloor 9 = .ok (.if_icmp .ne 7, 3) := by decide +kernel
theorem dX3_hasFloor_12 : decode cX3_hasFloor 12 = .ok (.iconst 1, 1) := by decide +kernel
theorem dX3_hasFloor_13 : decode cX3_hasFloor 13 = .ok (.goto 4, 3) := by decide +kernel
theorem dX3_hasFloor_16 : decode cX3_hasFloor 16 = .ok (.iconst 0, 1) := by decide +kernel
theorem dX3_hasFloor_17 : decode cX3_hasFloor 17 = .ok (.ireturn, 1) := by decide +kernel
def vc_X3_hasFloor (l0 : Nat) (l1 : Int32) (M : mj_M) (post : Bool → mj_M → Prop) : Prop := mj_tag M l0 = 4 ∧ if (((mj_i M l0 3) >>> (l1 &&& 31)) &&& 1) = 1 then (post true M) else (post false M)
set_option maxHeartbeats 4000000 in
set_option maxRecDepth 100000 in
theorem ct_X3_hasFloor {l : Launch} {base : Nat} {D : va_G} {A : ClassId × ClassId × ClassId} (l0 : Nat) (l1 : Int32) (M : mj_M) (post : Bool → mj_M → Prop) (h : vc_X3_hasFloor l0 l1 M post) : mj_Met l base D A mj_jB yX3_hasFloor cX3_hasFloor 2 (some .boolean) rm_X3_hasFloor 0 0 [vR l0, vI l1] M post := by
  refine mj_entry (by decide +kernel) (Nat.le_of_ble_eq_true rfl) (fun g hC hE h1 h2 h3 h4 => ?_)
  show mj_X g 0 [(0, vR l0), (1, vI l1)] [] M 0 0
  simp only [vc_X3_hasFloor] at h
  refine mx_aload_n (j := 0) hC dX3_hasFloor_0 rfl rfl ?_
  obtain ⟨ht1, h⟩ := h
  refine mx_get (v := vI (mj_i M l0 3)) hC tf_X3_19 ht1 rfl dX3_hasFloor_1 ?_
  refine mx_iload_n (j := 1) hC dX3_hasFloor_4 rfl rfl ?_
  refine mx_ishr hC dX3_hasFloor_5 ?_
  refine mx_iconst (v := 1) hC dX3_hasFloor_6 (by decide) ?_
  refine mx_iand hC dX3_hasFloor_7 ?_
  refine mx_iconst (v := 1) hC dX3_hasFloor_8 (by decide) ?_
  refine mx_icmpne (tgt := 16) hC dX3_hasFloor_9 (by decide) (fun hc2 => ?_) (fun hc2 => ?_)
  · replace h := mj_nn hc2 h
    refine mx_iconst (v := 0) hC dX3_hasFloor_16 (by decide) ?_
    exact mx_zret (b := false) hC hE rfl dX3_hasFloor_17 h
  · replace h := mj_yy hc2 h
    refine mx_iconst (v := 1) hC dX3_hasFloor_12 (by decide) ?_
    refine mx_goto (tgt := 17) hC dX3_hasFloor_13 (by decide) ?_
    exact mx_zret (b := true) hC hE rfl dX3_hasFloor_17 h
def rm_X3_hasFloors : Room := { frames := 0, cells := 0, slots := 0, locals := 0 }
theorem dX3_hasFloors_0 : decode cX3_hasFloors 0 = .ok (.iload_n 1, 1) := by decide +kernel
theorem dX3_hasFloors_1 : decode cX3_hasFloors 1 = .ok (.aload_n 0, 1) := by decide +kernel
theorem dX3_hasFloors_2 : decode cX3_hasFloors 2 = .ok (.getfield 19, 3) := by decide +kernel
theorem dX3_hasFloors_5 : decode cX3_hasFloors 5 = .ok (.iconst (-1), 1) := by decide +kernel
theorem dX3_hasFloors_6 : decode cX3_hasFloors 6 = .ok (.ixor, 1) := by decide +kernel
theorem dX3_hasFloors_7 : decode cX3_hasFloors 7 = .ok (.iand, 1) := by decide +kernel
theorem dX3_hasFloors_8 : decode cX3_hasFloors 8 = .ok (.ifCond .ne 7, 3) := by decide +kernel
theorem dX3_hasFloors_11 : decode cX3_hasFloors 11 = .ok (.iconst 1, 1) := by decide +kernel
theorem dX3_hasFloors_12 : decode cX3_hasFloors 12 = .ok (.goto 4, 3) := by decide +kernel
theorem dX3_hasFloors_15 : decode cX3_hasFloors 15 = .ok (.iconst 0, 1) := by decide +kernel
theorem dX3_hasFloors_16 : decode cX3_hasFloors 16 = .ok (.ireturn, 1) := by decide +kernel
def vc_X3_hasFloors (l0 : Nat) (l1 : Int32) (M : mj_M) (post : Bool → mj_M → Prop) : Prop := mj_tag M l0 = 4 ∧ if (l1 &&& ((mj_i M l0 3) ^^^ ((-1)))) = 0 then (post true M) else (post false M)
set_option maxHeartbeats 4000000 in
set_option maxRecDepth 100000 in
theorem ct_X3_hasFloors {l : Launch} {base : Nat} {D : va_G} {A : ClassId × ClassId × ClassId} (l0 : Nat) (l1 : Int32) (M : mj_M) (post : Bool → mj_M → Prop) (h : vc_X3_hasFloors l0 l1 M post) : mj_Met l base D A mj_jB yX3_hasFloors cX3_hasFloors 2 (some .boolean) rm_X3_hasFloors 0 0 [vR l0, vI l1] M post := by
  refine mj_entry (by decide +kernel) (Nat.le_of_ble_eq_true rfl) (fun g hC hE h1 h2 h3 h4 => ?_)
  show mj_X g 0 [(0, vR l0), (1, vI l1)] [] M 0 0
  simp only [vc_X3_hasFloors] at h
  refine mx_iload_n (j := 1) hC dX3_hasFloors_0 rfl rfl ?_
  refine mx_aload_n (j := 0) hC dX3_hasFloors_1 rfl rfl ?_
  obtain ⟨ht1, h⟩ := h
  refine mx_get (v := vI (mj_i M l0 3)) hC tf_X3_19 ht1 rfl dX3_hasFloors_2 ?_
  refine mx_iconst (v := (-1)) hC dX3_hasFloors_5 (by decide) ?_
  refine mx_ixor hC dX3_hasFloors_6 ?_
  refine mx_iand hC dX3_hasFloors_7 ?_
  refine mx_ifne (tgt := 15) hC dX3_hasFloors_8 (by decide) (fun hc2 => ?_) (fun hc2 => ?_)
  · replace h := mj_nn hc2 h
    refine mx_iconst (v := 0) hC dX3_hasFloors_15 (by decide) ?_
    exact mx_zret (b := false) hC hE rfl dX3_hasFloors_16 h
  · replace h := mj_yy hc2 h
    refine mx_iconst (v := 1) hC dX3_hasFloors_11 (by decide) ?_
    refine mx_goto (tgt := 16) hC dX3_hasFloors_12 (by decide) ?_
    exact mx_zret (b := true) hC hE rfl dX3_hasFloors_16 h
theorem tw429 : (Jvm.Cond.methodLink "LeaseLand$Holding" (44 : Nat) ({ cls := "java/lang/Math", name := "max", desc := "(II)I" } : Jvm.MethodName)) ∈ mj_tbl := mj_w 482 (by decide +kernel) (by decide +kernel)
theorem tw432 : (Jvm.Cond.methodLink "LeaseLand$Holding" (50 : Nat) ({ cls := "java/lang/Math", name := "min", desc := "(II)I" } : Jvm.MethodName)) ∈ mj_tbl := mj_w 485 (by decide +kernel) (by decide +kernel)
theorem tw431 : (Jvm.Cond.code ({ cls := "java/lang/Math", name := "max", desc := "(II)I" } : Jvm.MethodName) prog_18_method_65_code (2 : Nat) (Option.some Jvm.ClassFile.FieldType.int)) ∈ mj_tbl := mj_w 484 (by decide +kernel) (by decide +kernel)
theorem tw13 : (Jvm.Cond.initialized "java/lang/Math") ∈ mj_tbl := mj_w 66 (by decide +kernel) (by decide +kernel)
theorem tw430 : (Jvm.Cond.static ({ cls := "java/lang/Math", name := "max", desc := "(II)I" } : Jvm.MethodName)) ∈ mj_tbl := mj_w 483 (by decide +kernel) (by decide +kernel)
theorem ty_J9_max_7cf53 : mj_YS yJ9_max_7cf53 cJ9_max_7cf53 2 (some .int) 2 := ⟨⟨tw431, tw13, by decide +kernel, by decide +kernel, by decide +kernel⟩, tw430⟩
theorem tw434 : (Jvm.Cond.code ({ cls := "java/lang/Math", name := "min", desc := "(II)I" } : Jvm.MethodName) prog_18_method_69_code (2 : Nat) (Option.some Jvm.ClassFile.FieldType.int)) ∈ mj_tbl := mj_w 487 (by decide +kernel) (by decide +kernel)
theorem tw433 : (Jvm.Cond.static ({ cls := "java/lang/Math", name := "min", desc := "(II)I" } : Jvm.MethodName)) ∈ mj_tbl := mj_w 486 (by decide +kernel) (by decide +kernel)
theorem ty_J9_min_7cf53 : mj_YS yJ9_min_7cf53 cJ9_min_7cf53 2 (some .int) 2 := ⟨⟨tw434, tw13, by decide +kernel, by decide +kernel, by decide +kernel⟩, tw433⟩
def rm_X3_meets : Room := { frames := 1, cells := 0, slots := 0, locals := 21 }
theorem dX3_meets_0 : decode cX3_meets 0 = .ok (.aload_n 0, 1) := by decide +kernel
theorem dX3_meets_1 : decode cX3_meets 1 = .ok (.getfield 19, 3) := by decide +kernel
theorem dX3_meets_4 : decode cX3_meets 4 = .ok (.iload_n 1, 1) := by decide +kernel
theorem dX3_meets_5 : decode cX3_meets 5 = .ok (.iand, 1) := by decide +kernel
theorem dX3_meets_6 : decode cX3_meets 6 = .ok (.ifCond .eq 26, 3) := by decide +kernel
theorem dX3_meets_9 : decode cX3_meets 9 = .ok (.aload_n 0, 1) := by decide +kernel
theorem dX3_meets_10 : decode cX3_meets 10 = .ok (.getfield 22, 3) := by decide +kernel
theorem dX3_meets_13 : decode cX3_meets 13 = .ok (.iload_n 2, 1) := by decide +kernel
theorem dX3_meets_14 : decode cX3_meets 14 = .ok (.invokestatic 44, 3) := by decide +kernel
theorem dX3_meets_17 : decode cX3_meets 17 = .ok (.aload_n 0, 1) := by decide +kernel
theorem dX3_meets_18 : decode cX3_meets 18 = .ok (.invokevirtual 40, 3) := by decide +kernel
theorem dX3_meets_21 : decode cX3_meets 21 = .ok (.iload_n 3, 1) := by decide +kernel
theorem dX3_meets_22 : decode cX3_meets 22 = .ok (.invokestatic 50, 3) := by decide +kernel
theorem dX3_meets_25 : decode cX3_meets 25 = .ok (.if_icmp .ge 7, 3) := by decide +kernel
theorem dX3_meets_28 : decode cX3_meets 28 = .ok (.iconst 1, 1) := by decide +kernel
theorem dX3_meets_29 : decode cX3_meets 29 = .ok (.goto 4, 3) := by decide +kernel
theorem dX3_meets_32 : decode cX3_meets 32 = .ok (.iconst 0, 1) := by decide +kernel
theorem dX3_meets_33 : decode cX3_meets 33 = .ok (.ireturn, 1) := by decide +kernel
def vc_X3_meets (l0 : Nat) (l1 : Int32) (l2 : Int32) (l3 : Int32) (M : mj_M) (post : Bool → mj_M → Prop) : Prop := mj_tag M l0 = 4 ∧ if ((mj_i M l0 3) &&& l1) = 0 then (post false M) else (vc_J9_max_7cf53 (mj_i M l0 4) l2 M (fun r3 M4 => mj_tag M4 l0 = 4 ∧ vc_X3_until l0 M4 (fun r6 M7 => vc_J9_min_7cf53 r6 l3 M7 (fun r8 M9 => if r8 ≤ r3 then (post false M9) else (post true M9)))))
set_option maxHeartbeats 4000000 in
set_option maxRecDepth 100000 in
theorem ct_X3_meets {l : Launch} {base : Nat} {D : va_G} {A : ClassId × ClassId × ClassId} (l0 : Nat) (l1 : Int32) (l2 : Int32) (l3 : Int32) (M : mj_M) (post : Bool → mj_M → Prop) (h : vc_X3_meets l0 l1 l2 l3 M post) : mj_Met l base D A mj_jB yX3_meets cX3_meets 4 (some .boolean) rm_X3_meets 0 0 [vR l0, vI l1, vI l2, vI l3] M post := by
  refine mj_entry (by decide +kernel) (Nat.le_of_ble_eq_true rfl) (fun g hC hE h1 h2 h3 h4 => ?_)
  show mj_X g 0 [(0, vR l0), (1, vI l1), (2, vI l2), (3, vI l3)] [] M 0 0
  simp only [vc_X3_meets] at h
  refine mx_aload_n (j := 0) hC dX3_meets_0 rfl rfl ?_
  obtain ⟨ht1, h⟩ := h
  refine mx_get (v := vI (mj_i M l0 3)) hC tf_X3_19 ht1 rfl dX3_meets_1 ?_
  refine mx_iload_n (j := 1) hC dX3_meets_4 rfl rfl ?_
  refine mx_iand hC dX3_meets_5 ?_
  refine mx_ifeq (tgt := 32) hC dX3_meets_6 (by decide) (fun hc2 => ?_) (fun hc2 => ?_)
  · replace h := mj_yy hc2 h
    refine mx_iconst (v := 0) hC dX3_meets_32 (by decide) ?_
    exact mx_zret (b := false) hC hE rfl dX3_meets_33 h
  · replace h := mj_nn hc2 h
    refine mx_aload_n (j := 0) hC dX3_meets_9 rfl rfl ?_
    refine mx_get (v := vI (mj_i M l0 4)) hC tf_X3_22 ht1 rfl dX3_meets_10 ?_
    refine mx_iload_n (j := 2) hC dX3_meets_13 rfl rfl ?_
    refine mx_callS (inj := mj_jI) (As := [vI (mj_i M l0 4), vI l2]) (st := []) hC (ct_J9_max_7cf53 (mj_i M l0 4) l2 M _ h) ty_J9_max_7cf53 tw429 rfl (Nat.le_of_ble_eq_true rfl) ⟨rfl, rfl, ⟨by decide, by decide⟩, by decide, by decide⟩ dX3_meets_14 (fun r3 M4 h => ?_)
    show mj_X g 17 [(0, vR l0), (1, vI l1), (2, vI l2), (3, vI l3)] [vI r3] M4 0 0
    refine mx_aload_n (j := 0) hC dX3_meets_17 rfl rfl ?_
    obtain ⟨ht5, h⟩ := h
    refine mx_callV (inj := mj_jI) (As := []) (st := [vI r3]) hC (ct_X3_until l0 M4 _ h) ty_X3_until tw417 ht5 rfl (Nat.le_of_ble_eq_true rfl) ⟨rfl, rfl, ⟨by decide, by decide⟩, by decide, by decide⟩ dX3_meets_18 (fun r6 M7 h => ?_)
    show mj_X g 21 [(0, vR l0), (1, vI l1), (2, vI l2), (3, vI l3)] [vI r6, vI r3] M7 0 0
    refine mx_iload_n (j := 3) hC dX3_meets_21 rfl rfl ?_
    refine mx_callS (inj := mj_jI) (As := [vI r6, vI l3]) (st := [vI r3]) hC (ct_J9_min_7cf53 r6 l3 M7 _ h) ty_J9_min_7cf53 tw432 rfl (Nat.le_of_ble_eq_true rfl) ⟨rfl, rfl, ⟨by decide, by decide⟩, by decide, by decide⟩ dX3_meets_22 (fun r8 M9 h => ?_)
    show mj_X g 25 [(0, vR l0), (1, vI l1), (2, vI l2), (3, vI l3)] [vI r8, vI r3] M9 0 0
    refine mx_icmpge (tgt := 32) hC dX3_meets_25 (by decide) (fun hc10 => ?_) (fun hc10 => ?_)
    · replace h := mj_yy hc10 h
      refine mx_iconst (v := 0) hC dX3_meets_32 (by decide) ?_
      exact mx_zret (b := false) hC hE rfl dX3_meets_33 h
    · replace h := mj_nn hc10 h
      refine mx_iconst (v := 1) hC dX3_meets_28 (by decide) ?_
      refine mx_goto (tgt := 33) hC dX3_meets_29 (by decide) ?_
      exact mx_zret (b := true) hC hE rfl dX3_meets_33 h
theorem tw321 : (Jvm.Cond.fieldLink "LeaseLand$Holding" (15 : Nat) "LeaseLand$Holding" "out" "LLeaseLand$Holding;") ∈ mj_tbl := mj_w 374 (by decide +kernel) (by decide +kernel)
theorem tf_X3_15 : mj_F 3 2 (.object "LeaseLand$Holding") false "LeaseLand$Holding" 15 := ⟨_, tk3, by decide, rfl, rfl, rfl, tw321⟩
def rm_X3_depth : Room := { frames := 0, cells := 0, slots := 0, locals := 0 }
theorem dX3_depth_0 : decode cX3_depth 0 = .ok (.iconst 0, 1) := by decide +kernel
theorem dX3_depth_1 : decode cX3_depth 1 = .ok (.istore_n 1, 1) := by decide +kernel
theorem dX3_depth_2 : decode cX3_depth 2 = .ok (.aload_n 0, 1) := by decide +kernel
theorem dX3_depth_3 : decode cX3_depth 3 = .ok (.getfield 15, 3) := by decide +kernel
theorem dX3_depth_6 : decode cX3_depth 6 = .ok (.astore_n 2, 1) := by decide +kernel
theorem dX3_depth_7 : decode cX3_depth 7 = .ok (.aload_n 2, 1) := by decide +kernel
theorem dX3_depth_8 : decode cX3_depth 8 = .ok (.ifnull 14, 3) := by decide +kernel
theorem dX3_depth_11 : decode cX3_depth 11 = .ok (.iinc 1 1, 3) := by decide +kernel
theorem dX3_depth_14 : decode cX3_depth 14 = .ok (.aload_n 2, 1) := by decide +kernel
theorem dX3_depth_15 : decode cX3_depth 15 = .ok (.getfield 15, 3) := by decide +kernel
theorem dX3_depth_18 : decode cX3_depth 18 = .ok (.astore_n 2, 1) := by decide +kernel
theorem dX3_depth_19 : decode cX3_depth 19 = .ok (.goto (-12), 3) := by decide +kernel
theorem dX3_depth_22 : decode cX3_depth 22 = .ok (.iload_n 1, 1) := by decide +kernel
theorem dX3_depth_23 : decode cX3_depth 23 = .ok (.ireturn, 1) := by decide +kernel
def vb_X3_depth_7 (post : Int32 → mj_M → Prop) : Nat → Int32 → Nat → mj_M → Prop
  | 0 => fun _ _ _ => False
  | f + 1 => fun l1 l2 M => if l2 = 0 then (post l1 M) else (mj_tag M l2 = 4 ∧ vb_X3_depth_7 post f (l1 + 1) (mj_r M l2 2) M)
def vc_X3_depth (l0 : Nat) (M : mj_M) (post : Int32 → mj_M → Prop) : Prop := mj_tag M l0 = 4 ∧ ∃ f, vb_X3_depth_7 post f 0 (mj_r M l0 2) M
set_option maxHeartbeats 4000000 in
set_option maxRecDepth 100000 in
theorem xb_X3_depth_7 {g : mj_G} {post : Int32 → mj_M → Prop} (hC : mj_C g yX3_depth cX3_depth 3 (some .int) rm_X3_depth) (hE : mj_E g mj_jI post 0 0) : ∀ (f : Nat) (l1 : Int32) (l2 : Nat) (M : mj_M), vb_X3_depth_7 post f l1 l2 M → mj_X g 7 [(1, vI l1), (2, vR l2)] [] M 0 0 := by
  intro f
  induction f with
  | zero => exact fun _ _ _ h => absurd h (fun z => z)
  | succ f ih =>
    intro l1 l2 M h
    simp only [vb_X3_depth_7] at h
    refine mx_aload_n (j := 1) hC dX3_depth_7 rfl rfl ?_
    refine mx_ifnull (tgt := 22) hC dX3_depth_8 (by decide) (fun hc1 => ?_) (fun hc1 => ?_)
    · replace h := mj_yy hc1 h
      refine mx_iload_n (j := 0) hC dX3_depth_22 rfl rfl ?_
      exact mx_iret hC hE rfl dX3_depth_23 h
    · replace h := mj_nn hc1 h
      refine mx_iinc (j := 0) (v := l1 + 1) (L' := [(1, vI (l1 + 1)), (2, vR l2)]) hC dX3_depth_11 rfl rfl (by decide) rfl ?_
      refine mx_aload_n (j := 1) hC dX3_depth_14 rfl rfl ?_
      obtain ⟨ht2, h⟩ := h
      refine mx_get (v := vR (mj_r M l2 2)) hC tf_X3_15 ht2 rfl dX3_depth_15 ?_
      refine mx_astore_n (L' := [(2, vR (mj_r M l2 2)), (1, vI (l1 + 1))]) hC dX3_depth_18 rfl (by decide) rfl ?_
      refine mx_goto (tgt := 7) hC dX3_depth_19 (by decide) ?_
      refine mx_sub (L' := [(1, vI (l1 + 1)), (2, vR (mj_r M l2 2))]) [1, 0] rfl ?_
      exact show mj_X g 7 [(1, vI (l1 + 1)), (2, vR (mj_r M l2 2))] [] M 0 0 from (ih (l1 + 1) (mj_r M l2 2) M h)
set_option maxHeartbeats 4000000 in
set_option maxRecDepth 100000 in
theorem ct_X3_depth {l : Launch} {base : Nat} {D : va_G} {A : ClassId × ClassId × ClassId} (l0 : Nat) (M : mj_M) (post : Int32 → mj_M → Prop) (h : vc_X3_depth l0 M post) : mj_Met l base D A mj_jI yX3_depth cX3_depth 3 (some .int) rm_X3_depth 0 0 [vR l0] M post := by
  refine mj_entry (by decide +kernel) (Nat.le_of_ble_eq_true rfl) (fun g hC hE h1 h2 h3 h4 => ?_)
  show mj_X g 0 [(0, vR l0)] [] M 0 0
  simp only [vc_X3_depth] at h
  refine mx_iconst (v := 0) hC dX3_depth_0 (by decide) ?_
  refine mx_istore_n (L' := [(1, vI 0), (0, vR l0)]) hC dX3_depth_1 rfl (by decide) rfl ?_
  refine mx_aload_n (j := 1) hC dX3_depth_2 rfl rfl ?_
  obtain ⟨ht3, h⟩ := h
  refine mx_get (v := vR (mj_r M l0 2)) hC tf_X3_15 ht3 rfl dX3_depth_3 ?_
  refine mx_astore_n (L' := [(2, vR (mj_r M l0 2)), (1, vI 0), (0, vR l0)]) hC dX3_depth_6 rfl (by decide) rfl ?_
  refine mx_sub (L' := [(1, vI 0), (2, vR (mj_r M l0 2))]) [1, 0] rfl ?_
  obtain ⟨f, h⟩ := h
  exact show mj_X g 7 [(1, vI 0), (2, vR (mj_r M l0 2))] [] M 0 0 from (xb_X3_depth_7 hC hE f 0 (mj_r M l0 2) M h)
theorem tw44 : (Jvm.Cond.fieldLink "LeaseLand$Land" (24 : Nat) "LeaseLand$Land" "count" "I") ∈ mj_tbl := mj_w 97 (by decide +kernel) (by decide +kernel)
theorem tk4 : mj_KC 4 (RX4, TX4, 6, tyX4) := ⟨rfl, fun w hw => List.mem_filter.mpr ⟨(goodIn_r (big := lw_tbl) (u_ws RX4 TX4 6) [103, 105, 107, 109, 111, 113] (by decide +kernel) (by decide +kernel) w hw).1, List.all_eq_true.mp (show (u_ws RX4 TX4 6).all goodWord = true by decide +kernel) w hw⟩, tyX4_ok, nmX4, by decide⟩
theorem tf_X4_24 : mj_F 4 3 .int false "LeaseLand$Land" 24 := ⟨_, tk4, by decide, rfl, rfl, rfl, tw44⟩
def rm_X4_isFull : Room := { frames := 0, cells := 0, slots := 0, locals := 0 }
theorem dX4_isFull_0 : decode cX4_isFull 0 = .ok (.aload_n 0, 1) := by decide +kernel
theorem dX4_isFull_1 : decode cX4_isFull 1 = .ok (.getfield 24, 3) := by decide +kernel
theorem dX4_isFull_4 : decode cX4_isFull 4 = .ok (.bipush 40, 2) := by decide +kernel
theorem dX4_isFull_6 : decode cX4_isFull 6 = .ok (.if_icmp .ne 7, 3) := by decide +kernel
theorem dX4_isFull_9 : decode cX4_isFull 9 = .ok (.iconst 1, 1) := by decide +kernel
theorem dX4_isFull_10 : decode cX4_isFull 10 = .ok (.goto 4, 3) := by decide +kernel
theorem dX4_isFull_13 : decode cX4_isFull 13 = .ok (.iconst 0, 1) := by decide +kernel
theorem dX4_isFull_14 : decode cX4_isFull 14 = .ok (.ireturn, 1) := by decide +kernel
def vc_X4_isFull (l0 : Nat) (M : mj_M) (post : Bool → mj_M → Prop) : Prop := mj_tag M l0 = 5 ∧ if (mj_i M l0 3) = 40 then (post true M) else (post false M)
set_option maxHeartbeats 4000000 in
set_option maxRecDepth 100000 in
theorem ct_X4_isFull {l : Launch} {base : Nat} {D : va_G} {A : ClassId × ClassId × ClassId} (l0 : Nat) (M : mj_M) (post : Bool → mj_M → Prop) (h : vc_X4_isFull l0 M post) : mj_Met l base D A mj_jB yX4_isFull cX4_isFull 1 (some .boolean) rm_X4_isFull 0 0 [vR l0] M post := by
  refine mj_entry (by decide +kernel) (Nat.le_of_ble_eq_true rfl) (fun g hC hE h1 h2 h3 h4 => ?_)
  show mj_X g 0 [(0, vR l0)] [] M 0 0
  simp only [vc_X4_isFull] at h
  refine mx_aload_n (j := 0) hC dX4_isFull_0 rfl rfl ?_
  obtain ⟨ht1, h⟩ := h
  refine mx_get (v := vI (mj_i M l0 3)) hC tf_X4_24 ht1 rfl dX4_isFull_1 ?_
  refine mx_bipush (v := 40) hC dX4_isFull_4 (by decide) ?_
  refine mx_icmpne (tgt := 13) hC dX4_isFull_6 (by decide) (fun hc2 => ?_) (fun hc2 => ?_)
  · replace h := mj_nn hc2 h
    refine mx_iconst (v := 0) hC dX4_isFull_13 (by decide) ?_
    exact mx_zret (b := false) hC hE rfl dX4_isFull_14 h
  · replace h := mj_yy hc2 h
    refine mx_iconst (v := 1) hC dX4_isFull_9 (by decide) ?_
    refine mx_goto (tgt := 14) hC dX4_isFull_10 (by decide) ?_
    exact mx_zret (b := true) hC hE rfl dX4_isFull_14 h
theorem tw41 : (Jvm.Cond.fieldLink "LeaseLand$Land" (28 : Nat) "LeaseLand$Land" "today" "I") ∈ mj_tbl := mj_w 94 (by decide +kernel) (by decide +kernel)
theorem tf_X4_28 : mj_F 4 0 .int false "LeaseLand$Land" 28 := ⟨_, tk4, by decide, rfl, rfl, rfl, tw41⟩
theorem tw462 : (Jvm.Cond.methodLink "LeaseLand$Land" (31 : Nat) ({ cls := "LeaseLand$Holding", name := "isInForce", desc := "(I)Z" } : Jvm.MethodName)) ∈ mj_tbl := mj_w 515 (by decide +kernel) (by decide +kernel)
theorem tw465 : (Jvm.Cond.code ({ cls := "LeaseLand$Holding", name := "isInForce", desc := "(I)Z" } : Jvm.MethodName) prog_5_method_3_code (2 : Nat) (Option.some Jvm.ClassFile.FieldType.boolean)) ∈ mj_tbl := mj_w 518 (by decide +kernel) (by decide +kernel)
theorem tw463 : (Jvm.Cond.instanceMethod ({ cls := "LeaseLand$Holding", name := "isInForce", desc := "(I)Z" } : Jvm.MethodName)) ∈ mj_tbl := mj_w 516 (by decide +kernel) (by decide +kernel)
theorem tw464 : (Jvm.Cond.selects "LeaseLand$Holding" ({ cls := "LeaseLand$Holding", name := "isInForce", desc := "(I)Z" } : Jvm.MethodName) ({ cls := "LeaseLand$Holding", name := "isInForce", desc := "(I)Z" } : Jvm.MethodName)) ∈ mj_tbl := mj_w 517 (by decide +kernel) (by decide +kernel)
theorem ty_X3_isInForce : mj_YV 3 yX3_isInForce cX3_isInForce 2 (some .boolean) 1 := ⟨⟨tw465, tw12, by decide +kernel, by decide +kernel, by decide +kernel⟩, tw463, tw464, _, rfl, rfl⟩
def rm_X4_isInForce : Room := { frames := 2, cells := 0, slots := 0, locals := 41 }
theorem dX4_isInForce_0 : decode cX4_isInForce 0 = .ok (.aload_n 1, 1) := by decide +kernel
theorem dX4_isInForce_1 : decode cX4_isInForce 1 = .ok (.aload_n 0, 1) := by decide +kernel
theorem dX4_isInForce_2 : decode cX4_isInForce 2 = .ok (.getfield 28, 3) := by decide +kernel
theorem dX4_isInForce_5 : decode cX4_isInForce 5 = .ok (.invokevirtual 31, 3) := by decide +kernel
theorem dX4_isInForce_8 : decode cX4_isInForce 8 = .ok (.ireturn, 1) := by decide +kernel
def vc_X4_isInForce (l0 : Nat) (l1 : Nat) (M : mj_M) (post : Bool → mj_M → Prop) : Prop := mj_tag M l0 = 5 ∧ mj_tag M l1 = 4 ∧ vc_X3_isInForce l1 (mj_i M l0 0) M (fun r3 M4 => post r3 M4)
set_option maxHeartbeats 4000000 in
set_option maxRecDepth 100000 in
theorem ct_X4_isInForce {l : Launch} {base : Nat} {D : va_G} {A : ClassId × ClassId × ClassId} (l0 : Nat) (l1 : Nat) (M : mj_M) (post : Bool → mj_M → Prop) (h : vc_X4_isInForce l0 l1 M post) : mj_Met l base D A mj_jB yX4_isInForce cX4_isInForce 2 (some .boolean) rm_X4_isInForce 0 0 [vR l0, vR l1] M post := by
  refine mj_entry (by decide +kernel) (Nat.le_of_ble_eq_true rfl) (fun g hC hE h1 h2 h3 h4 => ?_)
  show mj_X g 0 [(0, vR l0), (1, vR l1)] [] M 0 0
  simp only [vc_X4_isInForce] at h
  refine mx_aload_n (j := 1) hC dX4_isInForce_0 rfl rfl ?_
  refine mx_aload_n (j := 0) hC dX4_isInForce_1 rfl rfl ?_
  obtain ⟨ht1, h⟩ := h
  refine mx_get (v := vI (mj_i M l0 0)) hC tf_X4_28 ht1 rfl dX4_isInForce_2 ?_
  obtain ⟨ht2, h⟩ := h
  refine mx_callV (inj := mj_jB) (As := [vI (mj_i M l0 0)]) (st := []) hC (ct_X3_isInForce l1 (mj_i M l0 0) M _ h) ty_X3_isInForce tw462 ht2 rfl (Nat.le_of_ble_eq_true rfl) ⟨rfl, rfl, ⟨by decide, by decide⟩, by decide, by decide⟩ dX4_isInForce_5 (fun r3 M4 h => ?_)
  show mj_X g 8 [(0, vR l0), (1, vR l1)] [vI (mj_b r3)] M4 0 0
  exact mx_zret (b := r3) hC hE rfl dX4_isInForce_8 h
theorem tw42 : (Jvm.Cond.fieldLink "LeaseLand$Land" (37 : Nat) "LeaseLand$Land" "first" "LLeaseLand$Holding;") ∈ mj_tbl := mj_w 95 (by decide +kernel) (by decide +kernel)
theorem tf_X4_37 : mj_F 4 1 (.object "LeaseLand$Holding") false "LeaseLand$Land" 37 := ⟨_, tk4, by decide, rfl, rfl, rfl, tw42⟩
theorem tw318 : (Jvm.Cond.fieldLink "LeaseLand$Land" (41 : Nat) "LeaseLand$Holding" "number" "I") ∈ mj_tbl := mj_w 371 (by decide +kernel) (by decide +kernel)
theorem tf_X4_41 : mj_F 3 0 .int false "LeaseLand$Land" 41 := ⟨_, tk3, by decide, rfl, rfl, rfl, tw318⟩
theorem tw320 : (Jvm.Cond.fieldLink "LeaseLand$Land" (44 : Nat) "LeaseLand$Holding" "next" "LLeaseLand$Holding;") ∈ mj_tbl := mj_w 373 (by decide +kernel) (by decide +kernel)
theorem tf_X4_44 : mj_F 3 1 (.object "LeaseLand$Holding") false "LeaseLand$Land" 44 := ⟨_, tk3, by decide, rfl, rfl, rfl, tw320⟩
def rm_X4_find : Room := { frames := 0, cells := 0, slots := 0, locals := 0 }
theorem dX4_find_0 : decode cX4_find 0 = .ok (.aload_n 0, 1) := by decide +kernel
theorem dX4_find_1 : decode cX4_find 1 = .ok (.getfield 37, 3) := by decide +kernel
theorem dX4_find_4 : decode cX4_find 4 = .ok (.astore_n 2, 1) := by decide +kernel
theorem dX4_find_5 : decode cX4_find 5 = .ok (.aload_n 2, 1) := by decide +kernel
theorem dX4_find_6 : decode cX4_find 6 = .ok (.ifnull 21, 3) := by decide +kernel
theorem dX4_find_9 : decode cX4_find 9 = .ok (.aload_n 2, 1) := by decide +kernel
theorem dX4_find_10 : decode cX4_find 10 = .ok (.getfield 41, 3) := by decide +kernel
theorem dX4_find_13 : decode cX4_find 13 = .ok (.iload_n 1, 1) := by decide +kernel
theorem dX4_find_14 : decode cX4_find 14 = .ok (.if_icmp .ne 5, 3) := by decide +kernel
theorem dX4_find_17 : decode cX4_find 17 = .ok (.aload_n 2, 1) := by decide +kernel
theorem dX4_find_18 : decode cX4_find 18 = .ok (.areturn, 1) := by decide +kernel
theorem dX4_find_19 : decode cX4_find 19 = .ok (.aload_n 2, 1) := by decide +kernel
theorem dX4_find_20 : decode cX4_find 20 = .ok (.getfield 44, 3) := by decide +kernel
theorem dX4_find_23 : decode cX4_find 23 = .ok (.astore_n 2, 1) := by decide +kernel
theorem dX4_find_24 : decode cX4_find 24 = .ok (.goto (-19), 3) := by decide +kernel
theorem dX4_find_27 : decode cX4_find 27 = .ok (.aconst_null, 1) := by decide +kernel
theorem dX4_find_28 : decode cX4_find 28 = .ok (.areturn, 1) := by decide +kernel
def vb_X4_find_5 (post : Nat → mj_M → Prop) : Nat → Int32 → Nat → mj_M → Prop
  | 0 => fun _ _ _ => False
  | f + 1 => fun l1 l2 M => if l2 = 0 then (post 0 M) else (mj_tag M l2 = 4 ∧ if (mj_i M l2 0) = l1 then (post l2 M) else (vb_X4_find_5 post f l1 (mj_r M l2 1) M))
def vc_X4_find (l0 : Nat) (l1 : Int32) (M : mj_M) (post : Nat → mj_M → Prop) : Prop := mj_tag M l0 = 5 ∧ ∃ f, vb_X4_find_5 post f l1 (mj_r M l0 1) M
set_option maxHeartbeats 4000000 in
set_option maxRecDepth 100000 in
theorem xb_X4_find_5 {g : mj_G} {post : Nat → mj_M → Prop} (hC : mj_C g yX4_find cX4_find 3 (some (.object "LeaseLand$Holding")) rm_X4_find) (hE : mj_E g mj_jR post 0 0) : ∀ (f : Nat) (l1 : Int32) (l2 : Nat) (M : mj_M), vb_X4_find_5 post f l1 l2 M → mj_X g 5 [(1, vI l1), (2, vR l2)] [] M 0 0 := by
  intro f
  induction f with
  | zero => exact fun _ _ _ h => absurd h (fun z => z)
  | succ f ih =>
    intro l1 l2 M h
    simp only [vb_X4_find_5] at h
    refine mx_aload_n (j := 1) hC dX4_find_5 rfl rfl ?_
    refine mx_ifnull (tgt := 27) hC dX4_find_6 (by decide) (fun hc1 => ?_) (fun hc1 => ?_)
    · replace h := mj_yy hc1 h
      refine mx_null hC dX4_find_27 ?_
      exact mx_aret hC hE rfl (Or.inl ⟨_, rfl⟩) dX4_find_28 h
    · replace h := mj_nn hc1 h
      refine mx_aload_n (j := 1) hC dX4_find_9 rfl rfl ?_
      obtain ⟨ht2, h⟩ := h
      refine mx_get (v := vI (mj_i M l2 0)) hC tf_X4_41 ht2 rfl dX4_find_10 ?_
      refine mx_iload_n (j := 0) hC dX4_find_13 rfl rfl ?_
      refine mx_icmpne (tgt := 19) hC dX4_find_14 (by decide) (fun hc3 => ?_) (fun hc3 => ?_)
      · replace h := mj_nn hc3 h
        refine mx_aload_n (j := 1) hC dX4_find_19 rfl rfl ?_
        refine mx_get (v := vR (mj_r M l2 1)) hC tf_X4_44 ht2 rfl dX4_find_20 ?_
        refine mx_astore_n (L' := [(2, vR (mj_r M l2 1)), (1, vI l1)]) hC dX4_find_23 rfl (by decide) rfl ?_
        refine mx_goto (tgt := 5) hC dX4_find_24 (by decide) ?_
        refine mx_sub (L' := [(1, vI l1), (2, vR (mj_r M l2 1))]) [1, 0] rfl ?_
        exact show mj_X g 5 [(1, vI l1), (2, vR (mj_r M l2 1))] [] M 0 0 from (ih l1 (mj_r M l2 1) M h)
      · replace h := mj_yy hc3 h
        refine mx_aload_n (j := 1) hC dX4_find_17 rfl rfl ?_
        exact mx_aret hC hE rfl (Or.inl ⟨_, rfl⟩) dX4_find_18 h
set_option maxHeartbeats 4000000 in
set_option maxRecDepth 100000 in
theorem ct_X4_find {l : Launch} {base : Nat} {D : va_G} {A : ClassId × ClassId × ClassId} (l0 : Nat) (l1 : Int32) (M : mj_M) (post : Nat → mj_M → Prop) (h : vc_X4_find l0 l1 M post) : mj_Met l base D A mj_jR yX4_find cX4_find 3 (some (.object "LeaseLand$Holding")) rm_X4_find 0 0 [vR l0, vI l1] M post := by
  refine mj_entry (by decide +kernel) (Nat.le_of_ble_eq_true rfl) (fun g hC hE h1 h2 h3 h4 => ?_)
  show mj_X g 0 [(0, vR l0), (1, vI l1)] [] M 0 0
  simp only [vc_X4_find] at h
  refine mx_aload_n (j := 0) hC dX4_find_0 rfl rfl ?_
  obtain ⟨ht4, h⟩ := h
  refine mx_get (v := vR (mj_r M l0 1)) hC tf_X4_37 ht4 rfl dX4_find_1 ?_
  refine mx_astore_n (L' := [(2, vR (mj_r M l0 1)), (0, vR l0), (1, vI l1)]) hC dX4_find_4 rfl (by decide) rfl ?_
  refine mx_sub (L' := [(1, vI l1), (2, vR (mj_r M l0 1))]) [2, 0] rfl ?_
  obtain ⟨f, h⟩ := h
  exact show mj_X g 5 [(1, vI l1), (2, vR (mj_r M l0 1))] [] M 0 0 from (xb_X4_find_5 hC hE f l1 (mj_r M l0 1) M h)

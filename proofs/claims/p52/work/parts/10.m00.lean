/-! methods 0. By program (wip/gen) out of the bytecode: vc_KEY: what must hold of a call; ct_KEY: then the machine does it. -/
theorem tw71 : (Jvm.Cond.methodLink "LeaseLand$Grammar" (1 : Nat) ({ cls := "java/lang/Object", name := "<init>", desc := "()V" } : Jvm.MethodName)) ∈ mj_tbl := mj_w 77 (by decide +kernel) (by decide +kernel)
def rm_X2_init : Room := { frames := 1, cells := 0, slots := 0, locals := 20 }
theorem dX2_init_0 : decode cX2_init 0 = .ok (.aload_n 0, 1) := by decide +kernel
theorem dX2_init_1 : decode cX2_init 1 = .ok (.invokespecial 1, 3) := by decide +kernel
theorem dX2_init_4 : decode cX2_init 4 = .ok (.return_, 1) := by decide +kernel
def vc_X2_init (l0 : Nat) (M : mj_M) (post : Unit → mj_M → Prop) : Prop := (¬ l0 = 0) ∧ post () M
set_option maxHeartbeats 4000000 in
set_option maxRecDepth 100000 in
theorem ct_X2_init {l : Launch} {base : Nat} {D : va_G} {A : mj_AT} (l0 : Nat) (M : mj_M) (post : Unit → mj_M → Prop) (h : vc_X2_init l0 M post) : mj_Met l base D A mj_jV yX2_init cX2_init 1 (none) rm_X2_init 0 0 [vR l0] M post := by
  refine mj_entry (by decide +kernel) (Nat.le_of_ble_eq_true rfl) (fun g hC hE h1 h2 h3 h4 => ?_)
  show mj_X g 0 [(0, vR l0)] [] M 0 0
  simp only [vc_X2_init] at h
  refine mx_aload_n (j := 0) hC dX2_init_0 rfl rfl ?_
  obtain ⟨hn1, h⟩ := h
  refine mx_oinit hC tw71 tw_oi tw_oc hn1 (Nat.le_of_ble_eq_true rfl) ⟨by decide, by decide⟩ dX2_init_1 ?_
  exact mx_vret hC hE rfl dX2_init_4 h
theorem tw73 : (Jvm.Cond.fieldLink "LeaseLand$Grammar" (13 : Nat) "LeaseLand$Grammar" "open" "I") ∈ mj_tbl := mj_w 79 (by decide +kernel) (by decide +kernel)
theorem tk2 : mj_KC 2 (RX2, TX2, 3, tyX2) := ⟨rfl, fun w hw => List.mem_filter.mpr ⟨(goodIn_r (big := lw_tbl) (u_ws RX2 TX2 3) [81, 83, 85] (by decide +kernel) (by decide +kernel) w hw).1, List.all_eq_true.mp (show (u_ws RX2 TX2 3).all goodWord = true by decide +kernel) w hw⟩, tyX2_ok, nmX2, by decide⟩
theorem tf_X2_13 : mj_F 2 1 .int false "LeaseLand$Grammar" 13 := ⟨_, tk2, by decide, rfl, rfl, rfl, tw73⟩
theorem tw74 : (Jvm.Cond.fieldLink "LeaseLand$Grammar" (16 : Nat) "LeaseLand$Grammar" "digits" "I") ∈ mj_tbl := mj_w 80 (by decide +kernel) (by decide +kernel)
theorem tf_X2_16 : mj_F 2 2 .int false "LeaseLand$Grammar" 16 := ⟨_, tk2, by decide, rfl, rfl, rfl, tw74⟩
theorem tw72 : (Jvm.Cond.fieldLink "LeaseLand$Grammar" (9 : Nat) "LeaseLand$Grammar" "place" "I") ∈ mj_tbl := mj_w 78 (by decide +kernel) (by decide +kernel)
theorem tf_X2_9 : mj_F 2 0 .int false "LeaseLand$Grammar" 9 := ⟨_, tk2, by decide, rfl, rfl, rfl, tw72⟩
def rm_X2_restart : Room := { frames := 0, cells := 0, slots := 0, locals := 0 }
theorem dX2_restart_0 : decode cX2_restart 0 = .ok (.aload_n 0, 1) := by decide +kernel
theorem dX2_restart_1 : decode cX2_restart 1 = .ok (.iconst 0, 1) := by decide +kernel
theorem dX2_restart_2 : decode cX2_restart 2 = .ok (.putfield 9, 3) := by decide +kernel
theorem dX2_restart_5 : decode cX2_restart 5 = .ok (.aload_n 0, 1) := by decide +kernel
theorem dX2_restart_6 : decode cX2_restart 6 = .ok (.iconst 0, 1) := by decide +kernel
theorem dX2_restart_7 : decode cX2_restart 7 = .ok (.putfield 13, 3) := by decide +kernel
theorem dX2_restart_10 : decode cX2_restart 10 = .ok (.aload_n 0, 1) := by decide +kernel
theorem dX2_restart_11 : decode cX2_restart 11 = .ok (.iconst 0, 1) := by decide +kernel
theorem dX2_restart_12 : decode cX2_restart 12 = .ok (.putfield 16, 3) := by decide +kernel
theorem dX2_restart_15 : decode cX2_restart 15 = .ok (.return_, 1) := by decide +kernel
def vc_X2_restart (l0 : Nat) (M : mj_M) (post : Unit → mj_M → Prop) : Prop := mj_tag M l0 = 3 ∧ post () (mj_wi (mj_wi (mj_wi M l0 0 0) l0 1 0) l0 2 0)
set_option maxHeartbeats 4000000 in
set_option maxRecDepth 100000 in
theorem ct_X2_restart {l : Launch} {base : Nat} {D : va_G} {A : mj_AT} (l0 : Nat) (M : mj_M) (post : Unit → mj_M → Prop) (h : vc_X2_restart l0 M post) : mj_Met l base D A mj_jV yX2_restart cX2_restart 1 (none) rm_X2_restart 0 0 [vR l0] M post := by
  refine mj_entry (by decide +kernel) (Nat.le_of_ble_eq_true rfl) (fun g hC hE h1 h2 h3 h4 => ?_)
  show mj_X g 0 [(0, vR l0)] [] M 0 0
  simp only [vc_X2_restart] at h
  refine mx_aload_n (j := 0) hC dX2_restart_0 rfl rfl ?_
  refine mx_iconst (v := 0) hC dX2_restart_1 (by decide) ?_
  obtain ⟨ht1, h⟩ := h
  refine mx_put (v := vI 0) (M1 := mj_wi M l0 0 0) hC tf_X2_9 ht1 (Or.inl rfl) ⟨rfl, rfl⟩ (mj_off_wi _ _ _ _) mj_put_wi dX2_restart_2 ?_
  refine mx_aload_n (j := 0) hC dX2_restart_5 rfl rfl ?_
  refine mx_iconst (v := 0) hC dX2_restart_6 (by decide) ?_
  refine mx_put (v := vI 0) (M1 := mj_wi (mj_wi M l0 0 0) l0 1 0) hC tf_X2_13 ht1 (Or.inl rfl) ⟨rfl, rfl⟩ (mj_off_wi _ _ _ _) mj_put_wi dX2_restart_7 ?_
  refine mx_aload_n (j := 0) hC dX2_restart_10 rfl rfl ?_
  refine mx_iconst (v := 0) hC dX2_restart_11 (by decide) ?_
  refine mx_put (v := vI 0) (M1 := mj_wi (mj_wi (mj_wi M l0 0 0) l0 1 0) l0 2 0) hC tf_X2_16 ht1 (Or.inl rfl) ⟨rfl, rfl⟩ (mj_off_wi _ _ _ _) mj_put_wi dX2_restart_12 ?_
  exact mx_vret hC hE rfl dX2_restart_15 h
theorem tn487 : (Jvm.Cond.methodLinkNest "LeaseLand$Grammar" (38 : Nat) ({ cls := "LeaseLand", name := "isFact", desc := "(I)Z" } : Jvm.MethodName) "LeaseLand") ∈ mj_nest := List.mem_filter.mpr ⟨List.mem_of_getElem? (i := 487) (by decide +kernel), rfl⟩
theorem tw489 : (Jvm.Cond.code ({ cls := "LeaseLand", name := "isFact", desc := "(I)Z" } : Jvm.MethodName) prog_1_method_69_code (1 : Nat) (Option.some Jvm.ClassFile.FieldType.boolean)) ∈ mj_tbl := mj_w 495 (by decide +kernel) (by decide +kernel)
theorem tw1 : (Jvm.Cond.initialized "LeaseLand") ∈ mj_tbl := mj_w 7 (by decide +kernel) (by decide +kernel)
theorem tw488 : (Jvm.Cond.static ({ cls := "LeaseLand", name := "isFact", desc := "(I)Z" } : Jvm.MethodName)) ∈ mj_tbl := mj_w 494 (by decide +kernel) (by decide +kernel)
theorem ty_X11_isFact : mj_YS yX11_isFact cX11_isFact 1 (some .boolean) 1 := ⟨⟨tw489, tw1, by decide +kernel, by decide +kernel, by decide +kernel⟩, tw488⟩
def rm_X2_takesFactor : Room := { frames := 9, cells := 0, slots := 0, locals := 270 }
theorem dX2_takesFactor_0 : decode cX2_takesFactor 0 = .ok (.iload_n 1, 1) := by decide +kernel
theorem dX2_takesFactor_1 : decode cX2_takesFactor 1 = .ok (.invokestatic 38, 3) := by decide +kernel
theorem dX2_takesFactor_4 : decode cX2_takesFactor 4 = .ok (.ifCond .eq 10, 3) := by decide +kernel
theorem dX2_takesFactor_7 : decode cX2_takesFactor 7 = .ok (.aload_n 0, 1) := by decide +kernel
theorem dX2_takesFactor_8 : decode cX2_takesFactor 8 = .ok (.iconst 1, 1) := by decide +kernel
theorem dX2_takesFactor_9 : decode cX2_takesFactor 9 = .ok (.putfield 9, 3) := by decide +kernel
theorem dX2_takesFactor_12 : decode cX2_takesFactor 12 = .ok (.iconst 1, 1) := by decide +kernel
theorem dX2_takesFactor_13 : decode cX2_takesFactor 13 = .ok (.ireturn, 1) := by decide +kernel
theorem dX2_takesFactor_14 : decode cX2_takesFactor 14 = .ok (.iload_n 1, 1) := by decide +kernel
theorem dX2_takesFactor_15 : decode cX2_takesFactor 15 = .ok (.bipush 40, 2) := by decide +kernel
theorem dX2_takesFactor_17 : decode cX2_takesFactor 17 = .ok (.if_icmp .ne 13, 3) := by decide +kernel
theorem dX2_takesFactor_20 : decode cX2_takesFactor 20 = .ok (.aload_n 0, 1) := by decide +kernel
theorem dX2_takesFactor_21 : decode cX2_takesFactor 21 = .ok (.dup, 1) := by decide +kernel
theorem dX2_takesFactor_22 : decode cX2_takesFactor 22 = .ok (.getfield 13, 3) := by decide +kernel
theorem dX2_takesFactor_25 : decode cX2_takesFactor 25 = .ok (.iconst 1, 1) := by decide +kernel
theorem dX2_takesFactor_26 : decode cX2_takesFactor 26 = .ok (.iadd, 1) := by decide +kernel
theorem dX2_takesFactor_27 : decode cX2_takesFactor 27 = .ok (.putfield 13, 3) := by decide +kernel
theorem dX2_takesFactor_30 : decode cX2_takesFactor 30 = .ok (.iload_n 1, 1) := by decide +kernel
theorem dX2_takesFactor_31 : decode cX2_takesFactor 31 = .ok (.bipush 40, 2) := by decide +kernel
theorem dX2_takesFactor_33 : decode cX2_takesFactor 33 = .ok (.if_icmp .eq 9, 3) := by decide +kernel
theorem dX2_takesFactor_36 : decode cX2_takesFactor 36 = .ok (.iload_n 1, 1) := by decide +kernel
theorem dX2_takesFactor_37 : decode cX2_takesFactor 37 = .ok (.bipush 33, 2) := by decide +kernel
theorem dX2_takesFactor_39 : decode cX2_takesFactor 39 = .ok (.if_icmp .ne 7, 3) := by decide +kernel
theorem dX2_takesFactor_42 : decode cX2_takesFactor 42 = .ok (.iconst 1, 1) := by decide +kernel
theorem dX2_takesFactor_43 : decode cX2_takesFactor 43 = .ok (.goto 4, 3) := by decide +kernel
theorem dX2_takesFactor_46 : decode cX2_takesFactor 46 = .ok (.iconst 0, 1) := by decide +kernel
theorem dX2_takesFactor_47 : decode cX2_takesFactor 47 = .ok (.ireturn, 1) := by decide +kernel
def vb_X2_takesFactor_30 (post : Bool → mj_M → Prop) (l1 : Int32) (M : mj_M) : Prop := if l1 = 40 then (post true M) else (if l1 = 33 then (post true M) else (post false M))
def vc_X2_takesFactor (l0 : Nat) (l1 : Int32) (M : mj_M) (post : Bool → mj_M → Prop) : Prop := vc_X11_isFact l1 M (fun r3 M4 => if r3 = true then (mj_tag M4 l0 = 3 ∧ post true (mj_wi M4 l0 0 1)) else (if l1 = 40 then (mj_tag M4 l0 = 3 ∧ vb_X2_takesFactor_30 post l1 (mj_wi M4 l0 1 ((mj_i M4 l0 1) + 1))) else (vb_X2_takesFactor_30 post l1 M4)))
set_option maxHeartbeats 4000000 in
set_option maxRecDepth 100000 in
theorem xb_X2_takesFactor_30 {g : mj_G} {post : Bool → mj_M → Prop} (hC : mj_C g yX2_takesFactor cX2_takesFactor 2 (some .boolean) rm_X2_takesFactor) (hE : mj_E g mj_jB post 0 0) (l1 : Int32) (M : mj_M) (h : vb_X2_takesFactor_30 post l1 M) : mj_X g 30 [(1, vI l1)] [] M 0 0 := by
  simp only [vb_X2_takesFactor_30] at h
  refine mx_iload_n (j := 0) hC dX2_takesFactor_30 rfl rfl ?_
  refine mx_bipush (v := 40) hC dX2_takesFactor_31 (by decide) ?_
  refine mx_icmpeq (tgt := 42) hC dX2_takesFactor_33 (by decide) (fun hc1 => ?_) (fun hc1 => ?_)
  · replace h := mj_yy hc1 h
    refine mx_iconst (v := 1) hC dX2_takesFactor_42 (by decide) ?_
    refine mx_goto (tgt := 47) hC dX2_takesFactor_43 (by decide) ?_
    exact mx_zret (b := true) hC hE rfl dX2_takesFactor_47 h
  · replace h := mj_nn hc1 h
    refine mx_iload_n (j := 0) hC dX2_takesFactor_36 rfl rfl ?_
    refine mx_bipush (v := 33) hC dX2_takesFactor_37 (by decide) ?_
    refine mx_icmpne (tgt := 46) hC dX2_takesFactor_39 (by decide) (fun hc2 => ?_) (fun hc2 => ?_)
    · replace h := mj_nn hc2 h
      refine mx_iconst (v := 0) hC dX2_takesFactor_46 (by decide) ?_
      exact mx_zret (b := false) hC hE rfl dX2_takesFactor_47 h
    · replace h := mj_yy hc2 h
      refine mx_iconst (v := 1) hC dX2_takesFactor_42 (by decide) ?_
      refine mx_goto (tgt := 47) hC dX2_takesFactor_43 (by decide) ?_
      exact mx_zret (b := true) hC hE rfl dX2_takesFactor_47 h
set_option maxHeartbeats 4000000 in
set_option maxRecDepth 100000 in
theorem ct_X2_takesFactor {l : Launch} {base : Nat} {D : va_G} {A : mj_AT} (l0 : Nat) (l1 : Int32) (M : mj_M) (post : Bool → mj_M → Prop) (h : vc_X2_takesFactor l0 l1 M post) : mj_Met l base D A mj_jB yX2_takesFactor cX2_takesFactor 2 (some .boolean) rm_X2_takesFactor 0 0 [vR l0, vI l1] M post := by
  refine mj_entry (by decide +kernel) (Nat.le_of_ble_eq_true rfl) (fun g hC hE h1 h2 h3 h4 => ?_)
  show mj_X g 0 [(0, vR l0), (1, vI l1)] [] M 0 0
  simp only [vc_X2_takesFactor] at h
  refine mx_iload_n (j := 1) hC dX2_takesFactor_0 rfl rfl ?_
  refine mx_callSN (inj := mj_jB) (As := [vI l1]) (st := []) hC (ct_X11_isFact l1 M _ h) ty_X11_isFact tn487 rfl (Nat.le_of_ble_eq_true rfl) ⟨rfl, rfl, ⟨by decide, by decide⟩, by decide, by decide⟩ dX2_takesFactor_1 (fun r3 M4 h => ?_)
  show mj_X g 4 [(0, vR l0), (1, vI l1)] [vI (mj_b r3)] M4 0 0
  refine mx_ifeqB (tgt := 14) hC dX2_takesFactor_4 (by decide) (fun hc5 => ?_) (fun hc5 => ?_)
  · replace h := mj_nn hc5 h
    refine mx_iload_n (j := 1) hC dX2_takesFactor_14 rfl rfl ?_
    refine mx_bipush (v := 40) hC dX2_takesFactor_15 (by decide) ?_
    refine mx_icmpne (tgt := 30) hC dX2_takesFactor_17 (by decide) (fun hc6 => ?_) (fun hc6 => ?_)
    · replace h := mj_nn hc6 h
      refine mx_sub (L' := [(1, vI l1)]) [1] rfl ?_
      exact show mj_X g 30 [(1, vI l1)] [] M4 0 0 from (xb_X2_takesFactor_30 hC hE l1 M4 h)
    · replace h := mj_yy hc6 h
      refine mx_aload_n (j := 0) hC dX2_takesFactor_20 rfl rfl ?_
      refine mx_dup hC dX2_takesFactor_21 rfl ?_
      obtain ⟨ht7, h⟩ := h
      refine mx_get (v := vI (mj_i M4 l0 1)) hC tf_X2_13 ht7 rfl dX2_takesFactor_22 ?_
      refine mx_iconst (v := 1) hC dX2_takesFactor_25 (by decide) ?_
      refine mx_iadd hC dX2_takesFactor_26 ?_
      refine mx_put (v := vI ((mj_i M4 l0 1) + 1)) (M1 := mj_wi M4 l0 1 ((mj_i M4 l0 1) + 1)) hC tf_X2_13 ht7 (Or.inl rfl) ⟨rfl, rfl⟩ (mj_off_wi _ _ _ _) mj_put_wi dX2_takesFactor_27 ?_
      refine mx_sub (L' := [(1, vI l1)]) [1] rfl ?_
      exact show mj_X g 30 [(1, vI l1)] [] (mj_wi M4 l0 1 ((mj_i M4 l0 1) + 1)) 0 0 from (xb_X2_takesFactor_30 hC hE l1 (mj_wi M4 l0 1 ((mj_i M4 l0 1) + 1)) h)
  · replace h := mj_yy hc5 h
    refine mx_aload_n (j := 0) hC dX2_takesFactor_7 rfl rfl ?_
    refine mx_iconst (v := 1) hC dX2_takesFactor_8 (by decide) ?_
    obtain ⟨ht8, h⟩ := h
    refine mx_put (v := vI 1) (M1 := mj_wi M4 l0 0 1) hC tf_X2_9 ht8 (Or.inl rfl) ⟨rfl, rfl⟩ (mj_off_wi _ _ _ _) mj_put_wi dX2_takesFactor_9 ?_
    refine mx_iconst (v := 1) hC dX2_takesFactor_12 (by decide) ?_
    exact mx_zret (b := true) hC hE rfl dX2_takesFactor_13 h
def rm_X11_isComparing : Room := { frames := 0, cells := 0, slots := 0, locals := 0 }
theorem dX11_isComparing_0 : decode cX11_isComparing 0 = .ok (.iload_n 0, 1) := by decide +kernel
theorem dX11_isComparing_1 : decode cX11_isComparing 1 = .ok (.bipush 60, 2) := by decide +kernel
theorem dX11_isComparing_3 : decode cX11_isComparing 3 = .ok (.if_icmp .eq 15, 3) := by decide +kernel
theorem dX11_isComparing_6 : decode cX11_isComparing 6 = .ok (.iload_n 0, 1) := by decide +kernel
theorem dX11_isComparing_7 : decode cX11_isComparing 7 = .ok (.bipush 62, 2) := by decide +kernel
theorem dX11_isComparing_9 : decode cX11_isComparing 9 = .ok (.if_icmp .eq 9, 3) := by decide +kernel
theorem dX11_isComparing_12 : decode cX11_isComparing 12 = .ok (.iload_n 0, 1) := by decide +kernel
theorem dX11_isComparing_13 : decode cX11_isComparing 13 = .ok (.bipush 61, 2) := by decide +kernel
theorem dX11_isComparing_15 : decode cX11_isComparing 15 = .ok (.if_icmp .ne 7, 3) := by decide +kernel
theorem dX11_isComparing_18 : decode cX11_isComparing 18 = .ok (.iconst 1, 1) := by decide +kernel
theorem dX11_isComparing_19 : decode cX11_isComparing 19 = .ok (.goto 4, 3) := by decide +kernel
theorem dX11_isComparing_22 : decode cX11_isComparing 22 = .ok (.iconst 0, 1) := by decide +kernel
theorem dX11_isComparing_23 : decode cX11_isComparing 23 = .ok (.ireturn, 1) := by decide +kernel
def vc_X11_isComparing (l0 : Int32) (M : mj_M) (post : Bool → mj_M → Prop) : Prop := if l0 = 60 then (post true M) else (if l0 = 62 then (post true M) else (if l0 = 61 then (post true M) else (post false M)))
set_option maxHeartbeats 4000000 in
set_option maxRecDepth 100000 in
theorem ct_X11_isComparing {l : Launch} {base : Nat} {D : va_G} {A : mj_AT} (l0 : Int32) (M : mj_M) (post : Bool → mj_M → Prop) (h : vc_X11_isComparing l0 M post) : mj_Met l base D A mj_jB yX11_isComparing cX11_isComparing 1 (some .boolean) rm_X11_isComparing 0 0 [vI l0] M post := by
  refine mj_entry (by decide +kernel) (Nat.le_of_ble_eq_true rfl) (fun g hC hE h1 h2 h3 h4 => ?_)
  show mj_X g 0 [(0, vI l0)] [] M 0 0
  simp only [vc_X11_isComparing] at h
  refine mx_iload_n (j := 0) hC dX11_isComparing_0 rfl rfl ?_
  refine mx_bipush (v := 60) hC dX11_isComparing_1 (by decide) ?_
  refine mx_icmpeq (tgt := 18) hC dX11_isComparing_3 (by decide) (fun hc1 => ?_) (fun hc1 => ?_)
  · replace h := mj_yy hc1 h
    refine mx_iconst (v := 1) hC dX11_isComparing_18 (by decide) ?_
    refine mx_goto (tgt := 23) hC dX11_isComparing_19 (by decide) ?_
    exact mx_zret (b := true) hC hE rfl dX11_isComparing_23 h
  · replace h := mj_nn hc1 h
    refine mx_iload_n (j := 0) hC dX11_isComparing_6 rfl rfl ?_
    refine mx_bipush (v := 62) hC dX11_isComparing_7 (by decide) ?_
    refine mx_icmpeq (tgt := 18) hC dX11_isComparing_9 (by decide) (fun hc2 => ?_) (fun hc2 => ?_)
    · replace h := mj_yy hc2 h
      refine mx_iconst (v := 1) hC dX11_isComparing_18 (by decide) ?_
      refine mx_goto (tgt := 23) hC dX11_isComparing_19 (by decide) ?_
      exact mx_zret (b := true) hC hE rfl dX11_isComparing_23 h
    · replace h := mj_nn hc2 h
      refine mx_iload_n (j := 0) hC dX11_isComparing_12 rfl rfl ?_
      refine mx_bipush (v := 61) hC dX11_isComparing_13 (by decide) ?_
      refine mx_icmpne (tgt := 22) hC dX11_isComparing_15 (by decide) (fun hc3 => ?_) (fun hc3 => ?_)
      · replace h := mj_nn hc3 h
        refine mx_iconst (v := 0) hC dX11_isComparing_22 (by decide) ?_
        exact mx_zret (b := false) hC hE rfl dX11_isComparing_23 h
      · replace h := mj_yy hc3 h
        refine mx_iconst (v := 1) hC dX11_isComparing_18 (by decide) ?_
        refine mx_goto (tgt := 23) hC dX11_isComparing_19 (by decide) ?_
        exact mx_zret (b := true) hC hE rfl dX11_isComparing_23 h
theorem tn577 : (Jvm.Cond.methodLinkNest "LeaseLand$Grammar" (41 : Nat) ({ cls := "LeaseLand", name := "isComparing", desc := "(I)Z" } : Jvm.MethodName) "LeaseLand") ∈ mj_nest := List.mem_filter.mpr ⟨List.mem_of_getElem? (i := 577) (by decide +kernel), rfl⟩
theorem tw579 : (Jvm.Cond.code ({ cls := "LeaseLand", name := "isComparing", desc := "(I)Z" } : Jvm.MethodName) prog_1_method_68_code (1 : Nat) (Option.some Jvm.ClassFile.FieldType.boolean)) ∈ mj_tbl := mj_w 585 (by decide +kernel) (by decide +kernel)
theorem tw578 : (Jvm.Cond.static ({ cls := "LeaseLand", name := "isComparing", desc := "(I)Z" } : Jvm.MethodName)) ∈ mj_tbl := mj_w 584 (by decide +kernel) (by decide +kernel)
theorem ty_X11_isComparing : mj_YS yX11_isComparing cX11_isComparing 1 (some .boolean) 1 := ⟨⟨tw579, tw1, by decide +kernel, by decide +kernel, by decide +kernel⟩, tw578⟩
def rm_X2_takesComparing : Room := { frames := 1, cells := 0, slots := 0, locals := 20 }
theorem dX2_takesComparing_0 : decode cX2_takesComparing 0 = .ok (.aload_n 0, 1) := by decide +kernel
theorem dX2_takesComparing_1 : decode cX2_takesComparing 1 = .ok (.iconst 2, 1) := by decide +kernel
theorem dX2_takesComparing_2 : decode cX2_takesComparing 2 = .ok (.putfield 9, 3) := by decide +kernel
theorem dX2_takesComparing_5 : decode cX2_takesComparing 5 = .ok (.aload_n 0, 1) := by decide +kernel
theorem dX2_takesComparing_6 : decode cX2_takesComparing 6 = .ok (.iconst 0, 1) := by decide +kernel
theorem dX2_takesComparing_7 : decode cX2_takesComparing 7 = .ok (.putfield 16, 3) := by decide +kernel
theorem dX2_takesComparing_10 : decode cX2_takesComparing 10 = .ok (.iload_n 1, 1) := by decide +kernel
theorem dX2_takesComparing_11 : decode cX2_takesComparing 11 = .ok (.invokestatic 41, 3) := by decide +kernel
theorem dX2_takesComparing_14 : decode cX2_takesComparing 14 = .ok (.ireturn, 1) := by decide +kernel
def vc_X2_takesComparing (l0 : Nat) (l1 : Int32) (M : mj_M) (post : Bool → mj_M → Prop) : Prop := mj_tag M l0 = 3 ∧ vc_X11_isComparing l1 (mj_wi (mj_wi M l0 0 2) l0 2 0) (fun r2 M3 => post r2 M3)
set_option maxHeartbeats 4000000 in
set_option maxRecDepth 100000 in
theorem ct_X2_takesComparing {l : Launch} {base : Nat} {D : va_G} {A : mj_AT} (l0 : Nat) (l1 : Int32) (M : mj_M) (post : Bool → mj_M → Prop) (h : vc_X2_takesComparing l0 l1 M post) : mj_Met l base D A mj_jB yX2_takesComparing cX2_takesComparing 2 (some .boolean) rm_X2_takesComparing 0 0 [vR l0, vI l1] M post := by
  refine mj_entry (by decide +kernel) (Nat.le_of_ble_eq_true rfl) (fun g hC hE h1 h2 h3 h4 => ?_)
  show mj_X g 0 [(0, vR l0), (1, vI l1)] [] M 0 0
  simp only [vc_X2_takesComparing] at h
  refine mx_aload_n (j := 0) hC dX2_takesComparing_0 rfl rfl ?_
  refine mx_iconst (v := 2) hC dX2_takesComparing_1 (by decide) ?_
  obtain ⟨ht1, h⟩ := h
  refine mx_put (v := vI 2) (M1 := mj_wi M l0 0 2) hC tf_X2_9 ht1 (Or.inl rfl) ⟨rfl, rfl⟩ (mj_off_wi _ _ _ _) mj_put_wi dX2_takesComparing_2 ?_
  refine mx_aload_n (j := 0) hC dX2_takesComparing_5 rfl rfl ?_
  refine mx_iconst (v := 0) hC dX2_takesComparing_6 (by decide) ?_
  refine mx_put (v := vI 0) (M1 := mj_wi (mj_wi M l0 0 2) l0 2 0) hC tf_X2_16 ht1 (Or.inl rfl) ⟨rfl, rfl⟩ (mj_off_wi _ _ _ _) mj_put_wi dX2_takesComparing_7 ?_
  refine mx_iload_n (j := 1) hC dX2_takesComparing_10 rfl rfl ?_
  refine mx_callSN (inj := mj_jB) (As := [vI l1]) (st := []) hC (ct_X11_isComparing l1 (mj_wi (mj_wi M l0 0 2) l0 2 0) _ h) ty_X11_isComparing tn577 rfl (Nat.le_of_ble_eq_true rfl) ⟨rfl, rfl, ⟨by decide, by decide⟩, by decide, by decide⟩ dX2_takesComparing_11 (fun r2 M3 h => ?_)
  show mj_X g 14 [(0, vR l0), (1, vI l1)] [vI (mj_b r2)] M3 0 0
  exact mx_zret (b := r2) hC hE rfl dX2_takesComparing_14 h
def rm_X11_isDigit : Room := { frames := 0, cells := 0, slots := 0, locals := 0 }
theorem dX11_isDigit_0 : decode cX11_isDigit 0 = .ok (.iload_n 0, 1) := by decide +kernel
theorem dX11_isDigit_1 : decode cX11_isDigit 1 = .ok (.bipush 48, 2) := by decide +kernel
theorem dX11_isDigit_3 : decode cX11_isDigit 3 = .ok (.if_icmp .lt 13, 3) := by decide +kernel
theorem dX11_isDigit_6 : decode cX11_isDigit 6 = .ok (.iload_n 0, 1) := by decide +kernel
theorem dX11_isDigit_7 : decode cX11_isDigit 7 = .ok (.bipush 57, 2) := by decide +kernel
theorem dX11_isDigit_9 : decode cX11_isDigit 9 = .ok (.if_icmp .gt 7, 3) := by decide +kernel
theorem dX11_isDigit_12 : decode cX11_isDigit 12 = .ok (.iconst 1, 1) := by decide +kernel
theorem dX11_isDigit_13 : decode cX11_isDigit 13 = .ok (.goto 4, 3) := by decide +kernel
theorem dX11_isDigit_16 : decode cX11_isDigit 16 = .ok (.iconst 0, 1) := by decide +kernel
theorem dX11_isDigit_17 : decode cX11_isDigit 17 = .ok (.ireturn, 1) := by decide +kernel
def vc_X11_isDigit (l0 : Int32) (M : mj_M) (post : Bool → mj_M → Prop) : Prop := if l0 < 48 then (post false M) else (if 57 < l0 then (post false M) else (post true M))
set_option maxHeartbeats 4000000 in
set_option maxRecDepth 100000 in
theorem ct_X11_isDigit {l : Launch} {base : Nat} {D : va_G} {A : mj_AT} (l0 : Int32) (M : mj_M) (post : Bool → mj_M → Prop) (h : vc_X11_isDigit l0 M post) : mj_Met l base D A mj_jB yX11_isDigit cX11_isDigit 1 (some .boolean) rm_X11_isDigit 0 0 [vI l0] M post := by
  refine mj_entry (by decide +kernel) (Nat.le_of_ble_eq_true rfl) (fun g hC hE h1 h2 h3 h4 => ?_)
  show mj_X g 0 [(0, vI l0)] [] M 0 0
  simp only [vc_X11_isDigit] at h
  refine mx_iload_n (j := 0) hC dX11_isDigit_0 rfl rfl ?_
  refine mx_bipush (v := 48) hC dX11_isDigit_1 (by decide) ?_
  refine mx_icmplt (tgt := 16) hC dX11_isDigit_3 (by decide) (fun hc1 => ?_) (fun hc1 => ?_)
  · replace h := mj_yy hc1 h
    refine mx_iconst (v := 0) hC dX11_isDigit_16 (by decide) ?_
    exact mx_zret (b := false) hC hE rfl dX11_isDigit_17 h
  · replace h := mj_nn hc1 h
    refine mx_iload_n (j := 0) hC dX11_isDigit_6 rfl rfl ?_
    refine mx_bipush (v := 57) hC dX11_isDigit_7 (by decide) ?_
    refine mx_icmpgt (tgt := 16) hC dX11_isDigit_9 (by decide) (fun hc2 => ?_) (fun hc2 => ?_)
    · replace h := mj_yy hc2 h
      refine mx_iconst (v := 0) hC dX11_isDigit_16 (by decide) ?_
      exact mx_zret (b := false) hC hE rfl dX11_isDigit_17 h
    · replace h := mj_nn hc2 h
      refine mx_iconst (v := 1) hC dX11_isDigit_12 (by decide) ?_
      refine mx_goto (tgt := 17) hC dX11_isDigit_13 (by decide) ?_
      exact mx_zret (b := true) hC hE rfl dX11_isDigit_17 h
def rm_X2_takesDigit : Room := { frames := 0, cells := 0, slots := 0, locals := 0 }
theorem dX2_takesDigit_0 : decode cX2_takesDigit 0 = .ok (.aload_n 0, 1) := by decide +kernel
theorem dX2_takesDigit_1 : decode cX2_takesDigit 1 = .ok (.dup, 1) := by decide +kernel
theorem dX2_takesDigit_2 : decode cX2_takesDigit 2 = .ok (.getfield 16, 3) := by decide +kernel
theorem dX2_takesDigit_5 : decode cX2_takesDigit 5 = .ok (.iconst 1, 1) := by decide +kernel
theorem dX2_takesDigit_6 : decode cX2_takesDigit 6 = .ok (.iadd, 1) := by decide +kernel
theorem dX2_takesDigit_7 : decode cX2_takesDigit 7 = .ok (.putfield 16, 3) := by decide +kernel
theorem dX2_takesDigit_10 : decode cX2_takesDigit 10 = .ok (.aload_n 0, 1) := by decide +kernel
theorem dX2_takesDigit_11 : decode cX2_takesDigit 11 = .ok (.getfield 9, 3) := by decide +kernel
theorem dX2_takesDigit_14 : decode cX2_takesDigit 14 = .ok (.iconst 2, 1) := by decide +kernel
theorem dX2_takesDigit_15 : decode cX2_takesDigit 15 = .ok (.if_icmp .ne 15, 3) := by decide +kernel
theorem dX2_takesDigit_18 : decode cX2_takesDigit 18 = .ok (.aload_n 0, 1) := by decide +kernel
theorem dX2_takesDigit_19 : decode cX2_takesDigit 19 = .ok (.getfield 16, 3) := by decide +kernel
theorem dX2_takesDigit_22 : decode cX2_takesDigit 22 = .ok (.iconst 5, 1) := by decide +kernel
theorem dX2_takesDigit_23 : decode cX2_takesDigit 23 = .ok (.if_icmp .gt 7, 3) := by decide +kernel
theorem dX2_takesDigit_26 : decode cX2_takesDigit 26 = .ok (.iconst 1, 1) := by decide +kernel
theorem dX2_takesDigit_27 : decode cX2_takesDigit 27 = .ok (.goto 4, 3) := by decide +kernel
theorem dX2_takesDigit_30 : decode cX2_takesDigit 30 = .ok (.iconst 0, 1) := by decide +kernel
theorem dX2_takesDigit_31 : decode cX2_takesDigit 31 = .ok (.ireturn, 1) := by decide +kernel
def vc_X2_takesDigit (l0 : Nat) (M : mj_M) (post : Bool → mj_M → Prop) : Prop := mj_tag M l0 = 3 ∧ if (mj_i (mj_wi M l0 2 ((mj_i M l0 2) + 1)) l0 0) = 2 then (if 5 < (mj_i (mj_wi M l0 2 ((mj_i M l0 2) + 1)) l0 2) then (post false (mj_wi M l0 2 ((mj_i M l0 2) + 1))) else (post true (mj_wi M l0 2 ((mj_i M l0 2) + 1)))) else (post false (mj_wi M l0 2 ((mj_i M l0 2) + 1)))
set_option maxHeartbeats 4000000 in
set_option maxRecDepth 100000 in
theorem ct_X2_takesDigit {l : Launch} {base : Nat} {D : va_G} {A : mj_AT} (l0 : Nat) (M : mj_M) (post : Bool → mj_M → Prop) (h : vc_X2_takesDigit l0 M post) : mj_Met l base D A mj_jB yX2_takesDigit cX2_takesDigit 1 (some .boolean) rm_X2_takesDigit 0 0 [vR l0] M post := by
  refine mj_entry (by decide +kernel) (Nat.le_of_ble_eq_true rfl) (fun g hC hE h1 h2 h3 h4 => ?_)
  show mj_X g 0 [(0, vR l0)] [] M 0 0
  simp only [vc_X2_takesDigit] at h
  refine mx_aload_n (j := 0) hC dX2_takesDigit_0 rfl rfl ?_
  refine mx_dup hC dX2_takesDigit_1 rfl ?_
  obtain ⟨ht1, h⟩ := h
  refine mx_get (v := vI (mj_i M l0 2)) hC tf_X2_16 ht1 rfl dX2_takesDigit_2 ?_
  refine mx_iconst (v := 1) hC dX2_takesDigit_5 (by decide) ?_
  refine mx_iadd hC dX2_takesDigit_6 ?_
  refine mx_put (v := vI ((mj_i M l0 2) + 1)) (M1 := mj_wi M l0 2 ((mj_i M l0 2) + 1)) hC tf_X2_16 ht1 (Or.inl rfl) ⟨rfl, rfl⟩ (mj_off_wi _ _ _ _) mj_put_wi dX2_takesDigit_7 ?_
  refine mx_aload_n (j := 0) hC dX2_takesDigit_10 rfl rfl ?_
  refine mx_get (v := vI (mj_i (mj_wi M l0 2 ((mj_i M l0 2) + 1)) l0 0)) hC tf_X2_9 ht1 rfl dX2_takesDigit_11 ?_
  refine mx_iconst (v := 2) hC dX2_takesDigit_14 (by decide) ?_
  refine mx_icmpne (tgt := 30) hC dX2_takesDigit_15 (by decide) (fun hc2 => ?_) (fun hc2 => ?_)
  · replace h := mj_nn hc2 h
    refine mx_iconst (v := 0) hC dX2_takesDigit_30 (by decide) ?_
    exact mx_zret (b := false) hC hE rfl dX2_takesDigit_31 h
  · replace h := mj_yy hc2 h
    refine mx_aload_n (j := 0) hC dX2_takesDigit_18 rfl rfl ?_
    refine mx_get (v := vI (mj_i (mj_wi M l0 2 ((mj_i M l0 2) + 1)) l0 2)) hC tf_X2_16 ht1 rfl dX2_takesDigit_19 ?_
    refine mx_iconst (v := 5) hC dX2_takesDigit_22 (by decide) ?_
    refine mx_icmpgt (tgt := 30) hC dX2_takesDigit_23 (by decide) (fun hc3 => ?_) (fun hc3 => ?_)
    · replace h := mj_yy hc3 h
      refine mx_iconst (v := 0) hC dX2_takesDigit_30 (by decide) ?_
      exact mx_zret (b := false) hC hE rfl dX2_takesDigit_31 h
    · replace h := mj_nn hc3 h
      refine mx_iconst (v := 1) hC dX2_takesDigit_26 (by decide) ?_
      refine mx_goto (tgt := 31) hC dX2_takesDigit_27 (by decide) ?_
      exact mx_zret (b := true) hC hE rfl dX2_takesDigit_31 h
def rm_X2_isBehindFactor : Room := { frames := 0, cells := 0, slots := 0, locals := 0 }
theorem dX2_isBehindFactor_0 : decode cX2_isBehindFactor 0 = .ok (.aload_n 0, 1) := by decide +kernel
theorem dX2_isBehindFactor_1 : decode cX2_isBehindFactor 1 = .ok (.getfield 9, 3) := by decide +kernel
theorem dX2_isBehindFactor_4 : decode cX2_isBehindFactor 4 = .ok (.iconst 3, 1) := by decide +kernel
theorem dX2_isBehindFactor_5 : decode cX2_isBehindFactor 5 = .ok (.if_icmp .eq 18, 3) := by decide +kernel
theorem dX2_isBehindFactor_8 : decode cX2_isBehindFactor 8 = .ok (.aload_n 0, 1) := by decide +kernel
theorem dX2_isBehindFactor_9 : decode cX2_isBehindFactor 9 = .ok (.getfield 9, 3) := by decide +kernel
theorem dX2_isBehindFactor_12 : decode cX2_isBehindFactor 12 = .ok (.iconst 2, 1) := by decide +kernel
theorem dX2_isBehindFactor_13 : decode cX2_isBehindFactor 13 = .ok (.if_icmp .ne 14, 3) := by decide +kernel
theorem dX2_isBehindFactor_16 : decode cX2_isBehindFactor 16 = .ok (.aload_n 0, 1) := by decide +kernel
theorem dX2_isBehindFactor_17 : decode cX2_isBehindFactor 17 = .ok (.getfield 16, 3) := by decide +kernel
theorem dX2_isBehindFactor_20 : decode cX2_isBehindFactor 20 = .ok (.ifCond .le 7, 3) := by decide +kernel
theorem dX2_isBehindFactor_23 : decode cX2_isBehindFactor 23 = .ok (.iconst 1, 1) := by decide +kernel
theorem dX2_isBehindFactor_24 : decode cX2_isBehindFactor 24 = .ok (.goto 4, 3) := by decide +kernel
theorem dX2_isBehindFactor_27 : decode cX2_isBehindFactor 27 = .ok (.iconst 0, 1) := by decide +kernel
theorem dX2_isBehindFactor_28 : decode cX2_isBehindFactor 28 = .ok (.ireturn, 1) := by decide +kernel
def vc_X2_isBehindFactor (l0 : Nat) (M : mj_M) (post : Bool → mj_M → Prop) : Prop := mj_tag M l0 = 3 ∧ if (mj_i M l0 0) = 3 then (post true M) else (if (mj_i M l0 0) = 2 then (if (mj_i M l0 2) ≤ 0 then (post false M) else (post true M)) else (post false M))
set_option maxHeartbeats 4000000 in
set_option maxRecDepth 100000 in
theorem ct_X2_isBehindFactor {l : Launch} {base : Nat} {D : va_G} {A : mj_AT} (l0 : Nat) (M : mj_M) (post : Bool → mj_M → Prop) (h : vc_X2_isBehindFactor l0 M post) : mj_Met l base D A mj_jB yX2_isBehindFactor cX2_isBehindFactor 1 (some .boolean) rm_X2_isBehindFactor 0 0 [vR l0] M post := by
  refine mj_entry (by decide +kernel) (Nat.le_of_ble_eq_true rfl) (fun g hC hE h1 h2 h3 h4 => ?_)
  show mj_X g 0 [(0, vR l0)] [] M 0 0
  simp only [vc_X2_isBehindFactor] at h
  refine mx_aload_n (j := 0) hC dX2_isBehindFactor_0 rfl rfl ?_
  obtain ⟨ht1, h⟩ := h
  refine mx_get (v := vI (mj_i M l0 0)) hC tf_X2_9 ht1 rfl dX2_isBehindFactor_1 ?_
  refine mx_iconst (v := 3) hC dX2_isBehindFactor_4 (by decide) ?_
  refine mx_icmpeq (tgt := 23) hC dX2_isBehindFactor_5 (by decide) (fun hc2 => ?_) (fun hc2 => ?_)
  · replace h := mj_yy hc2 h
    refine mx_iconst (v := 1) hC dX2_isBehindFactor_23 (by decide) ?_
    refine mx_goto (tgt := 28) hC dX2_isBehindFactor_24 (by decide) ?_
    exact mx_zret (b := true) hC hE rfl dX2_isBehindFactor_28 h
  · replace h := mj_nn hc2 h
    refine mx_aload_n (j := 0) hC dX2_isBehindFactor_8 rfl rfl ?_
    refine mx_get (v := vI (mj_i M l0 0)) hC tf_X2_9 ht1 rfl dX2_isBehindFactor_9 ?_
    refine mx_iconst (v := 2) hC dX2_isBehindFactor_12 (by decide) ?_
    refine mx_icmpne (tgt := 27) hC dX2_isBehindFactor_13 (by decide) (fun hc3 => ?_) (fun hc3 => ?_)
    · replace h := mj_nn hc3 h
      refine mx_iconst (v := 0) hC dX2_isBehindFactor_27 (by decide) ?_
      exact mx_zret (b := false) hC hE rfl dX2_isBehindFactor_28 h
    · replace h := mj_yy hc3 h
      refine mx_aload_n (j := 0) hC dX2_isBehindFactor_16 rfl rfl ?_
      refine mx_get (v := vI (mj_i M l0 2)) hC tf_X2_16 ht1 rfl dX2_isBehindFactor_17 ?_
      refine mx_ifle (tgt := 27) hC dX2_isBehindFactor_20 (by decide) (fun hc4 => ?_) (fun hc4 => ?_)
      · replace h := mj_yy hc4 h
        refine mx_iconst (v := 0) hC dX2_isBehindFactor_27 (by decide) ?_
        exact mx_zret (b := false) hC hE rfl dX2_isBehindFactor_28 h
      · replace h := mj_nn hc4 h
        refine mx_iconst (v := 1) hC dX2_isBehindFactor_23 (by decide) ?_
        refine mx_goto (tgt := 28) hC dX2_isBehindFactor_24 (by decide) ?_
        exact mx_zret (b := true) hC hE rfl dX2_isBehindFactor_28 h
theorem tw591 : (Jvm.Cond.methodLink "LeaseLand$Grammar" (44 : Nat) ({ cls := "LeaseLand$Grammar", name := "isBehindFactor", desc := "()Z" } : Jvm.MethodName)) ∈ mj_tbl := mj_w 597 (by decide +kernel) (by decide +kernel)
theorem tw594 : (Jvm.Cond.code ({ cls := "LeaseLand$Grammar", name := "isBehindFactor", desc := "()Z" } : Jvm.MethodName) prog_4_method_8_code (1 : Nat) (Option.some Jvm.ClassFile.FieldType.boolean)) ∈ mj_tbl := mj_w 600 (by decide +kernel) (by decide +kernel)
theorem tw5 : (Jvm.Cond.initialized "LeaseLand$Grammar") ∈ mj_tbl := mj_w 11 (by decide +kernel) (by decide +kernel)
theorem tw592 : (Jvm.Cond.instanceMethod ({ cls := "LeaseLand$Grammar", name := "isBehindFactor", desc := "()Z" } : Jvm.MethodName)) ∈ mj_tbl := mj_w 598 (by decide +kernel) (by decide +kernel)
theorem tw593 : (Jvm.Cond.selects "LeaseLand$Grammar" ({ cls := "LeaseLand$Grammar", name := "isBehindFactor", desc := "()Z" } : Jvm.MethodName) ({ cls := "LeaseLand$Grammar", name := "isBehindFactor", desc := "()Z" } : Jvm.MethodName)) ∈ mj_tbl := mj_w 599 (by decide +kernel) (by decide +kernel)
theorem ty_X2_isBehindFactor : mj_YV 2 yX2_isBehindFactor cX2_isBehindFactor 1 (some .boolean) 0 := ⟨⟨tw594, tw5, by decide +kernel, by decide +kernel, by decide +kernel⟩, tw592, tw593, _, rfl, rfl⟩
def rm_X2_takesLink : Room := { frames := 1, cells := 0, slots := 0, locals := 20 }
theorem dX2_takesLink_0 : decode cX2_takesLink 0 = .ok (.aload_n 0, 1) := by decide +kernel
theorem dX2_takesLink_1 : decode cX2_takesLink 1 = .ok (.invokevirtual 44, 3) := by decide +kernel
theorem dX2_takesLink_4 : decode cX2_takesLink 4 = .ok (.ifCond .ne 5, 3) := by decide +kernel
theorem dX2_takesLink_7 : decode cX2_takesLink 7 = .ok (.iconst 0, 1) := by decide +kernel
theorem dX2_takesLink_8 : decode cX2_takesLink 8 = .ok (.ireturn, 1) := by decide +kernel
theorem dX2_takesLink_9 : decode cX2_takesLink 9 = .ok (.iload_n 1, 1) := by decide +kernel
theorem dX2_takesLink_10 : decode cX2_takesLink 10 = .ok (.bipush 41, 2) := by decide +kernel
theorem dX2_takesLink_12 : decode cX2_takesLink 12 = .ok (.if_icmp .ne 31, 3) := by decide +kernel
theorem dX2_takesLink_15 : decode cX2_takesLink 15 = .ok (.aload_n 0, 1) := by decide +kernel
theorem dX2_takesLink_16 : decode cX2_takesLink 16 = .ok (.iconst 3, 1) := by decide +kernel
theorem dX2_takesLink_17 : decode cX2_takesLink 17 = .ok (.putfield 9, 3) := by decide +kernel
theorem dX2_takesLink_20 : decode cX2_takesLink 20 = .ok (.aload_n 0, 1) := by decide +kernel
theorem dX2_takesLink_21 : decode cX2_takesLink 21 = .ok (.dup, 1) := by decide +kernel
theorem dX2_takesLink_22 : decode cX2_takesLink 22 = .ok (.getfield 13, 3) := by decide +kernel
theorem dX2_takesLink_25 : decode cX2_takesLink 25 = .ok (.iconst 1, 1) := by decide +kernel
theorem dX2_takesLink_26 : decode cX2_takesLink 26 = .ok (.isub, 1) := by decide +kernel
theorem dX2_takesLink_27 : decode cX2_takesLink 27 = .ok (.putfield 13, 3) := by decide +kernel
theorem dX2_takesLink_30 : decode cX2_takesLink 30 = .ok (.aload_n 0, 1) := by decide +kernel
theorem dX2_takesLink_31 : decode cX2_takesLink 31 = .ok (.getfield 13, 3) := by decide +kernel
theorem dX2_takesLink_34 : decode cX2_takesLink 34 = .ok (.ifCond .lt 7, 3) := by decide +kernel
theorem dX2_takesLink_37 : decode cX2_takesLink 37 = .ok (.iconst 1, 1) := by decide +kernel
theorem dX2_takesLink_38 : decode cX2_takesLink 38 = .ok (.goto 4, 3) := by decide +kernel
theorem dX2_takesLink_41 : decode cX2_takesLink 41 = .ok (.iconst 0, 1) := by decide +kernel
theorem dX2_takesLink_42 : decode cX2_takesLink 42 = .ok (.ireturn, 1) := by decide +kernel
theorem dX2_takesLink_43 : decode cX2_takesLink 43 = .ok (.aload_n 0, 1) := by decide +kernel
theorem dX2_takesLink_44 : decode cX2_takesLink 44 = .ok (.iconst 0, 1) := by decide +kernel
theorem dX2_takesLink_45 : decode cX2_takesLink 45 = .ok (.putfield 9, 3) := by decide +kernel
theorem dX2_takesLink_48 : decode cX2_takesLink 48 = .ok (.iload_n 1, 1) := by decide +kernel
theorem dX2_takesLink_49 : decode cX2_takesLink 49 = .ok (.bipush 38, 2) := by decide +kernel
theorem dX2_takesLink_51 : decode cX2_takesLink 51 = .ok (.if_icmp .eq 9, 3) := by decide +kernel
theorem dX2_takesLink_54 : decode cX2_takesLink 54 = .ok (.iload_n 1, 1) := by decide +kernel
theorem dX2_takesLink_55 : decode cX2_takesLink 55 = .ok (.bipush 124, 2) := by decide +kernel
theorem dX2_takesLink_57 : decode cX2_takesLink 57 = .ok (.if_icmp .ne 7, 3) := by decide +kernel
theorem dX2_takesLink_60 : decode cX2_takesLink 60 = .ok (.iconst 1, 1) := by decide +kernel
theorem dX2_takesLink_61 : decode cX2_takesLink 61 = .ok (.goto 4, 3) := by decide +kernel
theorem dX2_takesLink_64 : decode cX2_takesLink 64 = .ok (.iconst 0, 1) := by decide +kernel
theorem dX2_takesLink_65 : decode cX2_takesLink 65 = .ok (.ireturn, 1) := by decide +kernel
def vc_X2_takesLink (l0 : Nat) (l1 : Int32) (M : mj_M) (post : Bool → mj_M → Prop) : Prop := mj_tag M l0 = 3 ∧ vc_X2_isBehindFactor l0 M (fun r2 M3 => if r2 = true then (if l1 = 41 then (mj_tag M3 l0 = 3 ∧ if (mj_i (mj_wi (mj_wi M3 l0 0 3) l0 1 ((mj_i (mj_wi M3 l0 0 3) l0 1) - 1)) l0 1) < 0 then (post false (mj_wi (mj_wi M3 l0 0 3) l0 1 ((mj_i (mj_wi M3 l0 0 3) l0 1) - 1))) else (post true (mj_wi (mj_wi M3 l0 0 3) l0 1 ((mj_i (mj_wi M3 l0 0 3) l0 1) - 1)))) else (mj_tag M3 l0 = 3 ∧ if l1 = 38 then (post true (mj_wi M3 l0 0 0)) else (if l1 = 124 then (post true (mj_wi M3 l0 0 0)) else (post false (mj_wi M3 l0 0 0))))) else (post false M3))
set_option maxHeartbeats 4000000 in
set_option maxRecDepth 100000 in
theorem ct_X2_takesLink {l : Launch} {base : Nat} {D : va_G} {A : mj_AT} (l0 : Nat) (l1 : Int32) (M : mj_M) (post : Bool → mj_M → Prop) (h : vc_X2_takesLink l0 l1 M post) : mj_Met l base D A mj_jB yX2_takesLink cX2_takesLink 2 (some .boolean) rm_X2_takesLink 0 0 [vR l0, vI l1] M post := by
  refine mj_entry (by decide +kernel) (Nat.le_of_ble_eq_true rfl) (fun g hC hE h1 h2 h3 h4 => ?_)
  show mj_X g 0 [(0, vR l0), (1, vI l1)] [] M 0 0
  simp only [vc_X2_takesLink] at h
  refine mx_aload_n (j := 0) hC dX2_takesLink_0 rfl rfl ?_
  obtain ⟨ht1, h⟩ := h
  refine mx_callV (inj := mj_jB) (As := []) (st := []) hC (ct_X2_isBehindFactor l0 M _ h) ty_X2_isBehindFactor tw591 ht1 rfl (Nat.le_of_ble_eq_true rfl) ⟨rfl, rfl, ⟨by decide, by decide⟩, by decide, by decide⟩ dX2_takesLink_1 (fun r2 M3 h => ?_)
  show mj_X g 4 [(0, vR l0), (1, vI l1)] [vI (mj_b r2)] M3 0 0
  refine mx_ifneB (tgt := 9) hC dX2_takesLink_4 (by decide) (fun hc4 => ?_) (fun hc4 => ?_)
  · replace h := mj_yy hc4 h
    refine mx_iload_n (j := 1) hC dX2_takesLink_9 rfl rfl ?_
    refine mx_bipush (v := 41) hC dX2_takesLink_10 (by decide) ?_
    refine mx_icmpne (tgt := 43) hC dX2_takesLink_12 (by decide) (fun hc5 => ?_) (fun hc5 => ?_)
    · replace h := mj_nn hc5 h
      refine mx_aload_n (j := 0) hC dX2_takesLink_43 rfl rfl ?_
      refine mx_iconst (v := 0) hC dX2_takesLink_44 (by decide) ?_
      obtain ⟨ht6, h⟩ := h
      refine mx_put (v := vI 0) (M1 := mj_wi M3 l0 0 0) hC tf_X2_9 ht6 (Or.inl rfl) ⟨rfl, rfl⟩ (mj_off_wi _ _ _ _) mj_put_wi dX2_takesLink_45 ?_
      refine mx_iload_n (j := 1) hC dX2_takesLink_48 rfl rfl ?_
      refine mx_bipush (v := 38) hC dX2_takesLink_49 (by decide) ?_
      refine mx_icmpeq (tgt := 60) hC dX2_takesLink_51 (by decide) (fun hc7 => ?_) (fun hc7 => ?_)
      · replace h := mj_yy hc7 h
        refine mx_iconst (v := 1) hC dX2_takesLink_60 (by decide) ?_
        refine mx_goto (tgt := 65) hC dX2_takesLink_61 (by decide) ?_
        exact mx_zret (b := true) hC hE rfl dX2_takesLink_65 h
      · replace h := mj_nn hc7 h
        refine mx_iload_n (j := 1) hC dX2_takesLink_54 rfl rfl ?_
        refine mx_bipush (v := 124) hC dX2_takesLink_55 (by decide) ?_
        refine mx_icmpne (tgt := 64) hC dX2_takesLink_57 (by decide) (fun hc8 => ?_) (fun hc8 => ?_)
        · replace h := mj_nn hc8 h
          refine mx_iconst (v := 0) hC dX2_takesLink_64 (by decide) ?_
          exact mx_zret (b := false) hC hE rfl dX2_takesLink_65 h
        · replace h := mj_yy hc8 h
          refine mx_iconst (v := 1) hC dX2_takesLink_60 (by decide) ?_
          refine mx_goto (tgt := 65) hC dX2_takesLink_61 (by decide) ?_
          exact mx_zret (b := true) hC hE rfl dX2_takesLink_65 h
    · replace h := mj_yy hc5 h
      refine mx_aload_n (j := 0) hC dX2_takesLink_15 rfl rfl ?_
      refine mx_iconst (v := 3) hC dX2_takesLink_16 (by decide) ?_
      obtain ⟨ht9, h⟩ := h
      refine mx_put (v := vI 3) (M1 := mj_wi M3 l0 0 3) hC tf_X2_9 ht9 (Or.inl rfl) ⟨rfl, rfl⟩ (mj_off_wi _ _ _ _) mj_put_wi dX2_takesLink_17 ?_
      refine mx_aload_n (j := 0) hC dX2_takesLink_20 rfl rfl ?_
      refine mx_dup hC dX2_takesLink_21 rfl ?_
      refine mx_get (v := vI (mj_i (mj_wi M3 l0 0 3) l0 1)) hC tf_X2_13 ht9 rfl dX2_takesLink_22 ?_
      refine mx_iconst (v := 1) hC dX2_takesLink_25 (by decide) ?_
      refine mx_isub hC dX2_takesLink_26 ?_
      refine mx_put (v := vI ((mj_i (mj_wi M3 l0 0 3) l0 1) - 1)) (M1 := mj_wi (mj_wi M3 l0 0 3) l0 1 ((mj_i (mj_wi M3 l0 0 3) l0 1) - 1)) hC tf_X2_13 ht9 (Or.inl rfl) ⟨rfl, rfl⟩ (mj_off_wi _ _ _ _) mj_put_wi dX2_takesLink_27 ?_
      refine mx_aload_n (j := 0) hC dX2_takesLink_30 rfl rfl ?_
      refine mx_get (v := vI (mj_i (mj_wi (mj_wi M3 l0 0 3) l0 1 ((mj_i (mj_wi M3 l0 0 3) l0 1) - 1)) l0 1)) hC tf_X2_13 ht9 rfl dX2_takesLink_31 ?_
      refine mx_iflt (tgt := 41) hC dX2_takesLink_34 (by decide) (fun hc10 => ?_) (fun hc10 => ?_)
      · replace h := mj_yy hc10 h
        refine mx_iconst (v := 0) hC dX2_takesLink_41 (by decide) ?_
        exact mx_zret (b := false) hC hE rfl dX2_takesLink_42 h
      · replace h := mj_nn hc10 h
        refine mx_iconst (v := 1) hC dX2_takesLink_37 (by decide) ?_
        refine mx_goto (tgt := 42) hC dX2_takesLink_38 (by decide) ?_
        exact mx_zret (b := true) hC hE rfl dX2_takesLink_42 h
  · replace h := mj_nn hc4 h
    refine mx_iconst (v := 0) hC dX2_takesLink_7 (by decide) ?_
    exact mx_zret (b := false) hC hE rfl dX2_takesLink_8 h
theorem tn580 : (Jvm.Cond.methodLinkNest "LeaseLand$Grammar" (26 : Nat) ({ cls := "LeaseLand", name := "isDigit", desc := "(I)Z" } : Jvm.MethodName) "LeaseLand") ∈ mj_nest := List.mem_filter.mpr ⟨List.mem_of_getElem? (i := 580) (by decide +kernel), rfl⟩
theorem tw483 : (Jvm.Cond.methodLink "LeaseLand$Grammar" (19 : Nat) ({ cls := "LeaseLand$Grammar", name := "takesFactor", desc := "(I)Z" } : Jvm.MethodName)) ∈ mj_tbl := mj_w 489 (by decide +kernel) (by decide +kernel)
theorem tw573 : (Jvm.Cond.methodLink "LeaseLand$Grammar" (23 : Nat) ({ cls := "LeaseLand$Grammar", name := "takesComparing", desc := "(I)Z" } : Jvm.MethodName)) ∈ mj_tbl := mj_w 579 (by decide +kernel) (by decide +kernel)
theorem tw583 : (Jvm.Cond.methodLink "LeaseLand$Grammar" (31 : Nat) ({ cls := "LeaseLand$Grammar", name := "takesDigit", desc := "()Z" } : Jvm.MethodName)) ∈ mj_tbl := mj_w 589 (by decide +kernel) (by decide +kernel)
theorem tw587 : (Jvm.Cond.methodLink "LeaseLand$Grammar" (35 : Nat) ({ cls := "LeaseLand$Grammar", name := "takesLink", desc := "(I)Z" } : Jvm.MethodName)) ∈ mj_tbl := mj_w 593 (by decide +kernel) (by decide +kernel)
theorem tw582 : (Jvm.Cond.code ({ cls := "LeaseLand", name := "isDigit", desc := "(I)Z" } : Jvm.MethodName) prog_1_method_67_code (1 : Nat) (Option.some Jvm.ClassFile.FieldType.boolean)) ∈ mj_tbl := mj_w 588 (by decide +kernel) (by decide +kernel)
theorem tw581 : (Jvm.Cond.static ({ cls := "LeaseLand", name := "isDigit", desc := "(I)Z" } : Jvm.MethodName)) ∈ mj_tbl := mj_w 587 (by decide +kernel) (by decide +kernel)
theorem ty_X11_isDigit : mj_YS yX11_isDigit cX11_isDigit 1 (some .boolean) 1 := ⟨⟨tw582, tw1, by decide +kernel, by decide +kernel, by decide +kernel⟩, tw581⟩
theorem tw576 : (Jvm.Cond.code ({ cls := "LeaseLand$Grammar", name := "takesComparing", desc := "(I)Z" } : Jvm.MethodName) prog_4_method_5_code (2 : Nat) (Option.some Jvm.ClassFile.FieldType.boolean)) ∈ mj_tbl := mj_w 582 (by decide +kernel) (by decide +kernel)
theorem tw574 : (Jvm.Cond.instanceMethod ({ cls := "LeaseLand$Grammar", name := "takesComparing", desc := "(I)Z" } : Jvm.MethodName)) ∈ mj_tbl := mj_w 580 (by decide +kernel) (by decide +kernel)
theorem tw575 : (Jvm.Cond.selects "LeaseLand$Grammar" ({ cls := "LeaseLand$Grammar", name := "takesComparing", desc := "(I)Z" } : Jvm.MethodName) ({ cls := "LeaseLand$Grammar", name := "takesComparing", desc := "(I)Z" } : Jvm.MethodName)) ∈ mj_tbl := mj_w 581 (by decide +kernel) (by decide +kernel)
theorem ty_X2_takesComparing : mj_YV 2 yX2_takesComparing cX2_takesComparing 2 (some .boolean) 1 := ⟨⟨tw576, tw5, by decide +kernel, by decide +kernel, by decide +kernel⟩, tw574, tw575, _, rfl, rfl⟩
theorem tw586 : (Jvm.Cond.code ({ cls := "LeaseLand$Grammar", name := "takesDigit", desc := "()Z" } : Jvm.MethodName) prog_4_method_6_code (1 : Nat) (Option.some Jvm.ClassFile.FieldType.boolean)) ∈ mj_tbl := mj_w 592 (by decide +kernel) (by decide +kernel)
theorem tw584 : (Jvm.Cond.instanceMethod ({ cls := "LeaseLand$Grammar", name := "takesDigit", desc := "()Z" } : Jvm.MethodName)) ∈ mj_tbl := mj_w 590 (by decide +kernel) (by decide +kernel)
theorem tw585 : (Jvm.Cond.selects "LeaseLand$Grammar" ({ cls := "LeaseLand$Grammar", name := "takesDigit", desc := "()Z" } : Jvm.MethodName) ({ cls := "LeaseLand$Grammar", name := "takesDigit", desc := "()Z" } : Jvm.MethodName)) ∈ mj_tbl := mj_w 591 (by decide +kernel) (by decide +kernel)
theorem ty_X2_takesDigit : mj_YV 2 yX2_takesDigit cX2_takesDigit 1 (some .boolean) 0 := ⟨⟨tw586, tw5, by decide +kernel, by decide +kernel, by decide +kernel⟩, tw584, tw585, _, rfl, rfl⟩
theorem tw486 : (Jvm.Cond.code ({ cls := "LeaseLand$Grammar", name := "takesFactor", desc := "(I)Z" } : Jvm.MethodName) prog_4_method_4_code (2 : Nat) (Option.some Jvm.ClassFile.FieldType.boolean)) ∈ mj_tbl := mj_w 492 (by decide +kernel) (by decide +kernel)
theorem tw484 : (Jvm.Cond.instanceMethod ({ cls := "LeaseLand$Grammar", name := "takesFactor", desc := "(I)Z" } : Jvm.MethodName)) ∈ mj_tbl := mj_w 490 (by decide +kernel) (by decide +kernel)
theorem tw485 : (Jvm.Cond.selects "LeaseLand$Grammar" ({ cls := "LeaseLand$Grammar", name := "takesFactor", desc := "(I)Z" } : Jvm.MethodName) ({ cls := "LeaseLand$Grammar", name := "takesFactor", desc := "(I)Z" } : Jvm.MethodName)) ∈ mj_tbl := mj_w 491 (by decide +kernel) (by decide +kernel)
theorem ty_X2_takesFactor : mj_YV 2 yX2_takesFactor cX2_takesFactor 2 (some .boolean) 1 := ⟨⟨tw486, tw5, by decide +kernel, by decide +kernel, by decide +kernel⟩, tw484, tw485, _, rfl, rfl⟩
theorem tw590 : (Jvm.Cond.code ({ cls := "LeaseLand$Grammar", name := "takesLink", desc := "(I)Z" } : Jvm.MethodName) prog_4_method_7_code (2 : Nat) (Option.some Jvm.ClassFile.FieldType.boolean)) ∈ mj_tbl := mj_w 596 (by decide +kernel) (by decide +kernel)
theorem tw588 : (Jvm.Cond.instanceMethod ({ cls := "LeaseLand$Grammar", name := "takesLink", desc := "(I)Z" } : Jvm.MethodName)) ∈ mj_tbl := mj_w 594 (by decide +kernel) (by decide +kernel)
theorem tw589 : (Jvm.Cond.selects "LeaseLand$Grammar" ({ cls := "LeaseLand$Grammar", name := "takesLink", desc := "(I)Z" } : Jvm.MethodName) ({ cls := "LeaseLand$Grammar", name := "takesLink", desc := "(I)Z" } : Jvm.MethodName)) ∈ mj_tbl := mj_w 595 (by decide +kernel) (by decide +kernel)
theorem ty_X2_takesLink : mj_YV 2 yX2_takesLink cX2_takesLink 2 (some .boolean) 1 := ⟨⟨tw590, tw5, by decide +kernel, by decide +kernel, by decide +kernel⟩, tw588, tw589, _, rfl, rfl⟩
def rm_X2_takes : Room := { frames := 10, cells := 0, slots := 0, locals := 291 }
theorem dX2_takes_0 : decode cX2_takes 0 = .ok (.aload_n 0, 1) := by decide +kernel
theorem dX2_takes_1 : decode cX2_takes 1 = .ok (.getfield 9, 3) := by decide +kernel
theorem dX2_takes_4 : decode cX2_takes 4 = .ok (.lookupswitch 40 #[(0, 28), (1, 34)], 28) := by decide +kernel
theorem dX2_takes_32 : decode cX2_takes 32 = .ok (.aload_n 0, 1) := by decide +kernel
theorem dX2_takes_33 : decode cX2_takes 33 = .ok (.iload_n 1, 1) := by decide +kernel
theorem dX2_takes_34 : decode cX2_takes 34 = .ok (.invokevirtual 19, 3) := by decide +kernel
theorem dX2_takes_37 : decode cX2_takes 37 = .ok (.ireturn, 1) := by decide +kernel
theorem dX2_takes_38 : decode cX2_takes 38 = .ok (.aload_n 0, 1) := by decide +kernel
theorem dX2_takes_39 : decode cX2_takes 39 = .ok (.iload_n 1, 1) := by decide +kernel
theorem dX2_takes_40 : decode cX2_takes 40 = .ok (.invokevirtual 23, 3) := by decide +kernel
theorem dX2_takes_43 : decode cX2_takes 43 = .ok (.ireturn, 1) := by decide +kernel
theorem dX2_takes_44 : decode cX2_takes 44 = .ok (.iload_n 1, 1) := by decide +kernel
theorem dX2_takes_45 : decode cX2_takes 45 = .ok (.invokestatic 26, 3) := by decide +kernel
theorem dX2_takes_48 : decode cX2_takes 48 = .ok (.ifCond .eq 10, 3) := by decide +kernel
theorem dX2_takes_51 : decode cX2_takes 51 = .ok (.aload_n 0, 1) := by decide +kernel
theorem dX2_takes_52 : decode cX2_takes 52 = .ok (.invokevirtual 31, 3) := by decide +kernel
theorem dX2_takes_55 : decode cX2_takes 55 = .ok (.goto 8, 3) := by decide +kernel
theorem dX2_takes_58 : decode cX2_takes 58 = .ok (.aload_n 0, 1) := by decide +kernel
theorem dX2_takes_59 : decode cX2_takes 59 = .ok (.iload_n 1, 1) := by decide +kernel
theorem dX2_takes_60 : decode cX2_takes 60 = .ok (.invokevirtual 35, 3) := by decide +kernel
theorem dX2_takes_63 : decode cX2_takes 63 = .ok (.ireturn, 1) := by decide +kernel
def vc_X2_takes (l0 : Nat) (l1 : Int32) (M : mj_M) (post : Bool → mj_M → Prop) : Prop := mj_tag M l0 = 3 ∧ if (mj_i M l0 0) = 0 then (vc_X2_takesFactor l0 l1 M (fun r3 M4 => post r3 M4)) else (if (mj_i M l0 0) = 1 then (vc_X2_takesComparing l0 l1 M (fun r6 M7 => post r6 M7)) else (vc_X11_isDigit l1 M (fun r8 M9 => if r8 = true then (mj_tag M9 l0 = 3 ∧ vc_X2_takesDigit l0 M9 (fun r15 M16 => post r15 M16)) else (mj_tag M9 l0 = 3 ∧ vc_X2_takesLink l0 l1 M9 (fun r12 M13 => post r12 M13)))))
set_option maxHeartbeats 4000000 in
set_option maxRecDepth 100000 in
theorem ct_X2_takes {l : Launch} {base : Nat} {D : va_G} {A : mj_AT} (l0 : Nat) (l1 : Int32) (M : mj_M) (post : Bool → mj_M → Prop) (h : vc_X2_takes l0 l1 M post) : mj_Met l base D A mj_jB yX2_takes cX2_takes 2 (some .boolean) rm_X2_takes 0 0 [vR l0, vI l1] M post := by
  refine mj_entry (by decide +kernel) (Nat.le_of_ble_eq_true rfl) (fun g hC hE h1 h2 h3 h4 => ?_)
  show mj_X g 0 [(0, vR l0), (1, vI l1)] [] M 0 0
  simp only [vc_X2_takes] at h
  refine mx_aload_n (j := 0) hC dX2_takes_0 rfl rfl ?_
  obtain ⟨ht1, h⟩ := h
  refine mx_get (v := vI (mj_i M l0 0)) hC tf_X2_9 ht1 rfl dX2_takes_1 ?_
  by_cases hc2 : (mj_i M l0 0) = 0
  · replace h := mj_yy hc2 h
    refine mx_lsin (v := 0) (off := 28) (tgt := 32) hC dX2_takes_4 hc2 (by decide) (by decide) (by decide) ?_
    refine mx_aload_n (j := 0) hC dX2_takes_32 rfl rfl ?_
    refine mx_iload_n (j := 1) hC dX2_takes_33 rfl rfl ?_
    refine mx_callV (inj := mj_jB) (As := [vI l1]) (st := []) hC (ct_X2_takesFactor l0 l1 M _ h) ty_X2_takesFactor tw483 ht1 rfl (Nat.le_of_ble_eq_true rfl) ⟨rfl, rfl, ⟨by decide, by decide⟩, by decide, by decide⟩ dX2_takes_34 (fun r3 M4 h => ?_)
    show mj_X g 37 [(0, vR l0), (1, vI l1)] [vI (mj_b r3)] M4 0 0
    exact mx_zret (b := r3) hC hE rfl dX2_takes_37 h
  replace h := mj_nn hc2 h
  by_cases hc5 : (mj_i M l0 0) = 1
  · replace h := mj_yy hc5 h
    refine mx_lsin (v := 1) (off := 34) (tgt := 38) hC dX2_takes_4 hc5 (by decide) (by decide) (by decide) ?_
    refine mx_aload_n (j := 0) hC dX2_takes_38 rfl rfl ?_
    refine mx_iload_n (j := 1) hC dX2_takes_39 rfl rfl ?_
    refine mx_callV (inj := mj_jB) (As := [vI l1]) (st := []) hC (ct_X2_takesComparing l0 l1 M _ h) ty_X2_takesComparing tw573 ht1 rfl (Nat.le_of_ble_eq_true rfl) ⟨rfl, rfl, ⟨by decide, by decide⟩, by decide, by decide⟩ dX2_takes_40 (fun r6 M7 h => ?_)
    show mj_X g 43 [(0, vR l0), (1, vI l1)] [vI (mj_b r6)] M7 0 0
    exact mx_zret (b := r6) hC hE rfl dX2_takes_43 h
  replace h := mj_nn hc5 h
  refine mx_lsout (vs := [0, 1]) (tgt := 44) hC dX2_takes_4 (by decide) (by decide) (by decide) (List.forall_mem_cons.mpr ⟨hc2, (List.forall_mem_cons.mpr ⟨hc5, (fun _ q => absurd q List.not_mem_nil)⟩)⟩) ?_
  refine mx_iload_n (j := 1) hC dX2_takes_44 rfl rfl ?_
  refine mx_callSN (inj := mj_jB) (As := [vI l1]) (st := []) hC (ct_X11_isDigit l1 M _ h) ty_X11_isDigit tn580 rfl (Nat.le_of_ble_eq_true rfl) ⟨rfl, rfl, ⟨by decide, by decide⟩, by decide, by decide⟩ dX2_takes_45 (fun r8 M9 h => ?_)
  show mj_X g 48 [(0, vR l0), (1, vI l1)] [vI (mj_b r8)] M9 0 0
  refine mx_ifeqB (tgt := 58) hC dX2_takes_48 (by decide) (fun hc10 => ?_) (fun hc10 => ?_)
  · replace h := mj_nn hc10 h
    refine mx_aload_n (j := 0) hC dX2_takes_58 rfl rfl ?_
    refine mx_iload_n (j := 1) hC dX2_takes_59 rfl rfl ?_
    obtain ⟨ht11, h⟩ := h
    refine mx_callV (inj := mj_jB) (As := [vI l1]) (st := []) hC (ct_X2_takesLink l0 l1 M9 _ h) ty_X2_takesLink tw587 ht11 rfl (Nat.le_of_ble_eq_true rfl) ⟨rfl, rfl, ⟨by decide, by decide⟩, by decide, by decide⟩ dX2_takes_60 (fun r12 M13 h => ?_)
    show mj_X g 63 [(0, vR l0), (1, vI l1)] [vI (mj_b r12)] M13 0 0
    exact mx_zret (b := r12) hC hE rfl dX2_takes_63 h
  · replace h := mj_yy hc10 h
    refine mx_aload_n (j := 0) hC dX2_takes_51 rfl rfl ?_
    obtain ⟨ht14, h⟩ := h
    refine mx_callV (inj := mj_jB) (As := []) (st := []) hC (ct_X2_takesDigit l0 M9 _ h) ty_X2_takesDigit tw583 ht14 rfl (Nat.le_of_ble_eq_true rfl) ⟨rfl, rfl, ⟨by decide, by decide⟩, by decide, by decide⟩ dX2_takes_52 (fun r15 M16 h => ?_)
    show mj_X g 55 [(0, vR l0), (1, vI l1)] [vI (mj_b r15)] M16 0 0
    refine mx_goto (tgt := 63) hC dX2_takes_55 (by decide) ?_
    exact mx_zret (b := r15) hC hE rfl dX2_takes_63 h
def rm_X2_isComplete : Room := { frames := 1, cells := 0, slots := 0, locals := 20 }
theorem dX2_isComplete_0 : decode cX2_isComplete 0 = .ok (.aload_n 0, 1) := by decide +kernel
theorem dX2_isComplete_1 : decode cX2_isComplete 1 = .ok (.getfield 13, 3) := by decide +kernel
theorem dX2_isComplete_4 : decode cX2_isComplete 4 = .ok (.ifCond .ne 14, 3) := by decide +kernel
theorem dX2_isComplete_7 : decode cX2_isComplete 7 = .ok (.aload_n 0, 1) := by decide +kernel
theorem dX2_isComplete_8 : decode cX2_isComplete 8 = .ok (.invokevirtual 44, 3) := by decide +kernel
theorem dX2_isComplete_11 : decode cX2_isComplete 11 = .ok (.ifCond .eq 7, 3) := by decide +kernel
theorem dX2_isComplete_14 : decode cX2_isComplete 14 = .ok (.iconst 1, 1) := by decide +kernel
theorem dX2_isComplete_15 : decode cX2_isComplete 15 = .ok (.goto 4, 3) := by decide +kernel
theorem dX2_isComplete_18 : decode cX2_isComplete 18 = .ok (.iconst 0, 1) := by decide +kernel
theorem dX2_isComplete_19 : decode cX2_isComplete 19 = .ok (.ireturn, 1) := by decide +kernel
def vc_X2_isComplete (l0 : Nat) (M : mj_M) (post : Bool → mj_M → Prop) : Prop := mj_tag M l0 = 3 ∧ if (mj_i M l0 1) = 0 then (vc_X2_isBehindFactor l0 M (fun r3 M4 => if r3 = true then (post true M4) else (post false M4))) else (post false M)
set_option maxHeartbeats 4000000 in
set_option maxRecDepth 100000 in
theorem ct_X2_isComplete {l : Launch} {base : Nat} {D : va_G} {A : mj_AT} (l0 : Nat) (M : mj_M) (post : Bool → mj_M → Prop) (h : vc_X2_isComplete l0 M post) : mj_Met l base D A mj_jB yX2_isComplete cX2_isComplete 1 (some .boolean) rm_X2_isComplete 0 0 [vR l0] M post := by
  refine mj_entry (by decide +kernel) (Nat.le_of_ble_eq_true rfl) (fun g hC hE h1 h2 h3 h4 => ?_)
  show mj_X g 0 [(0, vR l0)] [] M 0 0
  simp only [vc_X2_isComplete] at h
  refine mx_aload_n (j := 0) hC dX2_isComplete_0 rfl rfl ?_
  obtain ⟨ht1, h⟩ := h
  refine mx_get (v := vI (mj_i M l0 1)) hC tf_X2_13 ht1 rfl dX2_isComplete_1 ?_
  refine mx_ifne (tgt := 18) hC dX2_isComplete_4 (by decide) (fun hc2 => ?_) (fun hc2 => ?_)
  · replace h := mj_nn hc2 h
    refine mx_iconst (v := 0) hC dX2_isComplete_18 (by decide) ?_
    exact mx_zret (b := false) hC hE rfl dX2_isComplete_19 h
  · replace h := mj_yy hc2 h
    refine mx_aload_n (j := 0) hC dX2_isComplete_7 rfl rfl ?_
    refine mx_callV (inj := mj_jB) (As := []) (st := []) hC (ct_X2_isBehindFactor l0 M _ h) ty_X2_isBehindFactor tw591 ht1 rfl (Nat.le_of_ble_eq_true rfl) ⟨rfl, rfl, ⟨by decide, by decide⟩, by decide, by decide⟩ dX2_isComplete_8 (fun r3 M4 h => ?_)
    show mj_X g 11 [(0, vR l0)] [vI (mj_b r3)] M4 0 0
    refine mx_ifeqB (tgt := 18) hC dX2_isComplete_11 (by decide) (fun hc5 => ?_) (fun hc5 => ?_)
    · replace h := mj_nn hc5 h
      refine mx_iconst (v := 0) hC dX2_isComplete_18 (by decide) ?_
      exact mx_zret (b := false) hC hE rfl dX2_isComplete_19 h
    · replace h := mj_yy hc5 h
      refine mx_iconst (v := 1) hC dX2_isComplete_14 (by decide) ?_
      refine mx_goto (tgt := 19) hC dX2_isComplete_15 (by decide) ?_
      exact mx_zret (b := true) hC hE rfl dX2_isComplete_19 h
theorem tw302 : (Jvm.Cond.fieldLink "LeaseLand$Holding" (15 : Nat) "LeaseLand$Holding" "out" "LLeaseLand$Holding;") ∈ mj_tbl := mj_w 308 (by decide +kernel) (by decide +kernel)
theorem tk3 : mj_KC 3 (RX3, TX3, 15, tyX3) := ⟨rfl, fun w hw => List.mem_filter.mpr ⟨(goodIn_r (big := lw_tbl) (u_ws RX3 TX3 15) [344, 346, 348, 350, 352, 354, 356, 358, 360, 362, 364, 366, 368, 370, 372] (by decide +kernel) (by decide +kernel) w hw).1, List.all_eq_true.mp (show (u_ws RX3 TX3 15).all goodWord = true by decide +kernel) w hw⟩, tyX3_ok, nmX3, by decide⟩
theorem tf_X3_15 : mj_F 3 2 (.object "LeaseLand$Holding") false "LeaseLand$Holding" 15 := ⟨_, tk3, by decide, rfl, rfl, rfl, tw302⟩
theorem tw306 : (Jvm.Cond.fieldLink "LeaseLand$Holding" (19 : Nat) "LeaseLand$Holding" "floors" "I") ∈ mj_tbl := mj_w 312 (by decide +kernel) (by decide +kernel)
theorem tf_X3_19 : mj_F 3 3 .int false "LeaseLand$Holding" 19 := ⟨_, tk3, by decide, rfl, rfl, rfl, tw306⟩
theorem tw310 : (Jvm.Cond.fieldLink "LeaseLand$Holding" (22 : Nat) "LeaseLand$Holding" "from" "I") ∈ mj_tbl := mj_w 316 (by decide +kernel) (by decide +kernel)
theorem tf_X3_22 : mj_F 3 4 .int true "LeaseLand$Holding" 22 := ⟨_, tk3, by decide, rfl, rfl, rfl, tw310⟩
theorem tw313 : (Jvm.Cond.fieldLink "LeaseLand$Holding" (25 : Nat) "LeaseLand$Holding" "to" "I") ∈ mj_tbl := mj_w 319 (by decide +kernel) (by decide +kernel)
theorem tf_X3_25 : mj_F 3 5 .int false "LeaseLand$Holding" 25 := ⟨_, tk3, by decide, rfl, rfl, rfl, tw313⟩
theorem tw322 : (Jvm.Cond.fieldLink "LeaseLand$Holding" (28 : Nat) "LeaseLand$Holding" "person" "I") ∈ mj_tbl := mj_w 328 (by decide +kernel) (by decide +kernel)
theorem tf_X3_28 : mj_F 3 8 .int false "LeaseLand$Holding" 28 := ⟨_, tk3, by decide, rfl, rfl, rfl, tw322⟩
theorem tw325 : (Jvm.Cond.fieldLink "LeaseLand$Holding" (31 : Nat) "LeaseLand$Holding" "since" "I") ∈ mj_tbl := mj_w 331 (by decide +kernel) (by decide +kernel)
theorem tf_X3_31 : mj_F 3 9 .int false "LeaseLand$Holding" 31 := ⟨_, tk3, by decide, rfl, rfl, rfl, tw325⟩
theorem tw333 : (Jvm.Cond.fieldLink "LeaseLand$Holding" (9 : Nat) "LeaseLand$Holding" "breach" "I") ∈ mj_tbl := mj_w 339 (by decide +kernel) (by decide +kernel)
theorem tf_X3_9 : mj_F 3 12 .int false "LeaseLand$Holding" 9 := ⟨_, tk3, by decide, rfl, rfl, rfl, tw333⟩
theorem tw298 : (Jvm.Cond.methodLink "LeaseLand$Holding" (3 : Nat) ({ cls := "java/lang/Object", name := "<init>", desc := "()V" } : Jvm.MethodName)) ∈ mj_tbl := mj_w 304 (by decide +kernel) (by decide +kernel)
def rm_X3_init : Room := { frames := 1, cells := 0, slots := 0, locals := 20 }
theorem dX3_init_0 : decode cX3_init 0 = .ok (.aload_n 0, 1) := by decide +kernel
theorem dX3_init_1 : decode cX3_init 1 = .ok (.invokespecial 3, 3) := by decide +kernel
theorem dX3_init_4 : decode cX3_init 4 = .ok (.aload_n 0, 1) := by decide +kernel
theorem dX3_init_5 : decode cX3_init 5 = .ok (.bipush (-6), 2) := by decide +kernel
theorem dX3_init_7 : decode cX3_init 7 = .ok (.putfield 9, 3) := by decide +kernel
theorem dX3_init_10 : decode cX3_init 10 = .ok (.aload_n 0, 1) := by decide +kernel
theorem dX3_init_11 : decode cX3_init 11 = .ok (.aload_n 1, 1) := by decide +kernel
theorem dX3_init_12 : decode cX3_init 12 = .ok (.putfield 15, 3) := by decide +kernel
theorem dX3_init_15 : decode cX3_init 15 = .ok (.aload_n 0, 1) := by decide +kernel
theorem dX3_init_16 : decode cX3_init 16 = .ok (.iload_n 2, 1) := by decide +kernel
theorem dX3_init_17 : decode cX3_init 17 = .ok (.putfield 19, 3) := by decide +kernel
theorem dX3_init_20 : decode cX3_init 20 = .ok (.aload_n 0, 1) := by decide +kernel
theorem dX3_init_21 : decode cX3_init 21 = .ok (.iload_n 3, 1) := by decide +kernel
theorem dX3_init_22 : decode cX3_init 22 = .ok (.putfield 22, 3) := by decide +kernel
theorem dX3_init_25 : decode cX3_init 25 = .ok (.aload_n 0, 1) := by decide +kernel
theorem dX3_init_26 : decode cX3_init 26 = .ok (.iload 4, 2) := by decide +kernel
theorem dX3_init_28 : decode cX3_init 28 = .ok (.putfield 25, 3) := by decide +kernel
theorem dX3_init_31 : decode cX3_init 31 = .ok (.aload_n 0, 1) := by decide +kernel
theorem dX3_init_32 : decode cX3_init 32 = .ok (.iload 5, 2) := by decide +kernel
theorem dX3_init_34 : decode cX3_init 34 = .ok (.putfield 28, 3) := by decide +kernel
theorem dX3_init_37 : decode cX3_init 37 = .ok (.aload_n 0, 1) := by decide +kernel
theorem dX3_init_38 : decode cX3_init 38 = .ok (.iload 6, 2) := by decide +kernel
theorem dX3_init_40 : decode cX3_init 40 = .ok (.putfield 31, 3) := by decide +kernel
theorem dX3_init_43 : decode cX3_init 43 = .ok (.return_, 1) := by decide +kernel
def vc_X3_init (l0 : Nat) (l1 : Nat) (l2 : Int32) (l3 : Int32) (l4 : Int32) (l5 : Int32) (l6 : Int32) (M : mj_M) (post : Unit → mj_M → Prop) : Prop := (¬ l0 = 0) ∧ mj_tag M l0 = 4 ∧ post () (mj_wi (mj_wi (mj_wi (mj_wi (mj_wi (mj_wr (mj_wi M l0 12 ((-6))) l0 2 l1) l0 3 l2) l0 4 l3) l0 5 l4) l0 8 l5) l0 9 l6)
set_option maxHeartbeats 4000000 in
set_option maxRecDepth 100000 in
theorem ct_X3_init {l : Launch} {base : Nat} {D : va_G} {A : mj_AT} (l0 : Nat) (l1 : Nat) (l2 : Int32) (l3 : Int32) (l4 : Int32) (l5 : Int32) (l6 : Int32) (M : mj_M) (post : Unit → mj_M → Prop) (h : vc_X3_init l0 l1 l2 l3 l4 l5 l6 M post) : mj_Met l base D A mj_jV yX3_init cX3_init 7 (none) rm_X3_init 0 0 [vR l0, vR l1, vI l2, vI l3, vI l4, vI l5, vI l6] M post := by
  refine mj_entry (by decide +kernel) (Nat.le_of_ble_eq_true rfl) (fun g hC hE h1 h2 h3 h4 => ?_)
  show mj_X g 0 [(0, vR l0), (1, vR l1), (2, vI l2), (3, vI l3), (4, vI l4), (5, vI l5), (6, vI l6)] [] M 0 0
  simp only [vc_X3_init] at h
  refine mx_aload_n (j := 0) hC dX3_init_0 rfl rfl ?_
  obtain ⟨hn1, h⟩ := h
  refine mx_oinit hC tw298 tw_oi tw_oc hn1 (Nat.le_of_ble_eq_true rfl) ⟨by decide, by decide⟩ dX3_init_1 ?_
  refine mx_aload_n (j := 0) hC dX3_init_4 rfl rfl ?_
  refine mx_bipush (v := (-6)) hC dX3_init_5 (by decide) ?_
  obtain ⟨ht2, h⟩ := h
  refine mx_put (v := vI ((-6))) (M1 := mj_wi M l0 12 ((-6))) hC tf_X3_9 ht2 (Or.inl rfl) ⟨rfl, rfl⟩ (mj_off_wi _ _ _ _) mj_put_wi dX3_init_7 ?_
  refine mx_aload_n (j := 0) hC dX3_init_10 rfl rfl ?_
  refine mx_aload_n (j := 1) hC dX3_init_11 rfl rfl ?_
  refine mx_put (v := vR l1) (M1 := mj_wr (mj_wi M l0 12 ((-6))) l0 2 l1) hC tf_X3_15 ht2 (Or.inl rfl) (mj_fitR l1 _) (mj_off_wr _ _ _ _) mj_put_wr dX3_init_12 ?_
  refine mx_aload_n (j := 0) hC dX3_init_15 rfl rfl ?_
  refine mx_iload_n (j := 2) hC dX3_init_16 rfl rfl ?_
  refine mx_put (v := vI l2) (M1 := mj_wi (mj_wr (mj_wi M l0 12 ((-6))) l0 2 l1) l0 3 l2) hC tf_X3_19 ht2 (Or.inl rfl) ⟨rfl, rfl⟩ (mj_off_wi _ _ _ _) mj_put_wi dX3_init_17 ?_
  refine mx_aload_n (j := 0) hC dX3_init_20 rfl rfl ?_
  refine mx_iload_n (j := 3) hC dX3_init_21 rfl rfl ?_
  refine mx_put (v := vI l3) (M1 := mj_wi (mj_wi (mj_wr (mj_wi M l0 12 ((-6))) l0 2 l1) l0 3 l2) l0 4 l3) hC tf_X3_22 ht2 (Or.inr ⟨rfl, rfl⟩) ⟨rfl, rfl⟩ (mj_off_wi _ _ _ _) mj_put_wi dX3_init_22 ?_
  refine mx_aload_n (j := 0) hC dX3_init_25 rfl rfl ?_
  refine mx_iload (j := 4) hC dX3_init_26 rfl ?_
  refine mx_put (v := vI l4) (M1 := mj_wi (mj_wi (mj_wi (mj_wr (mj_wi M l0 12 ((-6))) l0 2 l1) l0 3 l2) l0 4 l3) l0 5 l4) hC tf_X3_25 ht2 (Or.inl rfl) ⟨rfl, rfl⟩ (mj_off_wi _ _ _ _) mj_put_wi dX3_init_28 ?_
  refine mx_aload_n (j := 0) hC dX3_init_31 rfl rfl ?_
  refine mx_iload (j := 5) hC dX3_init_32 rfl ?_
  refine mx_put (v := vI l5) (M1 := mj_wi (mj_wi (mj_wi (mj_wi (mj_wr (mj_wi M l0 12 ((-6))) l0 2 l1) l0 3 l2) l0 4 l3) l0 5 l4) l0 8 l5) hC tf_X3_28 ht2 (Or.inl rfl) ⟨rfl, rfl⟩ (mj_off_wi _ _ _ _) mj_put_wi dX3_init_34 ?_
  refine mx_aload_n (j := 0) hC dX3_init_37 rfl rfl ?_
  refine mx_iload (j := 6) hC dX3_init_38 rfl ?_
  refine mx_put (v := vI l6) (M1 := mj_wi (mj_wi (mj_wi (mj_wi (mj_wi (mj_wr (mj_wi M l0 12 ((-6))) l0 2 l1) l0 3 l2) l0 4 l3) l0 5 l4) l0 8 l5) l0 9 l6) hC tf_X3_31 ht2 (Or.inl rfl) ⟨rfl, rfl⟩ (mj_off_wi _ _ _ _) mj_put_wi dX3_init_40 ?_
  exact mx_vret hC hE rfl dX3_init_43 h
theorem tw316 : (Jvm.Cond.fieldLink "LeaseLand$Holding" (34 : Nat) "LeaseLand$Holding" "way" "I") ∈ mj_tbl := mj_w 322 (by decide +kernel) (by decide +kernel)
theorem tf_X3_34 : mj_F 3 6 .int false "LeaseLand$Holding" 34 := ⟨_, tk3, by decide, rfl, rfl, rfl, tw316⟩
theorem tw319 : (Jvm.Cond.fieldLink "LeaseLand$Holding" (37 : Nat) "LeaseLand$Holding" "ended" "I") ∈ mj_tbl := mj_w 325 (by decide +kernel) (by decide +kernel)
theorem tf_X3_37 : mj_F 3 7 .int false "LeaseLand$Holding" 37 := ⟨_, tk3, by decide, rfl, rfl, rfl, tw319⟩
def rm_X3_until : Room := { frames := 0, cells := 0, slots := 0, locals := 0 }
theorem dX3_until_0 : decode cX3_until 0 = .ok (.aload_n 0, 1) := by decide +kernel
theorem dX3_until_1 : decode cX3_until 1 = .ok (.getfield 34, 3) := by decide +kernel
theorem dX3_until_4 : decode cX3_until 4 = .ok (.ifCond .ne 10, 3) := by decide +kernel
theorem dX3_until_7 : decode cX3_until 7 = .ok (.aload_n 0, 1) := by decide +kernel
theorem dX3_until_8 : decode cX3_until 8 = .ok (.getfield 25, 3) := by decide +kernel
theorem dX3_until_11 : decode cX3_until 11 = .ok (.goto 7, 3) := by decide +kernel
theorem dX3_until_14 : decode cX3_until 14 = .ok (.aload_n 0, 1) := by decide +kernel
theorem dX3_until_15 : decode cX3_until 15 = .ok (.getfield 37, 3) := by decide +kernel
theorem dX3_until_18 : decode cX3_until 18 = .ok (.ireturn, 1) := by decide +kernel
def vc_X3_until (l0 : Nat) (M : mj_M) (post : Int32 → mj_M → Prop) : Prop := mj_tag M l0 = 4 ∧ if (mj_i M l0 6) = 0 then (post (mj_i M l0 5) M) else (post (mj_i M l0 7) M)
set_option maxHeartbeats 4000000 in
set_option maxRecDepth 100000 in
theorem ct_X3_until {l : Launch} {base : Nat} {D : va_G} {A : mj_AT} (l0 : Nat) (M : mj_M) (post : Int32 → mj_M → Prop) (h : vc_X3_until l0 M post) : mj_Met l base D A mj_jI yX3_until cX3_until 1 (some .int) rm_X3_until 0 0 [vR l0] M post := by
  refine mj_entry (by decide +kernel) (Nat.le_of_ble_eq_true rfl) (fun g hC hE h1 h2 h3 h4 => ?_)
  show mj_X g 0 [(0, vR l0)] [] M 0 0
  simp only [vc_X3_until] at h
  refine mx_aload_n (j := 0) hC dX3_until_0 rfl rfl ?_
  obtain ⟨ht1, h⟩ := h
  refine mx_get (v := vI (mj_i M l0 6)) hC tf_X3_34 ht1 rfl dX3_until_1 ?_
  refine mx_ifne (tgt := 14) hC dX3_until_4 (by decide) (fun hc2 => ?_) (fun hc2 => ?_)
  · replace h := mj_nn hc2 h
    refine mx_aload_n (j := 0) hC dX3_until_14 rfl rfl ?_
    refine mx_get (v := vI (mj_i M l0 7)) hC tf_X3_37 ht1 rfl dX3_until_15 ?_
    exact mx_iret hC hE rfl dX3_until_18 h
  · replace h := mj_yy hc2 h
    refine mx_aload_n (j := 0) hC dX3_until_7 rfl rfl ?_
    refine mx_get (v := vI (mj_i M l0 5)) hC tf_X3_25 ht1 rfl dX3_until_8 ?_
    refine mx_goto (tgt := 18) hC dX3_until_11 (by decide) ?_
    exact mx_iret hC hE rfl dX3_until_18 h
theorem tw397 : (Jvm.Cond.methodLink "LeaseLand$Holding" (40 : Nat) ({ cls := "LeaseLand$Holding", name := "until", desc := "()I" } : Jvm.MethodName)) ∈ mj_tbl := mj_w 403 (by decide +kernel) (by decide +kernel)
theorem tw400 : (Jvm.Cond.code ({ cls := "LeaseLand$Holding", name := "until", desc := "()I" } : Jvm.MethodName) prog_5_method_2_code (1 : Nat) (Option.some Jvm.ClassFile.FieldType.int)) ∈ mj_tbl := mj_w 406 (by decide +kernel) (by decide +kernel)
theorem tw11 : (Jvm.Cond.initialized "LeaseLand$Holding") ∈ mj_tbl := mj_w 17 (by decide +kernel) (by decide +kernel)
theorem tw398 : (Jvm.Cond.instanceMethod ({ cls := "LeaseLand$Holding", name := "until", desc := "()I" } : Jvm.MethodName)) ∈ mj_tbl := mj_w 404 (by decide +kernel) (by decide +kernel)
theorem tw399 : (Jvm.Cond.selects "LeaseLand$Holding" ({ cls := "LeaseLand$Holding", name := "until", desc := "()I" } : Jvm.MethodName) ({ cls := "LeaseLand$Holding", name := "until", desc := "()I" } : Jvm.MethodName)) ∈ mj_tbl := mj_w 405 (by decide +kernel) (by decide +kernel)
theorem ty_X3_until : mj_YV 3 yX3_until cX3_until 1 (some .int) 0 := ⟨⟨tw400, tw11, by decide +kernel, by decide +kernel, by decide +kernel⟩, tw398, tw399, _, rfl, rfl⟩
def rm_X3_isInForce : Room := { frames := 1, cells := 0, slots := 0, locals := 20 }
theorem dX3_isInForce_0 : decode cX3_isInForce 0 = .ok (.aload_n 0, 1) := by decide +kernel
theorem dX3_isInForce_1 : decode cX3_isInForce 1 = .ok (.getfield 22, 3) := by decide +kernel
theorem dX3_isInForce_4 : decode cX3_isInForce 4 = .ok (.iload_n 1, 1) := by decide +kernel
theorem dX3_isInForce_5 : decode cX3_isInForce 5 = .ok (.if_icmp .gt 15, 3) := by decide +kernel
theorem dX3_isInForce_8 : decode cX3_isInForce 8 = .ok (.iload_n 1, 1) := by decide +kernel
theorem dX3_isInForce_9 : decode cX3_isInForce 9 = .ok (.aload_n 0, 1) := by decide +kernel
theorem dX3_isInForce_10 : decode cX3_isInForce 10 = .ok (.invokevirtual 40, 3) := by decide +kernel
theorem dX3_isInForce_13 : decode cX3_isInForce 13 = .ok (.if_icmp .ge 7, 3) := by decide +kernel
theorem dX3_isInForce_16 : decode cX3_isInForce 16 = .ok (.iconst 1, 1) := by decide +kernel
theorem dX3_isInForce_17 : decode cX3_isInForce 17 = .ok (.goto 4, 3) := by decide +kernel
theorem dX3_isInForce_20 : decode cX3_isInForce 20 = .ok (.iconst 0, 1) := by decide +kernel
theorem dX3_isInForce_21 : decode cX3_isInForce 21 = .ok (.ireturn, 1) := by decide +kernel
def vc_X3_isInForce (l0 : Nat) (l1 : Int32) (M : mj_M) (post : Bool → mj_M → Prop) : Prop := mj_tag M l0 = 4 ∧ if l1 < (mj_i M l0 4) then (post false M) else (vc_X3_until l0 M (fun r3 M4 => if r3 ≤ l1 then (post false M4) else (post true M4)))
set_option maxHeartbeats 4000000 in
set_option maxRecDepth 100000 in
theorem ct_X3_isInForce {l : Launch} {base : Nat} {D : va_G} {A : mj_AT} (l0 : Nat) (l1 : Int32) (M : mj_M) (post : Bool → mj_M → Prop) (h : vc_X3_isInForce l0 l1 M post) : mj_Met l base D A mj_jB yX3_isInForce cX3_isInForce 2 (some .boolean) rm_X3_isInForce 0 0 [vR l0, vI l1] M post := by
  refine mj_entry (by decide +kernel) (Nat.le_of_ble_eq_true rfl) (fun g hC hE h1 h2 h3 h4 => ?_)
  show mj_X g 0 [(0, vR l0), (1, vI l1)] [] M 0 0
  simp only [vc_X3_isInForce] at h
  refine mx_aload_n (j := 0) hC dX3_isInForce_0 rfl rfl ?_
  obtain ⟨ht1, h⟩ := h
  refine mx_get (v := vI (mj_i M l0 4)) hC tf_X3_22 ht1 rfl dX3_isInForce_1 ?_
  refine mx_iload_n (j := 1) hC dX3_isInForce_4 rfl rfl ?_
  refine mx_icmpgt (tgt := 20) hC dX3_isInForce_5 (by decide) (fun hc2 => ?_) (fun hc2 => ?_)
  · replace h := mj_yy hc2 h
    refine mx_iconst (v := 0) hC dX3_isInForce_20 (by decide) ?_
    exact mx_zret (b := false) hC hE rfl dX3_isInForce_21 h
  · replace h := mj_nn hc2 h
    refine mx_iload_n (j := 1) hC dX3_isInForce_8 rfl rfl ?_
    refine mx_aload_n (j := 0) hC dX3_isInForce_9 rfl rfl ?_
    refine mx_callV (inj := mj_jI) (As := []) (st := [vI l1]) hC (ct_X3_until l0 M _ h) ty_X3_until tw397 ht1 rfl (Nat.le_of_ble_eq_true rfl) ⟨rfl, rfl, ⟨by decide, by decide⟩, by decide, by decide⟩ dX3_isInForce_10 (fun r3 M4 h => ?_)
    show mj_X g 13 [(0, vR l0), (1, vI l1)] [vI r3, vI l1] M4 0 0
    refine mx_icmpge (tgt := 20) hC dX3_isInForce_13 (by decide) (fun hc5 => ?_) (fun hc5 => ?_)
    · replace h := mj_yy hc5 h
      refine mx_iconst (v := 0) hC dX3_isInForce_20 (by decide) ?_
      exact mx_zret (b := false) hC hE rfl dX3_isInForce_21 h
    · replace h := mj_nn hc5 h
      refine mx_iconst (v := 1) hC dX3_isInForce_16 (by decide) ?_
      refine mx_goto (tgt := 21) hC dX3_isInForce_17 (by decide) ?_
      exact mx_zret (b := true) hC hE rfl dX3_isInForce_21 h
def rm_X3_hasFloor : Room := { frames := 0, cells := 0, slots := 0, locals := 0 }
theorem dX3_hasFloor_0 : decode cX3_hasFloor 0 = .ok (.aload_n 0, 1) := by decide +kernel
theorem dX3_hasFloor_1 : decode cX3_hasFloor 1 = .ok (.getfield 19, 3) := by decide +kernel
theorem dX3_hasFloor_4 : decode cX3_hasFloor 4 = .ok (.iload_n 1, 1) := by decide +kernel
theorem dX3_hasFloor_5 : decode cX3_hasFloor 5 = .ok (.ishr, 1) := by decide +kernel
theorem dX3_hasFloor_6 : decode cX3_hasFloor 6 = .ok (.iconst 1, 1) := by decide +kernel
theorem dX3_hasFloor_7 : decode cX3_hasFloor 7 = .ok (.iand, 1) := by decide +kernel
theorem dX3_hasFloor_8 : decode cX3_hasFloor 8 = .ok (.iconst 1, 1) := by decide +kernel
theorem dX3_hasFloor_9 : decode cX3_hasFloor 9 = .ok (.if_icmp .ne 7, 3) := by decide +kernel
theorem dX3_hasFloor_12 : decode cX3_hasFloor 12 = .ok (.iconst 1, 1) := by decide +kernel
theorem dX3_hasFloor_13 : decode cX3_hasFloor 13 = .ok (.goto 4, 3) := by decide +kernel
theorem dX3_hasFloor_16 : decode cX3_hasFloor 16 = .ok (.iconst 0, 1) := by decide +kernel
theorem dX3_hasFloor_17 : decode cX3_hasFloor 17 = .ok (.ireturn, 1) := by decide +kernel
def vc_X3_hasFloor (l0 : Nat) (l1 : Int32) (M : mj_M) (post : Bool → mj_M → Prop) : Prop := mj_tag M l0 = 4 ∧ if (((mj_i M l0 3) >>> (l1 &&& 31)) &&& 1) = 1 then (post true M) else (post false M)
set_option maxHeartbeats 4000000 in
set_option maxRecDepth 100000 in
theorem ct_X3_hasFloor {l : Launch} {base : Nat} {D : va_G} {A : mj_AT} (l0 : Nat) (l1 : Int32) (M : mj_M) (post : Bool → mj_M → Prop) (h : vc_X3_hasFloor l0 l1 M post) : mj_Met l base D A mj_jB yX3_hasFloor cX3_hasFloor 2 (some .boolean) rm_X3_hasFloor 0 0 [vR l0, vI l1] M post := by
  refine mj_entry (by decide +kernel) (Nat.le_of_ble_eq_true rfl) (fun g hC hE h1 h2 h3 h4 => ?_)
  show mj_X g 0 [(0, vR l0), (1, vI l1)] [] M 0 0
  simp only [vc_X3_hasFloor] at h
  refine mx_aload_n (j := 0) hC dX3_hasFloor_0 rfl rfl ?_
  obtain ⟨ht1, h⟩ := h
  refine mx_get (v := vI (mj_i M l0 3)) hC tf_X3_19 ht1 rfl dX3_hasFloor_1 ?_
  refine mx_iload_n (j := 1) hC dX3_hasFloor_4 rfl rfl ?_
  refine mx_ishr hC dX3_hasFloor_5 ?_
  refine mx_iconst (v := 1) hC dX3_hasFloor_6 (by decide) ?_
  refine mx_iand hC dX3_hasFloor_7 ?_
  refine mx_iconst (v := 1) hC dX3_hasFloor_8 (by decide) ?_
  refine mx_icmpne (tgt := 16) hC dX3_hasFloor_9 (by decide) (fun hc2 => ?_) (fun hc2 => ?_)
  · replace h := mj_nn hc2 h
    refine mx_iconst (v := 0) hC dX3_hasFloor_16 (by decide) ?_
    exact mx_zret (b := false) hC hE rfl dX3_hasFloor_17 h
  · replace h := mj_yy hc2 h
    refine mx_iconst (v := 1) hC dX3_hasFloor_12 (by decide) ?_
    refine mx_goto (tgt := 17) hC dX3_hasFloor_13 (by decide) ?_
    exact mx_zret (b := true) hC hE rfl dX3_hasFloor_17 h
def rm_X3_hasFloors : Room := { frames := 0, cells := 0, slots := 0, locals := 0 }
theorem dX3_hasFloors_0 : decode cX3_hasFloors 0 = .ok (.iload_n 1, 1) := by decide +kernel
theorem dX3_hasFloors_1 : decode cX3_hasFloors 1 = .ok (.aload_n 0, 1) := by decide +kernel
theorem dX3_hasFloors_2 : decode cX3_hasFloors 2 = .ok (.getfield 19, 3) := by decide +kernel
theorem dX3_hasFloors_5 : decode cX3_hasFloors 5 = .ok (.iconst (-1), 1) := by decide +kernel
theorem dX3_hasFloors_6 : decode cX3_hasFloors 6 = .ok (.ixor, 1) := by decide +kernel
theorem dX3_hasFloors_7 : decode cX3_hasFloors 7 = .ok (.iand, 1) := by decide +kernel
theorem dX3_hasFloors_8 : decode cX3_hasFloors 8 = .ok (.ifCond .ne 7, 3) := by decide +kernel
theorem dX3_hasFloors_11 : decode cX3_hasFloors 11 = .ok (.iconst 1, 1) := by decide +kernel
theorem dX3_hasFloors_12 : decode cX3_hasFloors 12 = .ok (.goto 4, 3) := by decide +kernel
theorem dX3_hasFloors_15 : decode cX3_hasFloors 15 = .ok (.iconst 0, 1) := by decide +kernel
theorem dX3_hasFloors_16 : decode cX3_hasFloors 16 = .ok (.ireturn, 1) := by decide +kernel
def vc_X3_hasFloors (l0 : Nat) (l1 : Int32) (M : mj_M) (post : Bool → mj_M → Prop) : Prop := mj_tag M l0 = 4 ∧ if (l1 &&& ((mj_i M l0 3) ^^^ ((-1)))) = 0 then (post true M) else (post false M)
set_option maxHeartbeats 4000000 in
set_option maxRecDepth 100000 in
theorem ct_X3_hasFloors {l : Launch} {base : Nat} {D : va_G} {A : mj_AT} (l0 : Nat) (l1 : Int32) (M : mj_M) (post : Bool → mj_M → Prop) (h : vc_X3_hasFloors l0 l1 M post) : mj_Met l base D A mj_jB yX3_hasFloors cX3_hasFloors 2 (some .boolean) rm_X3_hasFloors 0 0 [vR l0, vI l1] M post := by
  refine mj_entry (by decide +kernel) (Nat.le_of_ble_eq_true rfl) (fun g hC hE h1 h2 h3 h4 => ?_)
  show mj_X g 0 [(0, vR l0), (1, vI l1)] [] M 0 0
  simp only [vc_X3_hasFloors] at h
  refine mx_iload_n (j := 1) hC dX3_hasFloors_0 rfl rfl ?_
  refine mx_aload_n (j := 0) hC dX3_hasFloors_1 rfl rfl ?_
  obtain ⟨ht1, h⟩ := h
  refine mx_get (v := vI (mj_i M l0 3)) hC tf_X3_19 ht1 rfl dX3_hasFloors_2 ?_
  refine mx_iconst (v := (-1)) hC dX3_hasFloors_5 (by decide) ?_
  refine mx_ixor hC dX3_hasFloors_6 ?_
  refine mx_iand hC dX3_hasFloors_7 ?_
  refine mx_ifne (tgt := 15) hC dX3_hasFloors_8 (by decide) (fun hc2 => ?_) (fun hc2 => ?_)
  · replace h := mj_nn hc2 h
    refine mx_iconst (v := 0) hC dX3_hasFloors_15 (by decide) ?_
    exact mx_zret (b := false) hC hE rfl dX3_hasFloors_16 h
  · replace h := mj_yy hc2 h
    refine mx_iconst (v := 1) hC dX3_hasFloors_11 (by decide) ?_
    refine mx_goto (tgt := 16) hC dX3_hasFloors_12 (by decide) ?_
    exact mx_zret (b := true) hC hE rfl dX3_hasFloors_16 h
theorem tw409 : (Jvm.Cond.methodLink "LeaseLand$Holding" (44 : Nat) ({ cls := "java/lang/Math", name := "max", desc := "(II)I" } : Jvm.MethodName)) ∈ mj_tbl := mj_w 415 (by decide +kernel) (by decide +kernel)
theorem tw412 : (Jvm.Cond.methodLink "LeaseLand$Holding" (50 : Nat) ({ cls := "java/lang/Math", name := "min", desc := "(II)I" } : Jvm.MethodName)) ∈ mj_tbl := mj_w 418 (by decide +kernel) (by decide +kernel)
theorem tw411 : (Jvm.Cond.code ({ cls := "java/lang/Math", name := "max", desc := "(II)I" } : Jvm.MethodName) prog_18_method_65_code (2 : Nat) (Option.some Jvm.ClassFile.FieldType.int)) ∈ mj_tbl := mj_w 417 (by decide +kernel) (by decide +kernel)
theorem tw12 : (Jvm.Cond.initialized "java/lang/Math") ∈ mj_tbl := mj_w 18 (by decide +kernel) (by decide +kernel)
theorem tw410 : (Jvm.Cond.static ({ cls := "java/lang/Math", name := "max", desc := "(II)I" } : Jvm.MethodName)) ∈ mj_tbl := mj_w 416 (by decide +kernel) (by decide +kernel)
theorem ty_J9_max_7cf53 : mj_YS yJ9_max_7cf53 cJ9_max_7cf53 2 (some .int) 2 := ⟨⟨tw411, tw12, by decide +kernel, by decide +kernel, by decide +kernel⟩, tw410⟩
theorem tw414 : (Jvm.Cond.code ({ cls := "java/lang/Math", name := "min", desc := "(II)I" } : Jvm.MethodName) prog_18_method_69_code (2 : Nat) (Option.some Jvm.ClassFile.FieldType.int)) ∈ mj_tbl := mj_w 420 (by decide +kernel) (by decide +kernel)
theorem tw413 : (Jvm.Cond.static ({ cls := "java/lang/Math", name := "min", desc := "(II)I" } : Jvm.MethodName)) ∈ mj_tbl := mj_w 419 (by decide +kernel) (by decide +kernel)
theorem ty_J9_min_7cf53 : mj_YS yJ9_min_7cf53 cJ9_min_7cf53 2 (some .int) 2 := ⟨⟨tw414, tw12, by decide +kernel, by decide +kernel, by decide +kernel⟩, tw413⟩
def rm_X3_meets : Room := { frames := 1, cells := 0, slots := 0, locals := 21 }
theorem dX3_meets_0 : decode cX3_meets 0 = .ok (.aload_n 0, 1) := by decide +kernel
theorem dX3_meets_1 : decode cX3_meets 1 = .ok (.getfield 19, 3) := by decide +kernel
theorem dX3_meets_4 : decode cX3_meets 4 = .ok (.iload_n 1, 1) := by decide +kernel
theorem dX3_meets_5 : decode cX3_meets 5 = .ok (.iand, 1) := by decide +kernel
theorem dX3_meets_6 : decode cX3_meets 6 = .ok (.ifCond .eq 26, 3) := by decide +kernel
theorem dX3_meets_9 : decode cX3_meets 9 = .ok (.aload_n 0, 1) := by decide +kernel
theorem dX3_meets_10 : decode cX3_meets 10 = .ok (.getfield 22, 3) := by decide +kernel
theorem dX3_meets_13 : decode cX3_meets 13 = .ok (.iload_n 2, 1) := by decide +kernel
theorem dX3_meets_14 : decode cX3_meets 14 = .ok (.invokestatic 44, 3) := by decide +kernel
theorem dX3_meets_17 : decode cX3_meets 17 = .ok (.aload_n 0, 1) := by decide +kernel
theorem dX3_meets_18 : decode cX3_meets 18 = .ok (.invokevirtual 40, 3) := by decide +kernel
theorem dX3_meets_21 : decode cX3_meets 21 = .ok (.iload_n 3, 1) := by decide +kernel
theorem dX3_meets_22 : decode cX3_meets 22 = .ok (.invokestatic 50, 3) := by decide +kernel
theorem dX3_meets_25 : decode cX3_meets 25 = .ok (.if_icmp .ge 7, 3) := by decide +kernel
theorem dX3_meets_28 : decode cX3_meets 28 = .ok (.iconst 1, 1) := by decide +kernel
theorem dX3_meets_29 : decode cX3_meets 29 = .ok (.goto 4, 3) := by decide +kernel
theorem dX3_meets_32 : decode cX3_meets 32 = .ok (.iconst 0, 1) := by decide +kernel
theorem dX3_meets_33 : decode cX3_meets 33 = .ok (.ireturn, 1) := by decide +kernel
def vc_X3_meets (l0 : Nat) (l1 : Int32) (l2 : Int32) (l3 : Int32) (M : mj_M) (post : Bool → mj_M → Prop) : Prop := mj_tag M l0 = 4 ∧ if ((mj_i M l0 3) &&& l1) = 0 then (post false M) else (vc_J9_max_7cf53 (mj_i M l0 4) l2 M (fun r3 M4 => mj_tag M4 l0 = 4 ∧ vc_X3_until l0 M4 (fun r6 M7 => vc_J9_min_7cf53 r6 l3 M7 (fun r8 M9 => if r8 ≤ r3 then (post false M9) else (post true M9)))))
set_option maxHeartbeats 4000000 in
set_option maxRecDepth 100000 in
theorem ct_X3_meets {l : Launch} {base : Nat} {D : va_G} {A : mj_AT} (l0 : Nat) (l1 : Int32) (l2 : Int32) (l3 : Int32) (M : mj_M) (post : Bool → mj_M → Prop) (h : vc_X3_meets l0 l1 l2 l3 M post) : mj_Met l base D A mj_jB yX3_meets cX3_meets 4 (some .boolean) rm_X3_meets 0 0 [vR l0, vI l1, vI l2, vI l3] M post := by
  refine mj_entry (by decide +kernel) (Nat.le_of_ble_eq_true rfl) (fun g hC hE h1 h2 h3 h4 => ?_)
  show mj_X g 0 [(0, vR l0), (1, vI l1), (2, vI l2), (3, vI l3)] [] M 0 0
  simp only [vc_X3_meets] at h
  refine mx_aload_n (j := 0) hC dX3_meets_0 rfl rfl ?_
  obtain ⟨ht1, h⟩ := h
  refine mx_get (v := vI (mj_i M l0 3)) hC tf_X3_19 ht1 rfl dX3_meets_1 ?_
  refine mx_iload_n (j := 1) hC dX3_meets_4 rfl rfl ?_
  refine mx_iand hC dX3_meets_5 ?_
  refine mx_ifeq (tgt := 32) hC dX3_meets_6 (by decide) (fun hc2 => ?_) (fun hc2 => ?_)
  · replace h := mj_yy hc2 h
    refine mx_iconst (v := 0) hC dX3_meets_32 (by decide) ?_
    exact mx_zret (b := false) hC hE rfl dX3_meets_33 h
  · replace h := mj_nn hc2 h
    refine mx_aload_n (j := 0) hC dX3_meets_9 rfl rfl ?_
    refine mx_get (v := vI (mj_i M l0 4)) hC tf_X3_22 ht1 rfl dX3_meets_10 ?_
    refine mx_iload_n (j := 2) hC dX3_meets_13 rfl rfl ?_
    refine mx_callS (inj := mj_jI) (As := [vI (mj_i M l0 4), vI l2]) (st := []) hC (ct_J9_max_7cf53 (mj_i M l0 4) l2 M _ h) ty_J9_max_7cf53 tw409 rfl (Nat.le_of_ble_eq_true rfl) ⟨rfl, rfl, ⟨by decide, by decide⟩, by decide, by decide⟩ dX3_meets_14 (fun r3 M4 h => ?_)
    show mj_X g 17 [(0, vR l0), (1, vI l1), (2, vI l2), (3, vI l3)] [vI r3] M4 0 0
    refine mx_aload_n (j := 0) hC dX3_meets_17 rfl rfl ?_
    obtain ⟨ht5, h⟩ := h
    refine mx_callV (inj := mj_jI) (As := []) (st := [vI r3]) hC (ct_X3_until l0 M4 _ h) ty_X3_until tw397 ht5 rfl (Nat.le_of_ble_eq_true rfl) ⟨rfl, rfl, ⟨by decide, by decide⟩, by decide, by decide⟩ dX3_meets_18 (fun r6 M7 h => ?_)
    show mj_X g 21 [(0, vR l0), (1, vI l1), (2, vI l2), (3, vI l3)] [vI r6, vI r3] M7 0 0
    refine mx_iload_n (j := 3) hC dX3_meets_21 rfl rfl ?_
    refine mx_callS (inj := mj_jI) (As := [vI r6, vI l3]) (st := [vI r3]) hC (ct_J9_min_7cf53 r6 l3 M7 _ h) ty_J9_min_7cf53 tw412 rfl (Nat.le_of_ble_eq_true rfl) ⟨rfl, rfl, ⟨by decide, by decide⟩, by decide, by decide⟩ dX3_meets_22 (fun r8 M9 h => ?_)
    show mj_X g 25 [(0, vR l0), (1, vI l1), (2, vI l2), (3, vI l3)] [vI r8, vI r3] M9 0 0
    refine mx_icmpge (tgt := 32) hC dX3_meets_25 (by decide) (fun hc10 => ?_) (fun hc10 => ?_)
    · replace h := mj_yy hc10 h
      refine mx_iconst (v := 0) hC dX3_meets_32 (by decide) ?_
      exact mx_zret (b := false) hC hE rfl dX3_meets_33 h
    · replace h := mj_nn hc10 h
      refine mx_iconst (v := 1) hC dX3_meets_28 (by decide) ?_
      refine mx_goto (tgt := 33) hC dX3_meets_29 (by decide) ?_
      exact mx_zret (b := true) hC hE rfl dX3_meets_33 h
theorem tw393 : (Jvm.Cond.methodLink "LeaseLand$Holding" (53 : Nat) ({ cls := "LeaseLand$Holding", name := "hasFloors", desc := "(I)Z" } : Jvm.MethodName)) ∈ mj_tbl := mj_w 399 (by decide +kernel) (by decide +kernel)
theorem tw396 : (Jvm.Cond.code ({ cls := "LeaseLand$Holding", name := "hasFloors", desc := "(I)Z" } : Jvm.MethodName) prog_5_method_5_code (2 : Nat) (Option.some Jvm.ClassFile.FieldType.boolean)) ∈ mj_tbl := mj_w 402 (by decide +kernel) (by decide +kernel)
theorem tw394 : (Jvm.Cond.instanceMethod ({ cls := "LeaseLand$Holding", name := "hasFloors", desc := "(I)Z" } : Jvm.MethodName)) ∈ mj_tbl := mj_w 400 (by decide +kernel) (by decide +kernel)
theorem tw395 : (Jvm.Cond.selects "LeaseLand$Holding" ({ cls := "LeaseLand$Holding", name := "hasFloors", desc := "(I)Z" } : Jvm.MethodName) ({ cls := "LeaseLand$Holding", name := "hasFloors", desc := "(I)Z" } : Jvm.MethodName)) ∈ mj_tbl := mj_w 401 (by decide +kernel) (by decide +kernel)
theorem ty_X3_hasFloors : mj_YV 3 yX3_hasFloors cX3_hasFloors 2 (some .boolean) 1 := ⟨⟨tw396, tw11, by decide +kernel, by decide +kernel, by decide +kernel⟩, tw394, tw395, _, rfl, rfl⟩
def rm_X3_holds : Room := { frames := 1, cells := 0, slots := 0, locals := 21 }
theorem dX3_holds_0 : decode cX3_holds 0 = .ok (.aload_n 0, 1) := by decide +kernel
theorem dX3_holds_1 : decode cX3_holds 1 = .ok (.iload_n 1, 1) := by decide +kernel
theorem dX3_holds_2 : decode cX3_holds 2 = .ok (.invokevirtual 53, 3) := by decide +kernel
theorem dX3_holds_5 : decode cX3_holds 5 = .ok (.ifCond .eq 23, 3) := by decide +kernel
theorem dX3_holds_8 : decode cX3_holds 8 = .ok (.aload_n 0, 1) := by decide +kernel
theorem dX3_holds_9 : decode cX3_holds 9 = .ok (.getfield 22, 3) := by decide +kernel
theorem dX3_holds_12 : decode cX3_holds 12 = .ok (.iload_n 2, 1) := by decide +kernel
theorem dX3_holds_13 : decode cX3_holds 13 = .ok (.if_icmp .gt 15, 3) := by decide +kernel
theorem dX3_holds_16 : decode cX3_holds 16 = .ok (.iload_n 3, 1) := by decide +kernel
theorem dX3_holds_17 : decode cX3_holds 17 = .ok (.aload_n 0, 1) := by decide +kernel
theorem dX3_holds_18 : decode cX3_holds 18 = .ok (.invokevirtual 40, 3) := by decide +kernel
theorem dX3_holds_21 : decode cX3_holds 21 = .ok (.if_icmp .gt 7, 3) := by decide +kernel
theorem dX3_holds_24 : decode cX3_holds 24 = .ok (.iconst 1, 1) := by decide +kernel
theorem dX3_holds_25 : decode cX3_holds 25 = .ok (.goto 4, 3) := by decide +kernel
theorem dX3_holds_28 : decode cX3_holds 28 = .ok (.iconst 0, 1) := by decide +kernel
theorem dX3_holds_29 : decode cX3_holds 29 = .ok (.ireturn, 1) := by decide +kernel
def vc_X3_holds (l0 : Nat) (l1 : Int32) (l2 : Int32) (l3 : Int32) (M : mj_M) (post : Bool → mj_M → Prop) : Prop := mj_tag M l0 = 4 ∧ vc_X3_hasFloors l0 l1 M (fun r2 M3 => if r2 = true then (mj_tag M3 l0 = 4 ∧ if l2 < (mj_i M3 l0 4) then (post false M3) else (vc_X3_until l0 M3 (fun r7 M8 => if r7 < l3 then (post false M8) else (post true M8)))) else (post false M3))
set_option maxHeartbeats 4000000 in
set_option maxRecDepth 100000 in
theorem ct_X3_holds {l : Launch} {base : Nat} {D : va_G} {A : mj_AT} (l0 : Nat) (l1 : Int32) (l2 : Int32) (l3 : Int32) (M : mj_M) (post : Bool → mj_M → Prop) (h : vc_X3_holds l0 l1 l2 l3 M post) : mj_Met l base D A mj_jB yX3_holds cX3_holds 4 (some .boolean) rm_X3_holds 0 0 [vR l0, vI l1, vI l2, vI l3] M post := by
  refine mj_entry (by decide +kernel) (Nat.le_of_ble_eq_true rfl) (fun g hC hE h1 h2 h3 h4 => ?_)
  show mj_X g 0 [(0, vR l0), (1, vI l1), (2, vI l2), (3, vI l3)] [] M 0 0
  simp only [vc_X3_holds] at h
  refine mx_aload_n (j := 0) hC dX3_holds_0 rfl rfl ?_
  refine mx_iload_n (j := 1) hC dX3_holds_1 rfl rfl ?_
  obtain ⟨ht1, h⟩ := h
  refine mx_callV (inj := mj_jB) (As := [vI l1]) (st := []) hC (ct_X3_hasFloors l0 l1 M _ h) ty_X3_hasFloors tw393 ht1 rfl (Nat.le_of_ble_eq_true rfl) ⟨rfl, rfl, ⟨by decide, by decide⟩, by decide, by decide⟩ dX3_holds_2 (fun r2 M3 h => ?_)
  show mj_X g 5 [(0, vR l0), (1, vI l1), (2, vI l2), (3, vI l3)] [vI (mj_b r2)] M3 0 0
  refine mx_ifeqB (tgt := 28) hC dX3_holds_5 (by decide) (fun hc4 => ?_) (fun hc4 => ?_)
  · replace h := mj_nn hc4 h
    refine mx_iconst (v := 0) hC dX3_holds_28 (by decide) ?_
    exact mx_zret (b := false) hC hE rfl dX3_holds_29 h
  · replace h := mj_yy hc4 h
    refine mx_aload_n (j := 0) hC dX3_holds_8 rfl rfl ?_
    obtain ⟨ht5, h⟩ := h
    refine mx_get (v := vI (mj_i M3 l0 4)) hC tf_X3_22 ht5 rfl dX3_holds_9 ?_
    refine mx_iload_n (j := 2) hC dX3_holds_12 rfl rfl ?_
    refine mx_icmpgt (tgt := 28) hC dX3_holds_13 (by decide) (fun hc6 => ?_) (fun hc6 => ?_)
    · replace h := mj_yy hc6 h
      refine mx_iconst (v := 0) hC dX3_holds_28 (by decide) ?_
      exact mx_zret (b := false) hC hE rfl dX3_holds_29 h
    · replace h := mj_nn hc6 h
      refine mx_iload_n (j := 3) hC dX3_holds_16 rfl rfl ?_
      refine mx_aload_n (j := 0) hC dX3_holds_17 rfl rfl ?_
      refine mx_callV (inj := mj_jI) (As := []) (st := [vI l3]) hC (ct_X3_until l0 M3 _ h) ty_X3_until tw397 ht5 rfl (Nat.le_of_ble_eq_true rfl) ⟨rfl, rfl, ⟨by decide, by decide⟩, by decide, by decide⟩ dX3_holds_18 (fun r7 M8 h => ?_)
      show mj_X g 21 [(0, vR l0), (1, vI l1), (2, vI l2), (3, vI l3)] [vI r7, vI l3] M8 0 0
      refine mx_icmpgt (tgt := 28) hC dX3_holds_21 (by decide) (fun hc9 => ?_) (fun hc9 => ?_)
      · replace h := mj_yy hc9 h
        refine mx_iconst (v := 0) hC dX3_holds_28 (by decide) ?_
        exact mx_zret (b := false) hC hE rfl dX3_holds_29 h
      · replace h := mj_nn hc9 h
        refine mx_iconst (v := 1) hC dX3_holds_24 (by decide) ?_
        refine mx_goto (tgt := 29) hC dX3_holds_25 (by decide) ?_
        exact mx_zret (b := true) hC hE rfl dX3_holds_29 h
def rm_X3_depth : Room := { frames := 0, cells := 0, slots := 0, locals := 0 }
theorem dX3_depth_0 : decode cX3_depth 0 = .ok (.iconst 0, 1) := by decide +kernel
theorem dX3_depth_1 : decode cX3_depth 1 = .ok (.istore_n 1, 1) := by decide +kernel
theorem dX3_depth_2 : decode cX3_depth 2 = .ok (.aload_n 0, 1) := by decide +kernel
theorem dX3_depth_3 : decode cX3_depth 3 = .ok (.getfield 15, 3) := by decide +kernel
theorem dX3_depth_6 : decode cX3_depth 6 = .ok (.astore_n 2, 1) := by decide +kernel
theorem dX3_depth_7 : decode cX3_depth 7 = .ok (.aload_n 2, 1) := by decide +kernel
theorem dX3_depth_8 : decode cX3_depth 8 = .ok (.ifnull 14, 3) := by decide +kernel
theorem dX3_depth_11 : decode cX3_depth 11 = .ok (.iinc 1 1, 3) := by decide +kernel
theorem dX3_depth_14 : decode cX3_depth 14 = .ok (.aload_n 2, 1) := by decide +kernel
theorem dX3_depth_15 : decode cX3_depth 15 = .ok (.getfield 15, 3) := by decide +kernel
theorem dX3_depth_18 : decode cX3_depth 18 = .ok (.astore_n 2, 1) := by decide +kernel
theorem dX3_depth_19 : decode cX3_depth 19 = .ok (.goto (-12), 3) := by decide +kernel
theorem dX3_depth_22 : decode cX3_depth 22 = .ok (.iload_n 1, 1) := by decide +kernel
theorem dX3_depth_23 : decode cX3_depth 23 = .ok (.ireturn, 1) := by decide +kernel
def vb_X3_depth_7 (post : Int32 → mj_M → Prop) : Nat → Int32 → Nat → mj_M → Prop
  | 0 => fun _ _ _ => False
  | f + 1 => fun l1 l2 M => if l2 = 0 then (post l1 M) else (mj_tag M l2 = 4 ∧ vb_X3_depth_7 post f (l1 + 1) (mj_r M l2 2) M)
def vc_X3_depth (l0 : Nat) (M : mj_M) (post : Int32 → mj_M → Prop) : Prop := mj_tag M l0 = 4 ∧ vb_X3_depth_7 post 60 0 (mj_r M l0 2) M
set_option maxHeartbeats 4000000 in
set_option maxRecDepth 100000 in
theorem xb_X3_depth_7 {g : mj_G} {post : Int32 → mj_M → Prop} (hC : mj_C g yX3_depth cX3_depth 3 (some .int) rm_X3_depth) (hE : mj_E g mj_jI post 0 0) : ∀ (f : Nat) (l1 : Int32) (l2 : Nat) (M : mj_M), vb_X3_depth_7 post f l1 l2 M → mj_X g 7 [(1, vI l1), (2, vR l2)] [] M 0 0 := by
  intro f
  induction f with
  | zero => exact fun _ _ _ h => absurd h (fun z => z)
  | succ f ih =>
    intro l1 l2 M h
    simp only [vb_X3_depth_7] at h
    refine mx_aload_n (j := 1) hC dX3_depth_7 rfl rfl ?_
    refine mx_ifnull (tgt := 22) hC dX3_depth_8 (by decide) (fun hc1 => ?_) (fun hc1 => ?_)
    · replace h := mj_yy hc1 h
      refine mx_iload_n (j := 0) hC dX3_depth_22 rfl rfl ?_
      exact mx_iret hC hE rfl dX3_depth_23 h
    · replace h := mj_nn hc1 h
      refine mx_iinc (j := 0) (v := l1 + 1) (L' := [(1, vI (l1 + 1)), (2, vR l2)]) hC dX3_depth_11 rfl rfl (by decide) rfl ?_
      refine mx_aload_n (j := 1) hC dX3_depth_14 rfl rfl ?_
      obtain ⟨ht2, h⟩ := h
      refine mx_get (v := vR (mj_r M l2 2)) hC tf_X3_15 ht2 rfl dX3_depth_15 ?_
      refine mx_astore_n (L' := [(2, vR (mj_r M l2 2)), (1, vI (l1 + 1))]) hC dX3_depth_18 rfl (by decide) rfl ?_
      refine mx_goto (tgt := 7) hC dX3_depth_19 (by decide) ?_
      refine mx_sub (L' := [(1, vI (l1 + 1)), (2, vR (mj_r M l2 2))]) [1, 0] rfl ?_
      exact show mj_X g 7 [(1, vI (l1 + 1)), (2, vR (mj_r M l2 2))] [] M 0 0 from (ih (l1 + 1) (mj_r M l2 2) M h)
set_option maxHeartbeats 4000000 in
set_option maxRecDepth 100000 in
theorem ct_X3_depth {l : Launch} {base : Nat} {D : va_G} {A : mj_AT} (l0 : Nat) (M : mj_M) (post : Int32 → mj_M → Prop) (h : vc_X3_depth l0 M post) : mj_Met l base D A mj_jI yX3_depth cX3_depth 3 (some .int) rm_X3_depth 0 0 [vR l0] M post := by
  refine mj_entry (by decide +kernel) (Nat.le_of_ble_eq_true rfl) (fun g hC hE h1 h2 h3 h4 => ?_)
  show mj_X g 0 [(0, vR l0)] [] M 0 0
  simp only [vc_X3_depth] at h
  refine mx_iconst (v := 0) hC dX3_depth_0 (by decide) ?_
  refine mx_istore_n (L' := [(1, vI 0), (0, vR l0)]) hC dX3_depth_1 rfl (by decide) rfl ?_
  refine mx_aload_n (j := 1) hC dX3_depth_2 rfl rfl ?_
  obtain ⟨ht3, h⟩ := h
  refine mx_get (v := vR (mj_r M l0 2)) hC tf_X3_15 ht3 rfl dX3_depth_3 ?_
  refine mx_astore_n (L' := [(2, vR (mj_r M l0 2)), (1, vI 0), (0, vR l0)]) hC dX3_depth_6 rfl (by decide) rfl ?_
  refine mx_sub (L' := [(1, vI 0), (2, vR (mj_r M l0 2))]) [1, 0] rfl ?_
  exact show mj_X g 7 [(1, vI 0), (2, vR (mj_r M l0 2))] [] M 0 0 from (xb_X3_depth_7 hC hE 60 0 (mj_r M l0 2) M h)
theorem tw331 : (Jvm.Cond.fieldLink "LeaseLand$Holding" (60 : Nat) "LeaseLand$Holding" "doubles" "I") ∈ mj_tbl := mj_w 337 (by decide +kernel) (by decide +kernel)
theorem tf_X3_60 : mj_F 3 11 .int false "LeaseLand$Holding" 60 := ⟨_, tk3, by decide, rfl, rfl, rfl, tw331⟩
theorem tw328 : (Jvm.Cond.fieldLink "LeaseLand$Holding" (63 : Nat) "LeaseLand$Holding" "amount" "I") ∈ mj_tbl := mj_w 334 (by decide +kernel) (by decide +kernel)
theorem tf_X3_63 : mj_F 3 10 .int false "LeaseLand$Holding" 63 := ⟨_, tk3, by decide, rfl, rfl, rfl, tw328⟩
theorem tw681 : (Jvm.Cond.methodLink "LeaseLand$Holding" (57 : Nat) ({ cls := "LeaseLand$Holding", name := "isInForce", desc := "(I)Z" } : Jvm.MethodName)) ∈ mj_tbl := mj_w 687 (by decide +kernel) (by decide +kernel)
theorem tw442 : (Jvm.Cond.code ({ cls := "LeaseLand$Holding", name := "isInForce", desc := "(I)Z" } : Jvm.MethodName) prog_5_method_3_code (2 : Nat) (Option.some Jvm.ClassFile.FieldType.boolean)) ∈ mj_tbl := mj_w 448 (by decide +kernel) (by decide +kernel)
theorem tw440 : (Jvm.Cond.instanceMethod ({ cls := "LeaseLand$Holding", name := "isInForce", desc := "(I)Z" } : Jvm.MethodName)) ∈ mj_tbl := mj_w 446 (by decide +kernel) (by decide +kernel)
theorem tw441 : (Jvm.Cond.selects "LeaseLand$Holding" ({ cls := "LeaseLand$Holding", name := "isInForce", desc := "(I)Z" } : Jvm.MethodName) ({ cls := "LeaseLand$Holding", name := "isInForce", desc := "(I)Z" } : Jvm.MethodName)) ∈ mj_tbl := mj_w 447 (by decide +kernel) (by decide +kernel)
theorem ty_X3_isInForce : mj_YV 3 yX3_isInForce cX3_isInForce 2 (some .boolean) 1 := ⟨⟨tw442, tw11, by decide +kernel, by decide +kernel, by decide +kernel⟩, tw440, tw441, _, rfl, rfl⟩
def rm_X3_rateOn : Room := { frames := 2, cells := 0, slots := 0, locals := 41 }
theorem dX3_rateOn_0 : decode cX3_rateOn 0 = .ok (.aload_n 0, 1) := by decide +kernel
theorem dX3_rateOn_1 : decode cX3_rateOn 1 = .ok (.iload_n 1, 1) := by decide +kernel
theorem dX3_rateOn_2 : decode cX3_rateOn 2 = .ok (.invokevirtual 57, 3) := by decide +kernel
theorem dX3_rateOn_5 : decode cX3_rateOn 5 = .ok (.ifCond .ne 5, 3) := by decide +kernel
theorem dX3_rateOn_8 : decode cX3_rateOn 8 = .ok (.iconst 0, 1) := by decide +kernel
theorem dX3_rateOn_9 : decode cX3_rateOn 9 = .ok (.ireturn, 1) := by decide +kernel
theorem dX3_rateOn_10 : decode cX3_rateOn 10 = .ok (.aload_n 0, 1) := by decide +kernel
theorem dX3_rateOn_11 : decode cX3_rateOn 11 = .ok (.getfield 60, 3) := by decide +kernel
theorem dX3_rateOn_14 : decode cX3_rateOn 14 = .ok (.ifCond .gt 7, 3) := by decide +kernel
theorem dX3_rateOn_17 : decode cX3_rateOn 17 = .ok (.iconst 0, 1) := by decide +kernel
theorem dX3_rateOn_18 : decode cX3_rateOn 18 = .ok (.goto 23, 3) := by decide +kernel
theorem dX3_rateOn_21 : decode cX3_rateOn 21 = .ok (.bipush 10, 2) := by decide +kernel
theorem dX3_rateOn_23 : decode cX3_rateOn 23 = .ok (.iload_n 1, 1) := by decide +kernel
theorem dX3_rateOn_24 : decode cX3_rateOn 24 = .ok (.aload_n 0, 1) := by decide +kernel
theorem dX3_rateOn_25 : decode cX3_rateOn 25 = .ok (.getfield 22, 3) := by decide +kernel
theorem dX3_rateOn_28 : decode cX3_rateOn 28 = .ok (.isub, 1) := by decide +kernel
theorem dX3_rateOn_29 : decode cX3_rateOn 29 = .ok (.aload_n 0, 1) := by decide +kernel
theorem dX3_rateOn_30 : decode cX3_rateOn 30 = .ok (.getfield 60, 3) := by decide +kernel
theorem dX3_rateOn_33 : decode cX3_rateOn 33 = .ok (.sipush 365, 3) := by decide +kernel
theorem dX3_rateOn_36 : decode cX3_rateOn 36 = .ok (.imul, 1) := by decide +kernel
theorem dX3_rateOn_37 : decode cX3_rateOn 37 = .ok (.idiv, 1) := by decide +kernel
theorem dX3_rateOn_38 : decode cX3_rateOn 38 = .ok (.invokestatic 50, 3) := by decide +kernel
theorem dX3_rateOn_41 : decode cX3_rateOn 41 = .ok (.istore_n 2, 1) := by decide +kernel
theorem dX3_rateOn_42 : decode cX3_rateOn 42 = .ok (.aload_n 0, 1) := by decide +kernel
theorem dX3_rateOn_43 : decode cX3_rateOn 43 = .ok (.getfield 63, 3) := by decide +kernel
theorem dX3_rateOn_46 : decode cX3_rateOn 46 = .ok (.iload_n 2, 1) := by decide +kernel
theorem dX3_rateOn_47 : decode cX3_rateOn 47 = .ok (.ishl, 1) := by decide +kernel
theorem dX3_rateOn_48 : decode cX3_rateOn 48 = .ok (.ireturn, 1) := by decide +kernel
def vc_X3_rateOn (l0 : Nat) (l1 : Int32) (M : mj_M) (post : Int32 → mj_M → Prop) : Prop := mj_tag M l0 = 4 ∧ vc_X3_isInForce l0 l1 M (fun r2 M3 => if r2 = true then (mj_tag M3 l0 = 4 ∧ if 0 < (mj_i M3 l0 11) then ((¬ ((mj_i M3 l0 11) * 365) = 0) ∧ vc_J9_min_7cf53 10 ((l1 - (mj_i M3 l0 4)) / ((mj_i M3 l0 11) * 365)) M3 (fun r8 M9 => mj_tag M9 l0 = 4 ∧ post ((mj_i M9 l0 10) <<< (r8 &&& 31)) M9)) else (post ((mj_i M3 l0 10) <<< (0 &&& 31)) M3)) else (post 0 M3))
set_option maxHeartbeats 4000000 in
set_option maxRecDepth 100000 in
theorem ct_X3_rateOn {l : Launch} {base : Nat} {D : va_G} {A : mj_AT} (l0 : Nat) (l1 : Int32) (M : mj_M) (post : Int32 → mj_M → Prop) (h : vc_X3_rateOn l0 l1 M post) : mj_Met l base D A mj_jI yX3_rateOn cX3_rateOn 3 (some .int) rm_X3_rateOn 0 0 [vR l0, vI l1] M post := by
  refine mj_entry (by decide +kernel) (Nat.le_of_ble_eq_true rfl) (fun g hC hE h1 h2 h3 h4 => ?_)
  show mj_X g 0 [(0, vR l0), (1, vI l1)] [] M 0 0
  simp only [vc_X3_rateOn] at h
  refine mx_aload_n (j := 0) hC dX3_rateOn_0 rfl rfl ?_
  refine mx_iload_n (j := 1) hC dX3_rateOn_1 rfl rfl ?_
  obtain ⟨ht1, h⟩ := h
  refine mx_callV (inj := mj_jB) (As := [vI l1]) (st := []) hC (ct_X3_isInForce l0 l1 M _ h) ty_X3_isInForce tw681 ht1 rfl (Nat.le_of_ble_eq_true rfl) ⟨rfl, rfl, ⟨by decide, by decide⟩, by decide, by decide⟩ dX3_rateOn_2 (fun r2 M3 h => ?_)
  show mj_X g 5 [(0, vR l0), (1, vI l1)] [vI (mj_b r2)] M3 0 0
  refine mx_ifneB (tgt := 10) hC dX3_rateOn_5 (by decide) (fun hc4 => ?_) (fun hc4 => ?_)
  · replace h := mj_yy hc4 h
    refine mx_aload_n (j := 0) hC dX3_rateOn_10 rfl rfl ?_
    obtain ⟨ht5, h⟩ := h
    refine mx_get (v := vI (mj_i M3 l0 11)) hC tf_X3_60 ht5 rfl dX3_rateOn_11 ?_
    refine mx_ifgt (tgt := 21) hC dX3_rateOn_14 (by decide) (fun hc6 => ?_) (fun hc6 => ?_)
    · replace h := mj_yy hc6 h
      refine mx_bipush (v := 10) hC dX3_rateOn_21 (by decide) ?_
      refine mx_iload_n (j := 1) hC dX3_rateOn_23 rfl rfl ?_
      refine mx_aload_n (j := 0) hC dX3_rateOn_24 rfl rfl ?_
      refine mx_get (v := vI (mj_i M3 l0 4)) hC tf_X3_22 ht5 rfl dX3_rateOn_25 ?_
      refine mx_isub hC dX3_rateOn_28 ?_
      refine mx_aload_n (j := 0) hC dX3_rateOn_29 rfl rfl ?_
      refine mx_get (v := vI (mj_i M3 l0 11)) hC tf_X3_60 ht5 rfl dX3_rateOn_30 ?_
      refine mx_sipush (v := 365) hC dX3_rateOn_33 (by decide) ?_
      refine mx_imul hC dX3_rateOn_36 ?_
      obtain ⟨hz7, h⟩ := h
      refine mx_idiv hC dX3_rateOn_37 hz7 ?_
      refine mx_callS (inj := mj_jI) (As := [vI 10, vI ((l1 - (mj_i M3 l0 4)) / ((mj_i M3 l0 11) * 365))]) (st := []) hC (ct_J9_min_7cf53 10 ((l1 - (mj_i M3 l0 4)) / ((mj_i M3 l0 11) * 365)) M3 _ h) ty_J9_min_7cf53 tw412 rfl (Nat.le_of_ble_eq_true rfl) ⟨rfl, rfl, ⟨by decide, by decide⟩, by decide, by decide⟩ dX3_rateOn_38 (fun r8 M9 h => ?_)
      show mj_X g 41 [(0, vR l0), (1, vI l1)] [vI r8] M9 0 0
      refine mx_istore_n (L' := [(2, vI r8), (0, vR l0), (1, vI l1)]) hC dX3_rateOn_41 rfl (by decide) rfl ?_
      refine mx_aload_n (j := 1) hC dX3_rateOn_42 rfl rfl ?_
      obtain ⟨ht10, h⟩ := h
      refine mx_get (v := vI (mj_i M9 l0 10)) hC tf_X3_63 ht10 rfl dX3_rateOn_43 ?_
      refine mx_iload_n (j := 0) hC dX3_rateOn_46 rfl rfl ?_
      refine mx_ishl hC dX3_rateOn_47 ?_
      exact mx_iret hC hE rfl dX3_rateOn_48 h
    · replace h := mj_nn hc6 h
      refine mx_iconst (v := 0) hC dX3_rateOn_17 (by decide) ?_
      refine mx_goto (tgt := 41) hC dX3_rateOn_18 (by decide) ?_
      refine mx_istore_n (L' := [(2, vI 0), (0, vR l0), (1, vI l1)]) hC dX3_rateOn_41 rfl (by decide) rfl ?_
      refine mx_aload_n (j := 1) hC dX3_rateOn_42 rfl rfl ?_
      refine mx_get (v := vI (mj_i M3 l0 10)) hC tf_X3_63 ht5 rfl dX3_rateOn_43 ?_
      refine mx_iload_n (j := 0) hC dX3_rateOn_46 rfl rfl ?_
      refine mx_ishl hC dX3_rateOn_47 ?_
      exact mx_iret hC hE rfl dX3_rateOn_48 h
  · replace h := mj_nn hc4 h
    refine mx_iconst (v := 0) hC dX3_rateOn_8 (by decide) ?_
    exact mx_iret hC hE rfl dX3_rateOn_9 h
theorem tw750 : (Jvm.Cond.fieldLink "LeaseLand$Notice" (15 : Nat) "LeaseLand$Notice" "number" "I") ∈ mj_tbl := mj_w 756 (by decide +kernel) (by decide +kernel)
theorem tk6 : mj_KC 6 (RX6, TX6, 7, tyX6) := ⟨rfl, fun w hw => List.mem_filter.mpr ⟨(goodIn_r (big := lw_tbl) (u_ws RX6 TX6 7) [770, 772, 774, 776, 778, 780, 782] (by decide +kernel) (by decide +kernel) w hw).1, List.all_eq_true.mp (show (u_ws RX6 TX6 7).all goodWord = true by decide +kernel) w hw⟩, tyX6_ok, nmX6, by decide⟩
theorem tf_X6_15 : mj_F 6 0 .int true "LeaseLand$Notice" 15 := ⟨_, tk6, by decide, rfl, rfl, rfl, tw750⟩
theorem tw752 : (Jvm.Cond.fieldLink "LeaseLand$Notice" (18 : Nat) "LeaseLand$Notice" "giver" "LLeaseLand$Holding;") ∈ mj_tbl := mj_w 758 (by decide +kernel) (by decide +kernel)
theorem tf_X6_18 : mj_F 6 1 (.object "LeaseLand$Holding") true "LeaseLand$Notice" 18 := ⟨_, tk6, by decide, rfl, rfl, rfl, tw752⟩
theorem tw755 : (Jvm.Cond.fieldLink "LeaseLand$Notice" (22 : Nat) "LeaseLand$Notice" "kind" "I") ∈ mj_tbl := mj_w 761 (by decide +kernel) (by decide +kernel)
theorem tf_X6_22 : mj_F 6 2 .int true "LeaseLand$Notice" 22 := ⟨_, tk6, by decide, rfl, rfl, rfl, tw755⟩
theorem tw758 : (Jvm.Cond.fieldLink "LeaseLand$Notice" (25 : Nat) "LeaseLand$Notice" "day" "I") ∈ mj_tbl := mj_w 764 (by decide +kernel) (by decide +kernel)
theorem tf_X6_25 : mj_F 6 3 .int true "LeaseLand$Notice" 25 := ⟨_, tk6, by decide, rfl, rfl, rfl, tw758⟩
theorem tw759 : (Jvm.Cond.fieldLink "LeaseLand$Notice" (9 : Nat) "LeaseLand$Notice" "standing" "I") ∈ mj_tbl := mj_w 765 (by decide +kernel) (by decide +kernel)
theorem tf_X6_9 : mj_F 6 4 .int false "LeaseLand$Notice" 9 := ⟨_, tk6, by decide, rfl, rfl, rfl, tw759⟩
theorem tw749 : (Jvm.Cond.methodLink "LeaseLand$Notice" (3 : Nat) ({ cls := "java/lang/Object", name := "<init>", desc := "()V" } : Jvm.MethodName)) ∈ mj_tbl := mj_w 755 (by decide +kernel) (by decide +kernel)
def rm_X6_init : Room := { frames := 1, cells := 0, slots := 0, locals := 20 }
theorem dX6_init_0 : decode cX6_init 0 = .ok (.aload_n 0, 1) := by decide +kernel
theorem dX6_init_1 : decode cX6_init 1 = .ok (.invokespecial 3, 3) := by decide +kernel
theorem dX6_init_4 : decode cX6_init 4 = .ok (.aload_n 0, 1) := by decide +kernel
theorem dX6_init_5 : decode cX6_init 5 = .ok (.iconst 0, 1) := by decide +kernel
theorem dX6_init_6 : decode cX6_init 6 = .ok (.putfield 9, 3) := by decide +kernel
theorem dX6_init_9 : decode cX6_init 9 = .ok (.aload_n 0, 1) := by decide +kernel
theorem dX6_init_10 : decode cX6_init 10 = .ok (.iload_n 1, 1) := by decide +kernel
theorem dX6_init_11 : decode cX6_init 11 = .ok (.putfield 15, 3) := by decide +kernel
theorem dX6_init_14 : decode cX6_init 14 = .ok (.aload_n 0, 1) := by decide +kernel
theorem dX6_init_15 : decode cX6_init 15 = .ok (.aload_n 2, 1) := by decide +kernel
theorem dX6_init_16 : decode cX6_init 16 = .ok (.putfield 18, 3) := by decide +kernel
theorem dX6_init_19 : decode cX6_init 19 = .ok (.aload_n 0, 1) := by decide +kernel
theorem dX6_init_20 : decode cX6_init 20 = .ok (.iload_n 3, 1) := by decide +kernel
theorem dX6_init_21 : decode cX6_init 21 = .ok (.putfield 22, 3) := by decide +kernel
theorem dX6_init_24 : decode cX6_init 24 = .ok (.aload_n 0, 1) := by decide +kernel
theorem dX6_init_25 : decode cX6_init 25 = .ok (.iload 4, 2) := by decide +kernel
theorem dX6_init_27 : decode cX6_init 27 = .ok (.putfield 25, 3) := by decide +kernel
theorem dX6_init_30 : decode cX6_init 30 = .ok (.return_, 1) := by decide +kernel
def vc_X6_init (l0 : Nat) (l1 : Int32) (l2 : Nat) (l3 : Int32) (l4 : Int32) (M : mj_M) (post : Unit → mj_M → Prop) : Prop := (¬ l0 = 0) ∧ mj_tag M l0 = 7 ∧ post () (mj_wi (mj_wi (mj_wr (mj_wi (mj_wi M l0 4 0) l0 0 l1) l0 1 l2) l0 2 l3) l0 3 l4)
set_option maxHeartbeats 4000000 in
set_option maxRecDepth 100000 in
theorem ct_X6_init {l : Launch} {base : Nat} {D : va_G} {A : mj_AT} (l0 : Nat) (l1 : Int32) (l2 : Nat) (l3 : Int32) (l4 : Int32) (M : mj_M) (post : Unit → mj_M → Prop) (h : vc_X6_init l0 l1 l2 l3 l4 M post) : mj_Met l base D A mj_jV yX6_init cX6_init 5 (none) rm_X6_init 0 0 [vR l0, vI l1, vR l2, vI l3, vI l4] M post := by
  refine mj_entry (by decide +kernel) (Nat.le_of_ble_eq_true rfl) (fun g hC hE h1 h2 h3 h4 => ?_)
  show mj_X g 0 [(0, vR l0), (1, vI l1), (2, vR l2), (3, vI l3), (4, vI l4)] [] M 0 0
  simp only [vc_X6_init] at h
  refine mx_aload_n (j := 0) hC dX6_init_0 rfl rfl ?_
  obtain ⟨hn1, h⟩ := h
  refine mx_oinit hC tw749 tw_oi tw_oc hn1 (Nat.le_of_ble_eq_true rfl) ⟨by decide, by decide⟩ dX6_init_1 ?_
  refine mx_aload_n (j := 0) hC dX6_init_4 rfl rfl ?_
  refine mx_iconst (v := 0) hC dX6_init_5 (by decide) ?_
  obtain ⟨ht2, h⟩ := h
  refine mx_put (v := vI 0) (M1 := mj_wi M l0 4 0) hC tf_X6_9 ht2 (Or.inl rfl) ⟨rfl, rfl⟩ (mj_off_wi _ _ _ _) mj_put_wi dX6_init_6 ?_
  refine mx_aload_n (j := 0) hC dX6_init_9 rfl rfl ?_
  refine mx_iload_n (j := 1) hC dX6_init_10 rfl rfl ?_
  refine mx_put (v := vI l1) (M1 := mj_wi (mj_wi M l0 4 0) l0 0 l1) hC tf_X6_15 ht2 (Or.inr ⟨rfl, rfl⟩) ⟨rfl, rfl⟩ (mj_off_wi _ _ _ _) mj_put_wi dX6_init_11 ?_
  refine mx_aload_n (j := 0) hC dX6_init_14 rfl rfl ?_
  refine mx_aload_n (j := 2) hC dX6_init_15 rfl rfl ?_
  refine mx_put (v := vR l2) (M1 := mj_wr (mj_wi (mj_wi M l0 4 0) l0 0 l1) l0 1 l2) hC tf_X6_18 ht2 (Or.inr ⟨rfl, rfl⟩) (mj_fitR l2 _) (mj_off_wr _ _ _ _) mj_put_wr dX6_init_16 ?_
  refine mx_aload_n (j := 0) hC dX6_init_19 rfl rfl ?_
  refine mx_iload_n (j := 3) hC dX6_init_20 rfl rfl ?_
  refine mx_put (v := vI l3) (M1 := mj_wi (mj_wr (mj_wi (mj_wi M l0 4 0) l0 0 l1) l0 1 l2) l0 2 l3) hC tf_X6_22 ht2 (Or.inr ⟨rfl, rfl⟩) ⟨rfl, rfl⟩ (mj_off_wi _ _ _ _) mj_put_wi dX6_init_21 ?_
  refine mx_aload_n (j := 0) hC dX6_init_24 rfl rfl ?_
  refine mx_iload (j := 4) hC dX6_init_25 rfl ?_
  refine mx_put (v := vI l4) (M1 := mj_wi (mj_wi (mj_wr (mj_wi (mj_wi M l0 4 0) l0 0 l1) l0 1 l2) l0 2 l3) l0 3 l4) hC tf_X6_25 ht2 (Or.inr ⟨rfl, rfl⟩) ⟨rfl, rfl⟩ (mj_off_wi _ _ _ _) mj_put_wi dX6_init_27 ?_
  exact mx_vret hC hE rfl dX6_init_30 h
def rm_X6_standingOn : Room := { frames := 0, cells := 0, slots := 0, locals := 0 }
theorem dX6_standingOn_0 : decode cX6_standingOn 0 = .ok (.aload_n 0, 1) := by decide +kernel
theorem dX6_standingOn_1 : decode cX6_standingOn 1 = .ok (.getfield 9, 3) := by decide +kernel
theorem dX6_standingOn_4 : decode cX6_standingOn 4 = .ok (.ifCond .ne 18, 3) := by decide +kernel
theorem dX6_standingOn_7 : decode cX6_standingOn 7 = .ok (.iload_n 1, 1) := by decide +kernel
theorem dX6_standingOn_8 : decode cX6_standingOn 8 = .ok (.aload_n 0, 1) := by decide +kernel
theorem dX6_standingOn_9 : decode cX6_standingOn 9 = .ok (.getfield 25, 3) := by decide +kernel
theorem dX6_standingOn_12 : decode cX6_standingOn 12 = .ok (.isub, 1) := by decide +kernel
theorem dX6_standingOn_13 : decode cX6_standingOn 13 = .ok (.bipush 60, 2) := by decide +kernel
theorem dX6_standingOn_15 : decode cX6_standingOn 15 = .ok (.if_icmp .lt 7, 3) := by decide +kernel
theorem dX6_standingOn_18 : decode cX6_standingOn 18 = .ok (.iconst 1, 1) := by decide +kernel
theorem dX6_standingOn_19 : decode cX6_standingOn 19 = .ok (.goto 7, 3) := by decide +kernel
theorem dX6_standingOn_22 : decode cX6_standingOn 22 = .ok (.aload_n 0, 1) := by decide +kernel
theorem dX6_standingOn_23 : decode cX6_standingOn 23 = .ok (.getfield 9, 3) := by decide +kernel
theorem dX6_standingOn_26 : decode cX6_standingOn 26 = .ok (.ireturn, 1) := by decide +kernel
def vc_X6_standingOn (l0 : Nat) (l1 : Int32) (M : mj_M) (post : Int32 → mj_M → Prop) : Prop := mj_tag M l0 = 7 ∧ if (mj_i M l0 4) = 0 then (if (l1 - (mj_i M l0 3)) < 60 then (post (mj_i M l0 4) M) else (post 1 M)) else (post (mj_i M l0 4) M)
set_option maxHeartbeats 4000000 in
set_option maxRecDepth 100000 in
theorem ct_X6_standingOn {l : Launch} {base : Nat} {D : va_G} {A : mj_AT} (l0 : Nat) (l1 : Int32) (M : mj_M) (post : Int32 → mj_M → Prop) (h : vc_X6_standingOn l0 l1 M post) : mj_Met l base D A mj_jI yX6_standingOn cX6_standingOn 2 (some .int) rm_X6_standingOn 0 0 [vR l0, vI l1] M post := by
  refine mj_entry (by decide +kernel) (Nat.le_of_ble_eq_true rfl) (fun g hC hE h1 h2 h3 h4 => ?_)
  show mj_X g 0 [(0, vR l0), (1, vI l1)] [] M 0 0
  simp only [vc_X6_standingOn] at h
  refine mx_aload_n (j := 0) hC dX6_standingOn_0 rfl rfl ?_
  obtain ⟨ht1, h⟩ := h
  refine mx_get (v := vI (mj_i M l0 4)) hC tf_X6_9 ht1 rfl dX6_standingOn_1 ?_
  refine mx_ifne (tgt := 22) hC dX6_standingOn_4 (by decide) (fun hc2 => ?_) (fun hc2 => ?_)
  · replace h := mj_nn hc2 h
    refine mx_aload_n (j := 0) hC dX6_standingOn_22 rfl rfl ?_
    refine mx_get (v := vI (mj_i M l0 4)) hC tf_X6_9 ht1 rfl dX6_standingOn_23 ?_
    exact mx_iret hC hE rfl dX6_standingOn_26 h
  · replace h := mj_yy hc2 h
    refine mx_iload_n (j := 1) hC dX6_standingOn_7 rfl rfl ?_
    refine mx_aload_n (j := 0) hC dX6_standingOn_8 rfl rfl ?_
    refine mx_get (v := vI (mj_i M l0 3)) hC tf_X6_25 ht1 rfl dX6_standingOn_9 ?_
    refine mx_isub hC dX6_standingOn_12 ?_
    refine mx_bipush (v := 60) hC dX6_standingOn_13 (by decide) ?_
    refine mx_icmplt (tgt := 22) hC dX6_standingOn_15 (by decide) (fun hc3 => ?_) (fun hc3 => ?_)
    · replace h := mj_yy hc3 h
      refine mx_aload_n (j := 0) hC dX6_standingOn_22 rfl rfl ?_
      refine mx_get (v := vI (mj_i M l0 4)) hC tf_X6_9 ht1 rfl dX6_standingOn_23 ?_
      exact mx_iret hC hE rfl dX6_standingOn_26 h
    · replace h := mj_nn hc3 h
      refine mx_iconst (v := 1) hC dX6_standingOn_18 (by decide) ?_
      refine mx_goto (tgt := 26) hC dX6_standingOn_19 (by decide) ?_
      exact mx_iret hC hE rfl dX6_standingOn_26 h
theorem tw736 : (Jvm.Cond.methodLink "LeaseLand$Notice" (28 : Nat) ({ cls := "LeaseLand$Notice", name := "standingOn", desc := "(I)I" } : Jvm.MethodName)) ∈ mj_tbl := mj_w 742 (by decide +kernel) (by decide +kernel)
theorem tw739 : (Jvm.Cond.code ({ cls := "LeaseLand$Notice", name := "standingOn", desc := "(I)I" } : Jvm.MethodName) prog_8_method_2_code (2 : Nat) (Option.some Jvm.ClassFile.FieldType.int)) ∈ mj_tbl := mj_w 745 (by decide +kernel) (by decide +kernel)
theorem tw21 : (Jvm.Cond.initialized "LeaseLand$Notice") ∈ mj_tbl := mj_w 27 (by decide +kernel) (by decide +kernel)
theorem tw737 : (Jvm.Cond.instanceMethod ({ cls := "LeaseLand$Notice", name := "standingOn", desc := "(I)I" } : Jvm.MethodName)) ∈ mj_tbl := mj_w 743 (by decide +kernel) (by decide +kernel)
theorem tw738 : (Jvm.Cond.selects "LeaseLand$Notice" ({ cls := "LeaseLand$Notice", name := "standingOn", desc := "(I)I" } : Jvm.MethodName) ({ cls := "LeaseLand$Notice", name := "standingOn", desc := "(I)I" } : Jvm.MethodName)) ∈ mj_tbl := mj_w 744 (by decide +kernel) (by decide +kernel)
theorem ty_X6_standingOn : mj_YV 6 yX6_standingOn cX6_standingOn 2 (some .int) 1 := ⟨⟨tw739, tw21, by decide +kernel, by decide +kernel, by decide +kernel⟩, tw737, tw738, _, rfl, rfl⟩
def rm_X6_isAlive : Room := { frames := 1, cells := 0, slots := 0, locals := 21 }
theorem dX6_isAlive_0 : decode cX6_isAlive 0 = .ok (.aload_n 0, 1) := by decide +kernel
theorem dX6_isAlive_1 : decode cX6_isAlive 1 = .ok (.iload_n 1, 1) := by decide +kernel
theorem dX6_isAlive_2 : decode cX6_isAlive 2 = .ok (.invokevirtual 28, 3) := by decide +kernel
theorem dX6_isAlive_5 : decode cX6_isAlive 5 = .ok (.istore_n 2, 1) := by decide +kernel
theorem dX6_isAlive_6 : decode cX6_isAlive 6 = .ok (.iload_n 2, 1) := by decide +kernel
theorem dX6_isAlive_7 : decode cX6_isAlive 7 = .ok (.ifCond .eq 13, 3) := by decide +kernel
theorem dX6_isAlive_10 : decode cX6_isAlive 10 = .ok (.iload_n 2, 1) := by decide +kernel
theorem dX6_isAlive_11 : decode cX6_isAlive 11 = .ok (.iconst 2, 1) := by decide +kernel
theorem dX6_isAlive_12 : decode cX6_isAlive 12 = .ok (.if_icmp .eq 8, 3) := by decide +kernel
theorem dX6_isAlive_15 : decode cX6_isAlive 15 = .ok (.iload_n 2, 1) := by decide +kernel
theorem dX6_isAlive_16 : decode cX6_isAlive 16 = .ok (.iconst 1, 1) := by decide +kernel
theorem dX6_isAlive_17 : decode cX6_isAlive 17 = .ok (.if_icmp .ne 7, 3) := by decide +kernel
theorem dX6_isAlive_20 : decode cX6_isAlive 20 = .ok (.iconst 1, 1) := by decide +kernel
theorem dX6_isAlive_21 : decode cX6_isAlive 21 = .ok (.goto 4, 3) := by decide +kernel
theorem dX6_isAlive_24 : decode cX6_isAlive 24 = .ok (.iconst 0, 1) := by decide +kernel
theorem dX6_isAlive_25 : decode cX6_isAlive 25 = .ok (.ireturn, 1) := by decide +kernel
def vc_X6_isAlive (l0 : Nat) (l1 : Int32) (M : mj_M) (post : Bool → mj_M → Prop) : Prop := mj_tag M l0 = 7 ∧ vc_X6_standingOn l0 l1 M (fun r2 M3 => if r2 = 0 then (post true M3) else (if r2 = 2 then (post true M3) else (if r2 = 1 then (post true M3) else (post false M3))))
set_option maxHeartbeats 4000000 in
set_option maxRecDepth 100000 in
theorem ct_X6_isAlive {l : Launch} {base : Nat} {D : va_G} {A : mj_AT} (l0 : Nat) (l1 : Int32) (M : mj_M) (post : Bool → mj_M → Prop) (h : vc_X6_isAlive l0 l1 M post) : mj_Met l base D A mj_jB yX6_isAlive cX6_isAlive 3 (some .boolean) rm_X6_isAlive 0 0 [vR l0, vI l1] M post := by
  refine mj_entry (by decide +kernel) (Nat.le_of_ble_eq_true rfl) (fun g hC hE h1 h2 h3 h4 => ?_)
  show mj_X g 0 [(0, vR l0), (1, vI l1)] [] M 0 0
  simp only [vc_X6_isAlive] at h
  refine mx_aload_n (j := 0) hC dX6_isAlive_0 rfl rfl ?_
  refine mx_iload_n (j := 1) hC dX6_isAlive_1 rfl rfl ?_
  obtain ⟨ht1, h⟩ := h
  refine mx_callV (inj := mj_jI) (As := [vI l1]) (st := []) hC (ct_X6_standingOn l0 l1 M _ h) ty_X6_standingOn tw736 ht1 rfl (Nat.le_of_ble_eq_true rfl) ⟨rfl, rfl, ⟨by decide, by decide⟩, by decide, by decide⟩ dX6_isAlive_2 (fun r2 M3 h => ?_)
  show mj_X g 5 [(0, vR l0), (1, vI l1)] [vI r2] M3 0 0
  refine mx_istore_n (L' := [(2, vI r2), (0, vR l0), (1, vI l1)]) hC dX6_isAlive_5 rfl (by decide) rfl ?_
  refine mx_iload_n (j := 0) hC dX6_isAlive_6 rfl rfl ?_
  refine mx_ifeq (tgt := 20) hC dX6_isAlive_7 (by decide) (fun hc4 => ?_) (fun hc4 => ?_)
  · replace h := mj_yy hc4 h
    refine mx_iconst (v := 1) hC dX6_isAlive_20 (by decide) ?_
    refine mx_goto (tgt := 25) hC dX6_isAlive_21 (by decide) ?_
    exact mx_zret (b := true) hC hE rfl dX6_isAlive_25 h
  · replace h := mj_nn hc4 h
    refine mx_iload_n (j := 0) hC dX6_isAlive_10 rfl rfl ?_
    refine mx_iconst (v := 2) hC dX6_isAlive_11 (by decide) ?_
    refine mx_icmpeq (tgt := 20) hC dX6_isAlive_12 (by decide) (fun hc5 => ?_) (fun hc5 => ?_)
    · replace h := mj_yy hc5 h
      refine mx_iconst (v := 1) hC dX6_isAlive_20 (by decide) ?_
      refine mx_goto (tgt := 25) hC dX6_isAlive_21 (by decide) ?_
      exact mx_zret (b := true) hC hE rfl dX6_isAlive_25 h
    · replace h := mj_nn hc5 h
      refine mx_iload_n (j := 0) hC dX6_isAlive_15 rfl rfl ?_
      refine mx_iconst (v := 1) hC dX6_isAlive_16 (by decide) ?_
      refine mx_icmpne (tgt := 24) hC dX6_isAlive_17 (by decide) (fun hc6 => ?_) (fun hc6 => ?_)
      · replace h := mj_nn hc6 h
        refine mx_iconst (v := 0) hC dX6_isAlive_24 (by decide) ?_
        exact mx_zret (b := false) hC hE rfl dX6_isAlive_25 h
      · replace h := mj_yy hc6 h
        refine mx_iconst (v := 1) hC dX6_isAlive_20 (by decide) ?_
        refine mx_goto (tgt := 25) hC dX6_isAlive_21 (by decide) ?_
        exact mx_zret (b := true) hC hE rfl dX6_isAlive_25 h
theorem tw625 : (Jvm.Cond.fieldLink "LeaseLand$Act" (13 : Nat) "LeaseLand$Act" "day" "I") ∈ mj_tbl := mj_w 631 (by decide +kernel) (by decide +kernel)
theorem tk0 : mj_KC 0 (RX0, TX0, 4, tyX0) := ⟨rfl, fun w hw => List.mem_filter.mpr ⟨(goodIn_r (big := lw_tbl) (u_ws RX0 TX0 4) [637, 639, 641, 643] (by decide +kernel) (by decide +kernel) w hw).1, List.all_eq_true.mp (show (u_ws RX0 TX0 4).all goodWord = true by decide +kernel) w hw⟩, tyX0_ok, nmX0, by decide⟩
theorem tf_X0_13 : mj_F 0 1 .int true "LeaseLand$Act" 13 := ⟨_, tk0, by decide, rfl, rfl, rfl, tw625⟩
theorem tw627 : (Jvm.Cond.fieldLink "LeaseLand$Act" (16 : Nat) "LeaseLand$Act" "text" "[I") ∈ mj_tbl := mj_w 633 (by decide +kernel) (by decide +kernel)
theorem tf_X0_16 : mj_F 0 2 (.array .int) true "LeaseLand$Act" 16 := ⟨_, tk0, by decide, rfl, rfl, rfl, tw627⟩
theorem tw629 : (Jvm.Cond.fieldLink "LeaseLand$Act" (20 : Nat) "LeaseLand$Act" "earlier" "LLeaseLand$Act;") ∈ mj_tbl := mj_w 635 (by decide +kernel) (by decide +kernel)
theorem tf_X0_20 : mj_F 0 3 (.object "LeaseLand$Act") true "LeaseLand$Act" 20 := ⟨_, tk0, by decide, rfl, rfl, rfl, tw629⟩
theorem tw623 : (Jvm.Cond.fieldLink "LeaseLand$Act" (7 : Nat) "LeaseLand$Act" "kind" "I") ∈ mj_tbl := mj_w 629 (by decide +kernel) (by decide +kernel)
theorem tf_X0_7 : mj_F 0 0 .int true "LeaseLand$Act" 7 := ⟨_, tk0, by decide, rfl, rfl, rfl, tw623⟩
theorem tw622 : (Jvm.Cond.methodLink "LeaseLand$Act" (1 : Nat) ({ cls := "java/lang/Object", name := "<init>", desc := "()V" } : Jvm.MethodName)) ∈ mj_tbl := mj_w 628 (by decide +kernel) (by decide +kernel)
def rm_X0_init : Room := { frames := 1, cells := 0, slots := 0, locals := 20 }
theorem dX0_init_0 : decode cX0_init 0 = .ok (.aload_n 0, 1) := by decide +kernel
theorem dX0_init_1 : decode cX0_init 1 = .ok (.invokespecial 1, 3) := by decide +kernel
theorem dX0_init_4 : decode cX0_init 4 = .ok (.aload_n 0, 1) := by decide +kernel
theorem dX0_init_5 : decode cX0_init 5 = .ok (.iload_n 1, 1) := by decide +kernel
theorem dX0_init_6 : decode cX0_init 6 = .ok (.putfield 7, 3) := by decide +kernel
theorem dX0_init_9 : decode cX0_init 9 = .ok (.aload_n 0, 1) := by decide +kernel
theorem dX0_init_10 : decode cX0_init 10 = .ok (.iload_n 2, 1) := by decide +kernel
theorem dX0_init_11 : decode cX0_init 11 = .ok (.putfield 13, 3) := by decide +kernel
theorem dX0_init_14 : decode cX0_init 14 = .ok (.aload_n 0, 1) := by decide +kernel
theorem dX0_init_15 : decode cX0_init 15 = .ok (.aload_n 3, 1) := by decide +kernel
theorem dX0_init_16 : decode cX0_init 16 = .ok (.putfield 16, 3) := by decide +kernel
theorem dX0_init_19 : decode cX0_init 19 = .ok (.aload_n 0, 1) := by decide +kernel
theorem dX0_init_20 : decode cX0_init 20 = .ok (.aload 4, 2) := by decide +kernel
theorem dX0_init_22 : decode cX0_init 22 = .ok (.putfield 20, 3) := by decide +kernel
theorem dX0_init_25 : decode cX0_init 25 = .ok (.return_, 1) := by decide +kernel
def vc_X0_init (l0 : Nat) (l1 : Int32) (l2 : Int32) (l3 : Nat) (l4 : Nat) (M : mj_M) (post : Unit → mj_M → Prop) : Prop := (¬ l0 = 0) ∧ mj_tag M l0 = 1 ∧ post () (mj_wr (mj_wr (mj_wi (mj_wi M l0 0 l1) l0 1 l2) l0 2 l3) l0 3 l4)
set_option maxHeartbeats 4000000 in
set_option maxRecDepth 100000 in
theorem ct_X0_init {l : Launch} {base : Nat} {D : va_G} {A : mj_AT} (l0 : Nat) (l1 : Int32) (l2 : Int32) (l3 : Nat) (l4 : Nat) (M : mj_M) (post : Unit → mj_M → Prop) (h : vc_X0_init l0 l1 l2 l3 l4 M post) : mj_Met l base D A mj_jV yX0_init cX0_init 5 (none) rm_X0_init 0 0 [vR l0, vI l1, vI l2, vR l3, vR l4] M post := by
  refine mj_entry (by decide +kernel) (Nat.le_of_ble_eq_true rfl) (fun g hC hE h1 h2 h3 h4 => ?_)
  show mj_X g 0 [(0, vR l0), (1, vI l1), (2, vI l2), (3, vR l3), (4, vR l4)] [] M 0 0
  simp only [vc_X0_init] at h
  refine mx_aload_n (j := 0) hC dX0_init_0 rfl rfl ?_
  obtain ⟨hn1, h⟩ := h
  refine mx_oinit hC tw622 tw_oi tw_oc hn1 (Nat.le_of_ble_eq_true rfl) ⟨by decide, by decide⟩ dX0_init_1 ?_
  refine mx_aload_n (j := 0) hC dX0_init_4 rfl rfl ?_
  refine mx_iload_n (j := 1) hC dX0_init_5 rfl rfl ?_
  obtain ⟨ht2, h⟩ := h
  refine mx_put (v := vI l1) (M1 := mj_wi M l0 0 l1) hC tf_X0_7 ht2 (Or.inr ⟨rfl, rfl⟩) ⟨rfl, rfl⟩ (mj_off_wi _ _ _ _) mj_put_wi dX0_init_6 ?_
  refine mx_aload_n (j := 0) hC dX0_init_9 rfl rfl ?_
  refine mx_iload_n (j := 2) hC dX0_init_10 rfl rfl ?_
  refine mx_put (v := vI l2) (M1 := mj_wi (mj_wi M l0 0 l1) l0 1 l2) hC tf_X0_13 ht2 (Or.inr ⟨rfl, rfl⟩) ⟨rfl, rfl⟩ (mj_off_wi _ _ _ _) mj_put_wi dX0_init_11 ?_
  refine mx_aload_n (j := 0) hC dX0_init_14 rfl rfl ?_
  refine mx_aload_n (j := 3) hC dX0_init_15 rfl rfl ?_
  refine mx_put (v := vR l3) (M1 := mj_wr (mj_wi (mj_wi M l0 0 l1) l0 1 l2) l0 2 l3) hC tf_X0_16 ht2 (Or.inr ⟨rfl, rfl⟩) (mj_fitA l3 _) (mj_off_wr _ _ _ _) mj_put_wa dX0_init_16 ?_
  refine mx_aload_n (j := 0) hC dX0_init_19 rfl rfl ?_
  refine mx_aload (j := 4) hC dX0_init_20 rfl ?_
  refine mx_put (v := vR l4) (M1 := mj_wr (mj_wr (mj_wi (mj_wi M l0 0 l1) l0 1 l2) l0 2 l3) l0 3 l4) hC tf_X0_20 ht2 (Or.inr ⟨rfl, rfl⟩) (mj_fitR l4 _) (mj_off_wr _ _ _ _) mj_put_wr dX0_init_22 ?_
  exact mx_vret hC hE rfl dX0_init_25 h
theorem tw194 : (Jvm.Cond.fieldLink "LeaseLand$Sales" (15 : Nat) "LeaseLand$Sales" "parts" "[I") ∈ mj_tbl := mj_w 200 (by decide +kernel) (by decide +kernel)
theorem tk10 : mj_KC 10 (RX10, TX10, 8, tyX10) := ⟨rfl, fun w hw => List.mem_filter.mpr ⟨(goodIn_r (big := lw_tbl) (u_ws RX10 TX10 8) [201, 203, 205, 207, 209, 211, 213, 215] (by decide +kernel) (by decide +kernel) w hw).1, List.all_eq_true.mp (show (u_ws RX10 TX10 8).all goodWord = true by decide +kernel) w hw⟩, tyX10_ok, nmX10, by decide⟩
theorem tf_X10_15 : mj_F 10 1 (.array .int) true "LeaseLand$Sales" 15 := ⟨_, tk10, by decide, rfl, rfl, rfl, tw194⟩
theorem tw193 : (Jvm.Cond.fieldLink "LeaseLand$Sales" (9 : Nat) "LeaseLand$Sales" "years" "[I") ∈ mj_tbl := mj_w 199 (by decide +kernel) (by decide +kernel)
theorem tf_X10_9 : mj_F 10 0 (.array .int) true "LeaseLand$Sales" 9 := ⟨_, tk10, by decide, rfl, rfl, rfl, tw193⟩
theorem tw192 : (Jvm.Cond.methodLink "LeaseLand$Sales" (3 : Nat) ({ cls := "java/lang/Object", name := "<init>", desc := "()V" } : Jvm.MethodName)) ∈ mj_tbl := mj_w 198 (by decide +kernel) (by decide +kernel)
theorem tw59 : (Jvm.Cond.arrayClass Jvm.ClassFile.FieldType.int) ∈ mj_tbl := mj_w 65 (by decide +kernel) (by decide +kernel)
def rm_X10_init : Room := { frames := 1, cells := 2, slots := 40, locals := 20 }
theorem dX10_init_0 : decode cX10_init 0 = .ok (.aload_n 0, 1) := by decide +kernel
theorem dX10_init_1 : decode cX10_init 1 = .ok (.invokespecial 3, 3) := by decide +kernel
theorem dX10_init_4 : decode cX10_init 4 = .ok (.aload_n 0, 1) := by decide +kernel
theorem dX10_init_5 : decode cX10_init 5 = .ok (.bipush 20, 2) := by decide +kernel
theorem dX10_init_7 : decode cX10_init 7 = .ok (.newarray .int, 2) := by decide +kernel
theorem dX10_init_9 : decode cX10_init 9 = .ok (.putfield 9, 3) := by decide +kernel
theorem dX10_init_12 : decode cX10_init 12 = .ok (.aload_n 0, 1) := by decide +kernel
theorem dX10_init_13 : decode cX10_init 13 = .ok (.bipush 20, 2) := by decide +kernel
theorem dX10_init_15 : decode cX10_init 15 = .ok (.newarray .int, 2) := by decide +kernel
theorem dX10_init_17 : decode cX10_init 17 = .ok (.putfield 15, 3) := by decide +kernel
theorem dX10_init_20 : decode cX10_init 20 = .ok (.return_, 1) := by decide +kernel
def vc_X10_init (l0 : Nat) (M : mj_M) (post : Unit → mj_M → Prop) : Prop := (¬ l0 = 0) ∧ ∀ M2 : mj_M, M2 = mj_newa M 101 20 → mj_tag M2 l0 = 11 ∧ ∀ M5 : mj_M, M5 = mj_newa (mj_wr M2 l0 0 (mj_nx M)) 101 20 → mj_tag M5 l0 = 11 ∧ post () (mj_wr M5 l0 1 (mj_nx M2))
set_option maxHeartbeats 4000000 in
set_option maxRecDepth 100000 in
theorem ct_X10_init {l : Launch} {base : Nat} {D : va_G} {A : mj_AT} (l0 : Nat) (M : mj_M) (post : Unit → mj_M → Prop) (h : vc_X10_init l0 M post) : mj_Met l base D A mj_jV yX10_init cX10_init 1 (none) rm_X10_init 2 40 [vR l0] M post := by
  refine mj_entry (by decide +kernel) (Nat.le_of_ble_eq_true rfl) (fun g hC hE h1 h2 h3 h4 => ?_)
  show mj_X g 0 [(0, vR l0)] [] M 0 0
  simp only [vc_X10_init] at h
  refine mx_aload_n (j := 0) hC dX10_init_0 rfl rfl ?_
  obtain ⟨hn1, h⟩ := h
  refine mx_oinit hC tw192 tw_oi tw_oc hn1 (Nat.le_of_ble_eq_true rfl) ⟨by decide, by decide⟩ dX10_init_1 ?_
  refine mx_aload_n (j := 0) hC dX10_init_4 rfl rfl ?_
  refine mx_bipush (v := 20) hC dX10_init_5 (by decide) ?_
  refine mx_newi (N := 20) (k' := 1) (n' := 20) hC tw59 (by decide) (by decide) (by decide) ⟨rfl, by decide, by decide, by decide⟩ dX10_init_7 ?_
  obtain ⟨M2, eM2⟩ : ∃ z : mj_M, z = mj_newa M 101 20 := ⟨_, rfl⟩
  replace h := h M2 eM2
  have ht3 : mj_tag M2 (mj_nx M) = 101 := by rw [eM2]; exact mj_u1_at _
  refine mx_setM eM2.symm ?_
  obtain ⟨ht4, h⟩ := h
  refine mx_put (v := vR (mj_nx M)) (M1 := mj_wr M2 l0 0 (mj_nx M)) hC tf_X10_9 ht4 (Or.inr ⟨rfl, rfl⟩) (mj_fitA (mj_nx M) _) (mj_off_wr _ _ _ _) mj_put_wa dX10_init_9 ?_
  refine mx_aload_n (j := 0) hC dX10_init_12 rfl rfl ?_
  refine mx_bipush (v := 20) hC dX10_init_13 (by decide) ?_
  refine mx_newi (N := 20) (k' := 2) (n' := 40) hC tw59 (by decide) (by decide) (by decide) ⟨rfl, by decide, by decide, by decide⟩ dX10_init_15 ?_
  obtain ⟨M5, eM5⟩ : ∃ z : mj_M, z = mj_newa (mj_wr M2 l0 0 (mj_nx M)) 101 20 := ⟨_, rfl⟩
  replace h := h M5 eM5
  have ht6 : mj_tag M5 (mj_nx M2) = 101 := by rw [eM5]; exact mj_u1_at _
  refine mx_setM eM5.symm ?_
  obtain ⟨ht7, h⟩ := h
  refine mx_put (v := vR (mj_nx M2)) (M1 := mj_wr M5 l0 1 (mj_nx M2)) hC tf_X10_15 ht7 (Or.inr ⟨rfl, rfl⟩) (mj_fitA (mj_nx M2) _) (mj_off_wr _ _ _ _) mj_put_wa dX10_init_17 ?_
  exact mx_vret hC hE rfl dX10_init_20 h
theorem tw219 : (Jvm.Cond.fieldLink "LeaseLand$Register" (15 : Nat) "LeaseLand$Register" "ofs" "[I") ∈ mj_tbl := mj_w 225 (by decide +kernel) (by decide +kernel)
theorem tk9 : mj_KC 9 (RX9, TX9, 8, tyX9) := ⟨rfl, fun w hw => List.mem_filter.mpr ⟨(goodIn_r (big := lw_tbl) (u_ws RX9 TX9 8) [231, 233, 235, 237, 239, 241, 243, 245] (by decide +kernel) (by decide +kernel) w hw).1, List.all_eq_true.mp (show (u_ws RX9 TX9 8).all goodWord = true by decide +kernel) w hw⟩, tyX9_ok, nmX9, by decide⟩
theorem tf_X9_15 : mj_F 9 1 (.array .int) true "LeaseLand$Register" 15 := ⟨_, tk9, by decide, rfl, rfl, rfl, tw219⟩
theorem tw220 : (Jvm.Cond.fieldLink "LeaseLand$Register" (18 : Nat) "LeaseLand$Register" "froms" "[I") ∈ mj_tbl := mj_w 226 (by decide +kernel) (by decide +kernel)
theorem tf_X9_18 : mj_F 9 2 (.array .int) true "LeaseLand$Register" 18 := ⟨_, tk9, by decide, rfl, rfl, rfl, tw220⟩
theorem tw221 : (Jvm.Cond.fieldLink "LeaseLand$Register" (21 : Nat) "LeaseLand$Register" "tos" "[I") ∈ mj_tbl := mj_w 227 (by decide +kernel) (by decide +kernel)
theorem tf_X9_21 : mj_F 9 3 (.array .int) true "LeaseLand$Register" 21 := ⟨_, tk9, by decide, rfl, rfl, rfl, tw221⟩
theorem tw222 : (Jvm.Cond.fieldLink "LeaseLand$Register" (24 : Nat) "LeaseLand$Register" "clashes" "[I") ∈ mj_tbl := mj_w 228 (by decide +kernel) (by decide +kernel)
theorem tf_X9_24 : mj_F 9 4 (.array .int) true "LeaseLand$Register" 24 := ⟨_, tk9, by decide, rfl, rfl, rfl, tw222⟩
theorem tw223 : (Jvm.Cond.fieldLink "LeaseLand$Register" (27 : Nat) "LeaseLand$Register" "above" "[I") ∈ mj_tbl := mj_w 229 (by decide +kernel) (by decide +kernel)
theorem tf_X9_27 : mj_F 9 5 (.array .int) true "LeaseLand$Register" 27 := ⟨_, tk9, by decide, rfl, rfl, rfl, tw223⟩
theorem tw224 : (Jvm.Cond.fieldLink "LeaseLand$Register" (30 : Nat) "LeaseLand$Register" "fewest" "I") ∈ mj_tbl := mj_w 230 (by decide +kernel) (by decide +kernel)
theorem tf_X9_30 : mj_F 9 7 .int false "LeaseLand$Register" 30 := ⟨_, tk9, by decide, rfl, rfl, rfl, tw224⟩
theorem tw218 : (Jvm.Cond.fieldLink "LeaseLand$Register" (9 : Nat) "LeaseLand$Register" "names" "[I") ∈ mj_tbl := mj_w 224 (by decide +kernel) (by decide +kernel)
theorem tf_X9_9 : mj_F 9 0 (.array .int) true "LeaseLand$Register" 9 := ⟨_, tk9, by decide, rfl, rfl, rfl, tw218⟩
theorem tw217 : (Jvm.Cond.methodLink "LeaseLand$Register" (3 : Nat) ({ cls := "java/lang/Object", name := "<init>", desc := "()V" } : Jvm.MethodName)) ∈ mj_tbl := mj_w 223 (by decide +kernel) (by decide +kernel)
def rm_X9_init : Room := { frames := 1, cells := 6, slots := 72, locals := 20 }
theorem dX9_init_0 : decode cX9_init 0 = .ok (.aload_n 0, 1) := by decide +kernel
theorem dX9_init_1 : decode cX9_init 1 = .ok (.invokespecial 3, 3) := by decide +kernel
theorem dX9_init_4 : decode cX9_init 4 = .ok (.aload_n 0, 1) := by decide +kernel
theorem dX9_init_5 : decode cX9_init 5 = .ok (.bipush 12, 2) := by decide +kernel
theorem dX9_init_7 : decode cX9_init 7 = .ok (.newarray .int, 2) := by decide +kernel
theorem dX9_init_9 : decode cX9_init 9 = .ok (.putfield 9, 3) := by decide +kernel
theorem dX9_init_12 : decode cX9_init 12 = .ok (.aload_n 0, 1) := by decide +kernel
theorem dX9_init_13 : decode cX9_init 13 = .ok (.bipush 12, 2) := by decide +kernel
theorem dX9_init_15 : decode cX9_init 15 = .ok (.newarray .int, 2) := by decide +kernel
theorem dX9_init_17 : decode cX9_init 17 = .ok (.putfield 15, 3) := by decide +kernel
theorem dX9_init_20 : decode cX9_init 20 = .ok (.aload_n 0, 1) := by decide +kernel
theorem dX9_init_21 : decode cX9_init 21 = .ok (.bipush 12, 2) := by decide +kernel
theorem dX9_init_23 : decode cX9_init 23 = .ok (.newarray .int, 2) := by decide +kernel
theorem dX9_init_25 : decode cX9_init 25 = .ok (.putfield 18, 3) := by decide +kernel
theorem dX9_init_28 : decode cX9_init 28 = .ok (.aload_n 0, 1) := by decide +kernel
theorem dX9_init_29 : decode cX9_init 29 = .ok (.bipush 12, 2) := by decide +kernel
theorem dX9_init_31 : decode cX9_init 31 = .ok (.newarray .int, 2) := by decide +kernel
theorem dX9_init_33 : decode cX9_init 33 = .ok (.putfield 21, 3) := by decide +kernel
theorem dX9_init_36 : decode cX9_init 36 = .ok (.aload_n 0, 1) := by decide +kernel
theorem dX9_init_37 : decode cX9_init 37 = .ok (.bipush 12, 2) := by decide +kernel
theorem dX9_init_39 : decode cX9_init 39 = .ok (.newarray .int, 2) := by decide +kernel
theorem dX9_init_41 : decode cX9_init 41 = .ok (.putfield 24, 3) := by decide +kernel
theorem dX9_init_44 : decode cX9_init 44 = .ok (.aload_n 0, 1) := by decide +kernel
theorem dX9_init_45 : decode cX9_init 45 = .ok (.bipush 12, 2) := by decide +kernel
theorem dX9_init_47 : decode cX9_init 47 = .ok (.newarray .int, 2) := by decide +kernel
theorem dX9_init_49 : decode cX9_init 49 = .ok (.putfield 27, 3) := by decide +kernel
theorem dX9_init_52 : decode cX9_init 52 = .ok (.aload_n 0, 1) := by decide +kernel
theorem dX9_init_53 : decode cX9_init 53 = .ok (.bipush (-6), 2) := by decide +kernel
theorem dX9_init_55 : decode cX9_init 55 = .ok (.putfield 30, 3) := by decide +kernel
theorem dX9_init_58 : decode cX9_init 58 = .ok (.return_, 1) := by decide +kernel
def vc_X9_init (l0 : Nat) (M : mj_M) (post : Unit → mj_M → Prop) : Prop := (¬ l0 = 0) ∧ ∀ M2 : mj_M, M2 = mj_newa M 101 12 → mj_tag M2 l0 = 10 ∧ ∀ M5 : mj_M, M5 = mj_newa (mj_wr M2 l0 0 (mj_nx M)) 101 12 → mj_tag M5 l0 = 10 ∧ ∀ M8 : mj_M, M8 = mj_newa (mj_wr M5 l0 1 (mj_nx M2)) 101 12 → mj_tag M8 l0 = 10 ∧ ∀ M11 : mj_M, M11 = mj_newa (mj_wr M8 l0 2 (mj_nx M5)) 101 12 → mj_tag M11 l0 = 10 ∧ ∀ M14 : mj_M, M14 = mj_newa (mj_wr M11 l0 3 (mj_nx M8)) 101 12 → mj_tag M14 l0 = 10 ∧ ∀ M17 : mj_M, M17 = mj_newa (mj_wr M14 l0 4 (mj_nx M11)) 101 12 → mj_tag M17 l0 = 10 ∧ post () (mj_wi (mj_wr M17 l0 5 (mj_nx M14)) l0 7 ((-6)))
set_option maxHeartbeats 4000000 in
set_option maxRecDepth 100000 in
theorem ct_X9_init {l : Launch} {base : Nat} {D : va_G} {A : mj_AT} (l0 : Nat) (M : mj_M) (post : Unit → mj_M → Prop) (h : vc_X9_init l0 M post) : mj_Met l base D A mj_jV yX9_init cX9_init 1 (none) rm_X9_init 6 72 [vR l0] M post := by
  refine mj_entry (by decide +kernel) (Nat.le_of_ble_eq_true rfl) (fun g hC hE h1 h2 h3 h4 => ?_)
  show mj_X g 0 [(0, vR l0)] [] M 0 0
  simp only [vc_X9_init] at h
  refine mx_aload_n (j := 0) hC dX9_init_0 rfl rfl ?_
  obtain ⟨hn1, h⟩ := h
  refine mx_oinit hC tw217 tw_oi tw_oc hn1 (Nat.le_of_ble_eq_true rfl) ⟨by decide, by decide⟩ dX9_init_1 ?_
  refine mx_aload_n (j := 0) hC dX9_init_4 rfl rfl ?_
  refine mx_bipush (v := 12) hC dX9_init_5 (by decide) ?_
  refine mx_newi (N := 12) (k' := 1) (n' := 12) hC tw59 (by decide) (by decide) (by decide) ⟨rfl, by decide, by decide, by decide⟩ dX9_init_7 ?_
  obtain ⟨M2, eM2⟩ : ∃ z : mj_M, z = mj_newa M 101 12 := ⟨_, rfl⟩
  replace h := h M2 eM2
  have ht3 : mj_tag M2 (mj_nx M) = 101 := by rw [eM2]; exact mj_u1_at _
  refine mx_setM eM2.symm ?_
  obtain ⟨ht4, h⟩ := h
  refine mx_put (v := vR (mj_nx M)) (M1 := mj_wr M2 l0 0 (mj_nx M)) hC tf_X9_9 ht4 (Or.inr ⟨rfl, rfl⟩) (mj_fitA (mj_nx M) _) (mj_off_wr _ _ _ _) mj_put_wa dX9_init_9 ?_
  refine mx_aload_n (j := 0) hC dX9_init_12 rfl rfl ?_
  refine mx_bipush (v := 12) hC dX9_init_13 (by decide) ?_
  refine mx_newi (N := 12) (k' := 2) (n' := 24) hC tw59 (by decide) (by decide) (by decide) ⟨rfl, by decide, by decide, by decide⟩ dX9_init_15 ?_
  obtain ⟨M5, eM5⟩ : ∃ z : mj_M, z = mj_newa (mj_wr M2 l0 0 (mj_nx M)) 101 12 := ⟨_, rfl⟩
  replace h := h M5 eM5
  have ht6 : mj_tag M5 (mj_nx M2) = 101 := by rw [eM5]; exact mj_u1_at _
  refine mx_setM eM5.symm ?_
  obtain ⟨ht7, h⟩ := h
  refine mx_put (v := vR (mj_nx M2)) (M1 := mj_wr M5 l0 1 (mj_nx M2)) hC tf_X9_15 ht7 (Or.inr ⟨rfl, rfl⟩) (mj_fitA (mj_nx M2) _) (mj_off_wr _ _ _ _) mj_put_wa dX9_init_17 ?_
  refine mx_aload_n (j := 0) hC dX9_init_20 rfl rfl ?_
  refine mx_bipush (v := 12) hC dX9_init_21 (by decide) ?_
  refine mx_newi (N := 12) (k' := 3) (n' := 36) hC tw59 (by decide) (by decide) (by decide) ⟨rfl, by decide, by decide, by decide⟩ dX9_init_23 ?_
  obtain ⟨M8, eM8⟩ : ∃ z : mj_M, z = mj_newa (mj_wr M5 l0 1 (mj_nx M2)) 101 12 := ⟨_, rfl⟩
  replace h := h M8 eM8
  have ht9 : mj_tag M8 (mj_nx M5) = 101 := by rw [eM8]; exact mj_u1_at _
  refine mx_setM eM8.symm ?_
  obtain ⟨ht10, h⟩ := h
  refine mx_put (v := vR (mj_nx M5)) (M1 := mj_wr M8 l0 2 (mj_nx M5)) hC tf_X9_18 ht10 (Or.inr ⟨rfl, rfl⟩) (mj_fitA (mj_nx M5) _) (mj_off_wr _ _ _ _) mj_put_wa dX9_init_25 ?_
  refine mx_aload_n (j := 0) hC dX9_init_28 rfl rfl ?_
  refine mx_bipush (v := 12) hC dX9_init_29 (by decide) ?_
  refine mx_newi (N := 12) (k' := 4) (n' := 48) hC tw59 (by decide) (by decide) (by decide) ⟨rfl, by decide, by decide, by decide⟩ dX9_init_31 ?_
  obtain ⟨M11, eM11⟩ : ∃ z : mj_M, z = mj_newa (mj_wr M8 l0 2 (mj_nx M5)) 101 12 := ⟨_, rfl⟩
  replace h := h M11 eM11
  have ht12 : mj_tag M11 (mj_nx M8) = 101 := by rw [eM11]; exact mj_u1_at _
  refine mx_setM eM11.symm ?_
  obtain ⟨ht13, h⟩ := h
  refine mx_put (v := vR (mj_nx M8)) (M1 := mj_wr M11 l0 3 (mj_nx M8)) hC tf_X9_21 ht13 (Or.inr ⟨rfl, rfl⟩) (mj_fitA (mj_nx M8) _) (mj_off_wr _ _ _ _) mj_put_wa dX9_init_33 ?_
  refine mx_aload_n (j := 0) hC dX9_init_36 rfl rfl ?_
  refine mx_bipush (v := 12) hC dX9_init_37 (by decide) ?_
  refine mx_newi (N := 12) (k' := 5) (n' := 60) hC tw59 (by decide) (by decide) (by decide) ⟨rfl, by decide, by decide, by decide⟩ dX9_init_39 ?_
  obtain ⟨M14, eM14⟩ : ∃ z : mj_M, z = mj_newa (mj_wr M11 l0 3 (mj_nx M8)) 101 12 := ⟨_, rfl⟩
  replace h := h M14 eM14
  have ht15 : mj_tag M14 (mj_nx M11) = 101 := by rw [eM14]; exact mj_u1_at _
  refine mx_setM eM14.symm ?_
  obtain ⟨ht16, h⟩ := h
  refine mx_put (v := vR (mj_nx M11)) (M1 := mj_wr M14 l0 4 (mj_nx M11)) hC tf_X9_24 ht16 (Or.inr ⟨rfl, rfl⟩) (mj_fitA (mj_nx M11) _) (mj_off_wr _ _ _ _) mj_put_wa dX9_init_41 ?_
  refine mx_aload_n (j := 0) hC dX9_init_44 rfl rfl ?_
  refine mx_bipush (v := 12) hC dX9_init_45 (by decide) ?_
  refine mx_newi (N := 12) (k' := 6) (n' := 72) hC tw59 (by decide) (by decide) (by decide) ⟨rfl, by decide, by decide, by decide⟩ dX9_init_47 ?_
  obtain ⟨M17, eM17⟩ : ∃ z : mj_M, z = mj_newa (mj_wr M14 l0 4 (mj_nx M11)) 101 12 := ⟨_, rfl⟩
  replace h := h M17 eM17
  have ht18 : mj_tag M17 (mj_nx M14) = 101 := by rw [eM17]; exact mj_u1_at _
  refine mx_setM eM17.symm ?_
  obtain ⟨ht19, h⟩ := h
  refine mx_put (v := vR (mj_nx M14)) (M1 := mj_wr M17 l0 5 (mj_nx M14)) hC tf_X9_27 ht19 (Or.inr ⟨rfl, rfl⟩) (mj_fitA (mj_nx M14) _) (mj_off_wr _ _ _ _) mj_put_wa dX9_init_49 ?_
  refine mx_aload_n (j := 0) hC dX9_init_52 rfl rfl ?_
  refine mx_bipush (v := (-6)) hC dX9_init_53 (by decide) ?_
  refine mx_put (v := vI ((-6))) (M1 := mj_wi (mj_wr M17 l0 5 (mj_nx M14)) l0 7 ((-6))) hC tf_X9_30 ht19 (Or.inl rfl) ⟨rfl, rfl⟩ (mj_off_wi _ _ _ _) mj_put_wi dX9_init_55 ?_
  exact mx_vret hC hE rfl dX9_init_58 h
theorem tw45 : (Jvm.Cond.fieldLink "LeaseLand$Land" (15 : Nat) "LeaseLand$Land" "weights" "[I") ∈ mj_tbl := mj_w 51 (by decide +kernel) (by decide +kernel)
theorem tk4 : mj_KC 4 (RX4, TX4, 6, tyX4) := ⟨rfl, fun w hw => List.mem_filter.mpr ⟨(goodIn_r (big := lw_tbl) (u_ws RX4 TX4 6) [52, 54, 56, 58, 60, 62] (by decide +kernel) (by decide +kernel) w hw).1, List.all_eq_true.mp (show (u_ws RX4 TX4 6).all goodWord = true by decide +kernel) w hw⟩, tyX4_ok, nmX4, by decide⟩
theorem tf_X4_15 : mj_F 4 5 (.array .int) true "LeaseLand$Land" 15 := ⟨_, tk4, by decide, rfl, rfl, rfl, tw45⟩
theorem tw44 : (Jvm.Cond.fieldLink "LeaseLand$Land" (9 : Nat) "LeaseLand$Land" "homes" "[I") ∈ mj_tbl := mj_w 50 (by decide +kernel) (by decide +kernel)
theorem tf_X4_9 : mj_F 4 4 (.array .int) true "LeaseLand$Land" 9 := ⟨_, tk4, by decide, rfl, rfl, rfl, tw44⟩
theorem tw35 : (Jvm.Cond.methodLink "LeaseLand$Land" (3 : Nat) ({ cls := "java/lang/Object", name := "<init>", desc := "()V" } : Jvm.MethodName)) ∈ mj_tbl := mj_w 41 (by decide +kernel) (by decide +kernel)
theorem tw36 : (Jvm.Cond.methodLink "LeaseLand$Land" (18 : Nat) ({ cls := "java/util/Arrays", name := "fill", desc := "([II)V" } : Jvm.MethodName)) ∈ mj_tbl := mj_w 42 (by decide +kernel) (by decide +kernel)
theorem tw38 : (Jvm.Cond.code ({ cls := "java/util/Arrays", name := "fill", desc := "([II)V" } : Jvm.MethodName) prog_23_method_103_code (4 : Nat) (Option.none : Option Jvm.ClassFile.FieldType)) ∈ mj_tbl := mj_w 44 (by decide +kernel) (by decide +kernel)
theorem tw3 : (Jvm.Cond.initialized "java/util/Arrays") ∈ mj_tbl := mj_w 9 (by decide +kernel) (by decide +kernel)
theorem tw37 : (Jvm.Cond.static ({ cls := "java/util/Arrays", name := "fill", desc := "([II)V" } : Jvm.MethodName)) ∈ mj_tbl := mj_w 43 (by decide +kernel) (by decide +kernel)
theorem ty_J7_fill_53178 : mj_YS yJ7_fill_53178 cJ7_fill_53178 4 (none) 2 := ⟨⟨tw38, tw3, by decide +kernel, by decide +kernel, by decide +kernel⟩, tw37⟩
def rm_X4_init : Room := { frames := 1, cells := 2, slots := 22, locals := 23 }
theorem dX4_init_0 : decode cX4_init 0 = .ok (.aload_n 0, 1) := by decide +kernel
theorem dX4_init_1 : decode cX4_init 1 = .ok (.invokespecial 3, 3) := by decide +kernel
theorem dX4_init_4 : decode cX4_init 4 = .ok (.aload_n 0, 1) := by decide +kernel
theorem dX4_init_5 : decode cX4_init 5 = .ok (.bipush 10, 2) := by decide +kernel
theorem dX4_init_7 : decode cX4_init 7 = .ok (.newarray .int, 2) := by decide +kernel
theorem dX4_init_9 : decode cX4_init 9 = .ok (.putfield 9, 3) := by decide +kernel
theorem dX4_init_12 : decode cX4_init 12 = .ok (.aload_n 0, 1) := by decide +kernel
theorem dX4_init_13 : decode cX4_init 13 = .ok (.bipush 12, 2) := by decide +kernel
theorem dX4_init_15 : decode cX4_init 15 = .ok (.newarray .int, 2) := by decide +kernel
theorem dX4_init_17 : decode cX4_init 17 = .ok (.putfield 15, 3) := by decide +kernel
theorem dX4_init_20 : decode cX4_init 20 = .ok (.aload_n 0, 1) := by decide +kernel
theorem dX4_init_21 : decode cX4_init 21 = .ok (.getfield 9, 3) := by decide +kernel
theorem dX4_init_24 : decode cX4_init 24 = .ok (.bipush (-6), 2) := by decide +kernel
theorem dX4_init_26 : decode cX4_init 26 = .ok (.invokestatic 18, 3) := by decide +kernel
theorem dX4_init_29 : decode cX4_init 29 = .ok (.aload_n 0, 1) := by decide +kernel
theorem dX4_init_30 : decode cX4_init 30 = .ok (.getfield 15, 3) := by decide +kernel
theorem dX4_init_33 : decode cX4_init 33 = .ok (.iconst 1, 1) := by decide +kernel
theorem dX4_init_34 : decode cX4_init 34 = .ok (.invokestatic 18, 3) := by decide +kernel
theorem dX4_init_37 : decode cX4_init 37 = .ok (.return_, 1) := by decide +kernel
def vc_X4_init (l0 : Nat) (M : mj_M) (post : Unit → mj_M → Prop) : Prop := (¬ l0 = 0) ∧ ∀ M2 : mj_M, M2 = mj_newa M 101 10 → mj_tag M2 l0 = 5 ∧ ∀ M5 : mj_M, M5 = mj_newa (mj_wr M2 l0 4 (mj_nx M)) 101 12 → mj_tag M5 l0 = 5 ∧ vc_J7_fill_53178 (mj_r (mj_wr M5 l0 5 (mj_nx M2)) l0 4) ((-6)) (mj_wr M5 l0 5 (mj_nx M2)) (fun _ M8 => mj_tag M8 l0 = 5 ∧ vc_J7_fill_53178 (mj_r M8 l0 5) 1 M8 (fun _ M10 => post () M10))
set_option maxHeartbeats 4000000 in
set_option maxRecDepth 100000 in
theorem ct_X4_init {l : Launch} {base : Nat} {D : va_G} {A : mj_AT} (l0 : Nat) (M : mj_M) (post : Unit → mj_M → Prop) (h : vc_X4_init l0 M post) : mj_Met l base D A mj_jV yX4_init cX4_init 1 (none) rm_X4_init 2 22 [vR l0] M post := by
  refine mj_entry (by decide +kernel) (Nat.le_of_ble_eq_true rfl) (fun g hC hE h1 h2 h3 h4 => ?_)
  show mj_X g 0 [(0, vR l0)] [] M 0 0
  simp only [vc_X4_init] at h
  refine mx_aload_n (j := 0) hC dX4_init_0 rfl rfl ?_
  obtain ⟨hn1, h⟩ := h
  refine mx_oinit hC tw35 tw_oi tw_oc hn1 (Nat.le_of_ble_eq_true rfl) ⟨by decide, by decide⟩ dX4_init_1 ?_
  refine mx_aload_n (j := 0) hC dX4_init_4 rfl rfl ?_
  refine mx_bipush (v := 10) hC dX4_init_5 (by decide) ?_
  refine mx_newi (N := 10) (k' := 1) (n' := 10) hC tw59 (by decide) (by decide) (by decide) ⟨rfl, by decide, by decide, by decide⟩ dX4_init_7 ?_
  obtain ⟨M2, eM2⟩ : ∃ z : mj_M, z = mj_newa M 101 10 := ⟨_, rfl⟩
  replace h := h M2 eM2
  have ht3 : mj_tag M2 (mj_nx M) = 101 := by rw [eM2]; exact mj_u1_at _
  refine mx_setM eM2.symm ?_
  obtain ⟨ht4, h⟩ := h
  refine mx_put (v := vR (mj_nx M)) (M1 := mj_wr M2 l0 4 (mj_nx M)) hC tf_X4_9 ht4 (Or.inr ⟨rfl, rfl⟩) (mj_fitA (mj_nx M) _) (mj_off_wr _ _ _ _) mj_put_wa dX4_init_9 ?_
  refine mx_aload_n (j := 0) hC dX4_init_12 rfl rfl ?_
  refine mx_bipush (v := 12) hC dX4_init_13 (by decide) ?_
  refine mx_newi (N := 12) (k' := 2) (n' := 22) hC tw59 (by decide) (by decide) (by decide) ⟨rfl, by decide, by decide, by decide⟩ dX4_init_15 ?_
  obtain ⟨M5, eM5⟩ : ∃ z : mj_M, z = mj_newa (mj_wr M2 l0 4 (mj_nx M)) 101 12 := ⟨_, rfl⟩
  replace h := h M5 eM5
  have ht6 : mj_tag M5 (mj_nx M2) = 101 := by rw [eM5]; exact mj_u1_at _
  refine mx_setM eM5.symm ?_
  obtain ⟨ht7, h⟩ := h
  refine mx_put (v := vR (mj_nx M2)) (M1 := mj_wr M5 l0 5 (mj_nx M2)) hC tf_X4_15 ht7 (Or.inr ⟨rfl, rfl⟩) (mj_fitA (mj_nx M2) _) (mj_off_wr _ _ _ _) mj_put_wa dX4_init_17 ?_
  refine mx_aload_n (j := 0) hC dX4_init_20 rfl rfl ?_
  refine mx_get (v := vR (mj_r (mj_wr M5 l0 5 (mj_nx M2)) l0 4)) hC tf_X4_9 ht7 rfl dX4_init_21 ?_
  refine mx_bipush (v := (-6)) hC dX4_init_24 (by decide) ?_
  refine mx_callS (inj := mj_jV) (As := [vR (mj_r (mj_wr M5 l0 5 (mj_nx M2)) l0 4), vI ((-6))]) (st := []) hC (ct_J7_fill_53178 (mj_r (mj_wr M5 l0 5 (mj_nx M2)) l0 4) ((-6)) (mj_wr M5 l0 5 (mj_nx M2)) _ h) ty_J7_fill_53178 tw36 rfl (Nat.le_of_ble_eq_true rfl) ⟨rfl, rfl, ⟨by decide, by decide⟩, by decide, by decide⟩ dX4_init_26 (fun _ M8 h => ?_)
  show mj_X g 29 [(0, vR l0)] [] M8 2 22
  refine mx_aload_n (j := 0) hC dX4_init_29 rfl rfl ?_
  obtain ⟨ht9, h⟩ := h
  refine mx_get (v := vR (mj_r M8 l0 5)) hC tf_X4_15 ht9 rfl dX4_init_30 ?_
  refine mx_iconst (v := 1) hC dX4_init_33 (by decide) ?_
  refine mx_callS (inj := mj_jV) (As := [vR (mj_r M8 l0 5), vI 1]) (st := []) hC (ct_J7_fill_53178 (mj_r M8 l0 5) 1 M8 _ h) ty_J7_fill_53178 tw36 rfl (Nat.le_of_ble_eq_true rfl) ⟨rfl, rfl, ⟨by decide, by decide⟩, by decide, by decide⟩ dX4_init_34 (fun _ M10 h => ?_)
  show mj_X g 37 [(0, vR l0)] [] M10 2 22
  exact mx_vret hC hE rfl dX4_init_37 h
theorem tw43 : (Jvm.Cond.fieldLink "LeaseLand$Land" (24 : Nat) "LeaseLand$Land" "count" "I") ∈ mj_tbl := mj_w 49 (by decide +kernel) (by decide +kernel)
theorem tf_X4_24 : mj_F 4 3 .int false "LeaseLand$Land" 24 := ⟨_, tk4, by decide, rfl, rfl, rfl, tw43⟩
def rm_X4_isFull : Room := { frames := 0, cells := 0, slots := 0, locals := 0 }
theorem dX4_isFull_0 : decode cX4_isFull 0 = .ok (.aload_n 0, 1) := by decide +kernel
theorem dX4_isFull_1 : decode cX4_isFull 1 = .ok (.getfield 24, 3) := by decide +kernel
theorem dX4_isFull_4 : decode cX4_isFull 4 = .ok (.bipush 40, 2) := by decide +kernel
theorem dX4_isFull_6 : decode cX4_isFull 6 = .ok (.if_icmp .ne 7, 3) := by decide +kernel
theorem dX4_isFull_9 : decode cX4_isFull 9 = .ok (.iconst 1, 1) := by decide +kernel
theorem dX4_isFull_10 : decode cX4_isFull 10 = .ok (.goto 4, 3) := by decide +kernel
theorem dX4_isFull_13 : decode cX4_isFull 13 = .ok (.iconst 0, 1) := by decide +kernel
theorem dX4_isFull_14 : decode cX4_isFull 14 = .ok (.ireturn, 1) := by decide +kernel
def vc_X4_isFull (l0 : Nat) (M : mj_M) (post : Bool → mj_M → Prop) : Prop := mj_tag M l0 = 5 ∧ if (mj_i M l0 3) = 40 then (post true M) else (post false M)
set_option maxHeartbeats 4000000 in
set_option maxRecDepth 100000 in
theorem ct_X4_isFull {l : Launch} {base : Nat} {D : va_G} {A : mj_AT} (l0 : Nat) (M : mj_M) (post : Bool → mj_M → Prop) (h : vc_X4_isFull l0 M post) : mj_Met l base D A mj_jB yX4_isFull cX4_isFull 1 (some .boolean) rm_X4_isFull 0 0 [vR l0] M post := by
  refine mj_entry (by decide +kernel) (Nat.le_of_ble_eq_true rfl) (fun g hC hE h1 h2 h3 h4 => ?_)
  show mj_X g 0 [(0, vR l0)] [] M 0 0
  simp only [vc_X4_isFull] at h
  refine mx_aload_n (j := 0) hC dX4_isFull_0 rfl rfl ?_
  obtain ⟨ht1, h⟩ := h
  refine mx_get (v := vI (mj_i M l0 3)) hC tf_X4_24 ht1 rfl dX4_isFull_1 ?_
  refine mx_bipush (v := 40) hC dX4_isFull_4 (by decide) ?_
  refine mx_icmpne (tgt := 13) hC dX4_isFull_6 (by decide) (fun hc2 => ?_) (fun hc2 => ?_)
  · replace h := mj_nn hc2 h
    refine mx_iconst (v := 0) hC dX4_isFull_13 (by decide) ?_
    exact mx_zret (b := false) hC hE rfl dX4_isFull_14 h
  · replace h := mj_yy hc2 h
    refine mx_iconst (v := 1) hC dX4_isFull_9 (by decide) ?_
    refine mx_goto (tgt := 14) hC dX4_isFull_10 (by decide) ?_
    exact mx_zret (b := true) hC hE rfl dX4_isFull_14 h

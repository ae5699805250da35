/-! methods 1. By program (wip/gen) out of the bytecode: vc_KEY: what must hold of a call; ct_KEY: then the machine does it. -/
theorem tw742 : (Jvm.Cond.fieldLink "LeaseLand$Act" (13 : Nat) "LeaseLand$Act" "day" "I") ∈ mj_tbl := mj_w 795 (by decide +kernel) (by decide +kernel)
theorem tk0 : mj_KC 0 (RX0, TX0, 4, tyX0) := ⟨rfl, fun w hw => List.mem_filter.mpr ⟨(goodIn_r (big := lw_tbl) (u_ws RX0 TX0 4) [801, 803, 805, 807] (by decide +kernel) (by decide +kernel) w hw).1, List.all_eq_true.mp (show (u_ws RX0 TX0 4).all goodWord = true by decide +kernel) w hw⟩, tyX0_ok, nmX0, by decide⟩
theorem tf_X0_13 : mj_F 0 1 .int true "LeaseLand$Act" 13 := ⟨_, tk0, by decide, rfl, rfl, rfl, tw742⟩
theorem tw744 : (Jvm.Cond.fieldLink "LeaseLand$Act" (16 : Nat) "LeaseLand$Act" "text" "[I") ∈ mj_tbl := mj_w 797 (by decide +kernel) (by decide +kernel)
theorem tf_X0_16 : mj_F 0 2 (.array .int) true "LeaseLand$Act" 16 := ⟨_, tk0, by decide, rfl, rfl, rfl, tw744⟩
theorem tw746 : (Jvm.Cond.fieldLink "LeaseLand$Act" (20 : Nat) "LeaseLand$Act" "earlier" "LLeaseLand$Act;") ∈ mj_tbl := mj_w 799 (by decide +kernel) (by decide +kernel)
theorem tf_X0_20 : mj_F 0 3 (.object "LeaseLand$Act") true "LeaseLand$Act" 20 := ⟨_, tk0, by decide, rfl, rfl, rfl, tw746⟩
theorem tw740 : (Jvm.Cond.fieldLink "LeaseLand$Act" (7 : Nat) "LeaseLand$Act" "kind" "I") ∈ mj_tbl := mj_w 793 (by decide +kernel) (by decide +kernel)
theorem tf_X0_7 : mj_F 0 0 .int true "LeaseLand$Act" 7 := ⟨_, tk0, by decide, rfl, rfl, rfl, tw740⟩
theorem tw739 : (Jvm.Cond.methodLink "LeaseLand$Act" (1 : Nat) ({ cls := "java/lang/Object", name := "<init>", desc := "()V" } : Jvm.MethodName)) ∈ mj_tbl := mj_w 792 (by decide +kernel) (by decide +kernel)
def rm_X0_init : Room := { frames := 1, cells := 0, slots := 0, locals := 20 }
theorem dX0_init_0 : decode cX0_init 0 = .ok (.aload_n 0, 1) := by decide +kernel
theorem dX0_init_1 : decode cX0_init 1 = .ok (.invokespecial 1, 3) := by decide +kernel
theorem dX0_init_4 : decode cX0_init 4 = .ok (.aload_n 0, 1) := by decide +kernel
theorem dX0_init_5 : decode cX0_init 5 = .ok (.iload_n 1, 1) := by decide +kernel
theorem dX0_init_6 : decode cX0_init 6 = .ok (.putfield 7, 3) := by decide +kernel
theorem dX0_init_9 : decode cX0_init 9 = .ok (.aload_n 0, 1) := by decide +kernel
theorem dX0_init_10 : decode cX0_init 10 = .ok (.iload_n 2, 1) := by decide +kernel
theorem dX0_init_11 : decode cX0_init 11 = .ok (.putfield 13, 3) := by decide +kernel
theorem dX0_init_14 : decode cX0_init 14 = .ok (.aload_n 0, 1) := by decide +kernel
theorem dX0_init_15 : decode cX0_init 15 = .ok (.aload_n 3, 1) := by decide +kernel
theorem dX0_init_16 : decode cX0_init 16 = .ok (.putfield 16, 3) := by decide +kernel
theorem dX0_init_19 : decode cX0_init 19 = .ok (.aload_n 0, 1) := by decide +kernel
theorem dX0_init_20 : decode cX0_init 20 = .ok (.aload 4, 2) := by decide +kernel
theorem dX0_init_22 : decode cX0_init 22 = .ok (.putfield 20, 3) := by decide +kernel
theorem dX0_init_25 : decode cX0_init 25 = .ok (.return_, 1) := by decide +kernel
def vc_X0_init (l0 : Nat) (l1 : Int32) (l2 : Int32) (l3 : Nat) (l4 : Nat) (M : mj_M) (post : Unit → mj_M → Prop) : Prop := (¬ l0 = 0) ∧ mj_tag M l0 = 1 ∧ post () (mj_wr (mj_wr (mj_wi (mj_wi M l0 0 l1) l0 1 l2) l0 2 l3) l0 3 l4)
set_option maxHeartbeats 4000000 in
set_option maxRecDepth 100000 in
theorem ct_X0_init {l : Launch} {base : Nat} {D : va_G} {A : ClassId × ClassId × ClassId} (l0 : Nat) (l1 : Int32) (l2 : Int32) (l3 : Nat) (l4 : Nat) (M : mj_M) (post : Unit → mj_M → Prop) (h : vc_X0_init l0 l1 l2 l3 l4 M post) : mj_Met l base D A mj_jV yX0_init cX0_init 5 (none) rm_X0_init 0 0 [vR l0, vI l1, vI l2, vR l3, vR l4] M post := by
  refine mj_entry (by decide +kernel) (Nat.le_of_ble_eq_true rfl) (fun g hC hE h1 h2 h3 h4 => ?_)
  show mj_X g 0 [(0, vR l0), (1, vI l1), (2, vI l2), (3, vR l3), (4, vR l4)] [] M 0 0
  simp only [vc_X0_init] at h
  refine mx_aload_n (j := 0) hC dX0_init_0 rfl rfl ?_
  obtain ⟨hn1, h⟩ := h
  refine mx_oinit hC tw739 tw_oi tw_oc hn1 (Nat.le_of_ble_eq_true rfl) ⟨by decide, by decide⟩ dX0_init_1 ?_
  refine mx_aload_n (j := 0) hC dX0_init_4 rfl rfl ?_
  refine mx_iload_n (j := 1) hC dX0_init_5 rfl rfl ?_
  obtain ⟨ht2, h⟩ := h
  refine mx_put (v := vI l1) (M1 := mj_wi M l0 0 l1) hC tf_X0_7 ht2 (Or.inr ⟨rfl, rfl⟩) ⟨rfl, rfl⟩ (mj_off_wi _ _ _ _) mj_put_wi dX0_init_6 ?_
  refine mx_aload_n (j := 0) hC dX0_init_9 rfl rfl ?_
  refine mx_iload_n (j := 2) hC dX0_init_10 rfl rfl ?_
  refine mx_put (v := vI l2) (M1 := mj_wi (mj_wi M l0 0 l1) l0 1 l2) hC tf_X0_13 ht2 (Or.inr ⟨rfl, rfl⟩) ⟨rfl, rfl⟩ (mj_off_wi _ _ _ _) mj_put_wi dX0_init_11 ?_
  refine mx_aload_n (j := 0) hC dX0_init_14 rfl rfl ?_
  refine mx_aload_n (j := 3) hC dX0_init_15 rfl rfl ?_
  refine mx_put (v := vR l3) (M1 := mj_wr (mj_wi (mj_wi M l0 0 l1) l0 1 l2) l0 2 l3) hC tf_X0_16 ht2 (Or.inr ⟨rfl, rfl⟩) (mj_fitA l3 _) (mj_off_wr _ _ _ _) mj_put_wa dX0_init_16 ?_
  refine mx_aload_n (j := 0) hC dX0_init_19 rfl rfl ?_
  refine mx_aload (j := 4) hC dX0_init_20 rfl ?_
  refine mx_put (v := vR l4) (M1 := mj_wr (mj_wr (mj_wi (mj_wi M l0 0 l1) l0 1 l2) l0 2 l3) l0 3 l4) hC tf_X0_20 ht2 (Or.inr ⟨rfl, rfl⟩) (mj_fitR l4 _) (mj_off_wr _ _ _ _) mj_put_wr dX0_init_22 ?_
  exact mx_vret hC hE rfl dX0_init_25 h
theorem tw204 : (Jvm.Cond.fieldLink "LeaseLand$Sales" (15 : Nat) "LeaseLand$Sales" "parts" "[I") ∈ mj_tbl := mj_w 257 (by decide +kernel) (by decide +kernel)
theorem tk10 : mj_KC 10 (RX10, TX10, 8, tyX10) := ⟨rfl, fun w hw => List.mem_filter.mpr ⟨(goodIn_r (big := lw_tbl) (u_ws RX10 TX10 8) [265, 267, 269, 271, 273, 275, 277, 279] (by decide +kernel) (by decide +kernel) w hw).1, List.all_eq_true.mp (show (u_ws RX10 TX10 8).all goodWord = true by decide +kernel) w hw⟩, tyX10_ok, nmX10, by decide⟩
theorem tf_X10_15 : mj_F 10 1 (.array .int) true "LeaseLand$Sales" 15 := ⟨_, tk10, by decide, rfl, rfl, rfl, tw204⟩
theorem tw203 : (Jvm.Cond.fieldLink "LeaseLand$Sales" (9 : Nat) "LeaseLand$Sales" "years" "[I") ∈ mj_tbl := mj_w 256 (by decide +kernel) (by decide +kernel)
theorem tf_X10_9 : mj_F 10 0 (.array .int) true "LeaseLand$Sales" 9 := ⟨_, tk10, by decide, rfl, rfl, rfl, tw203⟩
theorem tw202 : (Jvm.Cond.methodLink "LeaseLand$Sales" (3 : Nat) ({ cls := "java/lang/Object", name := "<init>", desc := "()V" } : Jvm.MethodName)) ∈ mj_tbl := mj_w 255 (by decide +kernel) (by decide +kernel)
theorem tw63 : (Jvm.Cond.arrayClass Jvm.ClassFile.FieldType.int) ∈ mj_tbl := mj_w 116 (by decide +kernel) (by decide +kernel)
def rm_X10_init : Room := { frames := 1, cells := 2, slots := 40, locals := 20 }
theorem dX10_init_0 : decode cX10_init 0 = .ok (.aload_n 0, 1) := by decide +kernel
theorem dX10_init_1 : decode cX10_init 1 = .ok (.invokespecial 3, 3) := by decide +kernel
theorem dX10_init_4 : decode cX10_init 4 = .ok (.aload_n 0, 1) := by decide +kernel
theorem dX10_init_5 : decode cX10_init 5 = .ok (.bipush 20, 2) := by decide +kernel
theorem dX10_init_7 : decode cX10_init 7 = .ok (.newarray .int, 2) := by decide +kernel
theorem dX10_init_9 : decode cX10_init 9 = .ok (.putfield 9, 3) := by decide +kernel
theorem dX10_init_12 : decode cX10_init 12 = .ok (.aload_n 0, 1) := by decide +kernel
theorem dX10_init_13 : decode cX10_init 13 = .ok (.bipush 20, 2) := by decide +kernel
theorem dX10_init_15 : decode cX10_init 15 = .ok (.newarray .int, 2) := by decide +kernel
theorem dX10_init_17 : decode cX10_init 17 = .ok (.putfield 15, 3) := by decide +kernel
theorem dX10_init_20 : decode cX10_init 20 = .ok (.return_, 1) := by decide +kernel
def vc_X10_init (l0 : Nat) (M : mj_M) (post : Unit → mj_M → Prop) : Prop := (¬ l0 = 0) ∧ ∀ M2 : mj_M, M2 = mj_newa M 101 20 → mj_tag M2 l0 = 11 ∧ ∀ M5 : mj_M, M5 = mj_newa (mj_wr M2 l0 0 (mj_nx M)) 101 20 → mj_tag M5 l0 = 11 ∧ post () (mj_wr M5 l0 1 (mj_nx M2))
set_option maxHeartbeats 4000000 in
set_option maxRecDepth 100000 in
theorem ct_X10_init {l : Launch} {base : Nat} {D : va_G} {A : ClassId × ClassId × ClassId} (l0 : Nat) (M : mj_M) (post : Unit → mj_M → Prop) (h : vc_X10_init l0 M post) : mj_Met l base D A mj_jV yX10_init cX10_init 1 (none) rm_X10_init 2 40 [vR l0] M post := by
  refine mj_entry (by decide +kernel) (Nat.le_of_ble_eq_true rfl) (fun g hC hE h1 h2 h3 h4 => ?_)
  show mj_X g 0 [(0, vR l0)] [] M 0 0
  simp only [vc_X10_init] at h
  refine mx_aload_n (j := 0) hC dX10_init_0 rfl rfl ?_
  obtain ⟨hn1, h⟩ := h
  refine mx_oinit hC tw202 tw_oi tw_oc hn1 (Nat.le_of_ble_eq_true rfl) ⟨by decide, by decide⟩ dX10_init_1 ?_
  refine mx_aload_n (j := 0) hC dX10_init_4 rfl rfl ?_
  refine mx_bipush (v := 20) hC dX10_init_5 (by decide) ?_
  refine mx_newi (N := 20) (k' := 1) (n' := 20) hC tw63 (by decide) (by decide) (by decide) ⟨rfl, by decide, by decide, by decide⟩ dX10_init_7 ?_
  obtain ⟨M2, eM2⟩ : ∃ z : mj_M, z = mj_newa M 101 20 := ⟨_, rfl⟩
  replace h := h M2 eM2
  have ht3 : mj_tag M2 (mj_nx M) = 101 := by rw [eM2]; exact mj_u1_at _
  refine mx_setM eM2.symm ?_
  obtain ⟨ht4, h⟩ := h
  refine mx_put (v := vR (mj_nx M)) (M1 := mj_wr M2 l0 0 (mj_nx M)) hC tf_X10_9 ht4 (Or.inr ⟨rfl, rfl⟩) (mj_fitA (mj_nx M) _) (mj_off_wr _ _ _ _) mj_put_wa dX10_init_9 ?_
  refine mx_aload_n (j := 0) hC dX10_init_12 rfl rfl ?_
  refine mx_bipush (v := 20) hC dX10_init_13 (by decide) ?_
  refine mx_newi (N := 20) (k' := 2) (n' := 40) hC tw63 (by decide) (by decide) (by decide) ⟨rfl, by decide, by decide, by decide⟩ dX10_init_15 ?_
  obtain ⟨M5, eM5⟩ : ∃ z : mj_M, z = mj_newa (mj_wr M2 l0 0 (mj_nx M)) 101 20 := ⟨_, rfl⟩
  replace h := h M5 eM5
  have ht6 : mj_tag M5 (mj_nx M2) = 101 := by rw [eM5]; exact mj_u1_at _
  refine mx_setM eM5.symm ?_
  obtain ⟨ht7, h⟩ := h
  refine mx_put (v := vR (mj_nx M2)) (M1 := mj_wr M5 l0 1 (mj_nx M2)) hC tf_X10_15 ht7 (Or.inr ⟨rfl, rfl⟩) (mj_fitA (mj_nx M2) _) (mj_off_wr _ _ _ _) mj_put_wa dX10_init_17 ?_
  exact mx_vret hC hE rfl dX10_init_20 h
theorem tw205 : (Jvm.Cond.fieldLink "LeaseLand$Sales" (18 : Nat) "LeaseLand$Sales" "count" "I") ∈ mj_tbl := mj_w 258 (by decide +kernel) (by decide +kernel)
theorem tf_X10_18 : mj_F 10 2 .int false "LeaseLand$Sales" 18 := ⟨_, tk10, by decide, rfl, rfl, rfl, tw205⟩
def rm_X10_add : Room := { frames := 0, cells := 0, slots := 0, locals := 0 }
theorem dX10_add_0 : decode cX10_add 0 = .ok (.aload_n 0, 1) := by decide +kernel
theorem dX10_add_1 : decode cX10_add 1 = .ok (.getfield 18, 3) := by decide +kernel
theorem dX10_add_4 : decode cX10_add 4 = .ok (.bipush 20, 2) := by decide +kernel
theorem dX10_add_6 : decode cX10_add 6 = .ok (.if_icmp .lt 6, 3) := by decide +kernel
theorem dX10_add_9 : decode cX10_add 9 = .ok (.bipush (-4), 2) := by decide +kernel
theorem dX10_add_11 : decode cX10_add 11 = .ok (.ireturn, 1) := by decide +kernel
theorem dX10_add_12 : decode cX10_add 12 = .ok (.aload_n 0, 1) := by decide +kernel
theorem dX10_add_13 : decode cX10_add 13 = .ok (.getfield 9, 3) := by decide +kernel
theorem dX10_add_16 : decode cX10_add 16 = .ok (.aload_n 0, 1) := by decide +kernel
theorem dX10_add_17 : decode cX10_add 17 = .ok (.getfield 18, 3) := by decide +kernel
theorem dX10_add_20 : decode cX10_add 20 = .ok (.iload_n 1, 1) := by decide +kernel
theorem dX10_add_21 : decode cX10_add 21 = .ok (.iastore, 1) := by decide +kernel
theorem dX10_add_22 : decode cX10_add 22 = .ok (.aload_n 0, 1) := by decide +kernel
theorem dX10_add_23 : decode cX10_add 23 = .ok (.getfield 15, 3) := by decide +kernel
theorem dX10_add_26 : decode cX10_add 26 = .ok (.aload_n 0, 1) := by decide +kernel
theorem dX10_add_27 : decode cX10_add 27 = .ok (.getfield 18, 3) := by decide +kernel
theorem dX10_add_30 : decode cX10_add 30 = .ok (.iload_n 2, 1) := by decide +kernel
theorem dX10_add_31 : decode cX10_add 31 = .ok (.iastore, 1) := by decide +kernel
theorem dX10_add_32 : decode cX10_add 32 = .ok (.aload_n 0, 1) := by decide +kernel
theorem dX10_add_33 : decode cX10_add 33 = .ok (.dup, 1) := by decide +kernel
theorem dX10_add_34 : decode cX10_add 34 = .ok (.getfield 18, 3) := by decide +kernel
theorem dX10_add_37 : decode cX10_add 37 = .ok (.iconst 1, 1) := by decide +kernel
theorem dX10_add_38 : decode cX10_add 38 = .ok (.iadd, 1) := by decide +kernel
theorem dX10_add_39 : decode cX10_add 39 = .ok (.putfield 18, 3) := by decide +kernel
theorem dX10_add_42 : decode cX10_add 42 = .ok (.aload_n 0, 1) := by decide +kernel
theorem dX10_add_43 : decode cX10_add 43 = .ok (.getfield 18, 3) := by decide +kernel
theorem dX10_add_46 : decode cX10_add 46 = .ok (.ireturn, 1) := by decide +kernel
def vc_X10_add (l0 : Nat) (l1 : Int32) (l2 : Int32) (M : mj_M) (post : Int32 → mj_M → Prop) : Prop := mj_tag M l0 = 11 ∧ if (mj_i M l0 2) < 20 then (mj_tag M (mj_r M l0 0) = 101 ∧ vp_in (mj_i M l0 2) (mj_len M (mj_r M l0 0)) ∧ mj_tag M (mj_r M l0 1) = 101 ∧ vp_in (mj_i (mj_wi M (mj_r M l0 0) (mj_i M l0 2 : Int32).toNatClampNeg l1) l0 2) (mj_len M (mj_r M l0 1)) ∧ post (mj_i (mj_wi (mj_wi (mj_wi M (mj_r M l0 0) (mj_i M l0 2 : Int32).toNatClampNeg l1) (mj_r M l0 1) (mj_i (mj_wi M (mj_r M l0 0) (mj_i M l0 2 : Int32).toNatClampNeg l1) l0 2 : Int32).toNatClampNeg l2) l0 2 ((mj_i (mj_wi (mj_wi M (mj_r M l0 0) (mj_i M l0 2 : Int32).toNatClampNeg l1) (mj_r M l0 1) (mj_i (mj_wi M (mj_r M l0 0) (mj_i M l0 2 : Int32).toNatClampNeg l1) l0 2 : Int32).toNatClampNeg l2) l0 2) + 1)) l0 2) (mj_wi (mj_wi (mj_wi M (mj_r M l0 0) (mj_i M l0 2 : Int32).toNatClampNeg l1) (mj_r M l0 1) (mj_i (mj_wi M (mj_r M l0 0) (mj_i M l0 2 : Int32).toNatClampNeg l1) l0 2 : Int32).toNatClampNeg l2) l0 2 ((mj_i (mj_wi (mj_wi M (mj_r M l0 0) (mj_i M l0 2 : Int32).toNatClampNeg l1) (mj_r M l0 1) (mj_i (mj_wi M (mj_r M l0 0) (mj_i M l0 2 : Int32).toNatClampNeg l1) l0 2 : Int32).toNatClampNeg l2) l0 2) + 1))) else (post ((-4)) M)
set_option maxHeartbeats 4000000 in
set_option maxRecDepth 100000 in
theorem ct_X10_add {l : Launch} {base : Nat} {D : va_G} {A : ClassId × ClassId × ClassId} (l0 : Nat) (l1 : Int32) (l2 : Int32) (M : mj_M) (post : Int32 → mj_M → Prop) (h : vc_X10_add l0 l1 l2 M post) : mj_Met l base D A mj_jI yX10_add cX10_add 3 (some .int) rm_X10_add 0 0 [vR l0, vI l1, vI l2] M post := by
  refine mj_entry (by decide +kernel) (Nat.le_of_ble_eq_true rfl) (fun g hC hE h1 h2 h3 h4 => ?_)
  show mj_X g 0 [(0, vR l0), (1, vI l1), (2, vI l2)] [] M 0 0
  simp only [vc_X10_add] at h
  refine mx_aload_n (j := 0) hC dX10_add_0 rfl rfl ?_
  obtain ⟨ht1, h⟩ := h
  refine mx_get (v := vI (mj_i M l0 2)) hC tf_X10_18 ht1 rfl dX10_add_1 ?_
  refine mx_bipush (v := 20) hC dX10_add_4 (by decide) ?_
  refine mx_icmplt (tgt := 12) hC dX10_add_6 (by decide) (fun hc2 => ?_) (fun hc2 => ?_)
  · replace h := mj_yy hc2 h
    refine mx_aload_n (j := 0) hC dX10_add_12 rfl rfl ?_
    refine mx_get (v := vR (mj_r M l0 0)) hC tf_X10_9 ht1 rfl dX10_add_13 ?_
    refine mx_aload_n (j := 0) hC dX10_add_16 rfl rfl ?_
    refine mx_get (v := vI (mj_i M l0 2)) hC tf_X10_18 ht1 rfl dX10_add_17 ?_
    refine mx_iload_n (j := 1) hC dX10_add_20 rfl rfl ?_
    obtain ⟨ht3, h⟩ := h
    obtain ⟨hi4, h⟩ := h
    refine mx_iastore hC ht3 hi4 dX10_add_21 ?_
    refine mx_aload_n (j := 0) hC dX10_add_22 rfl rfl ?_
    refine mx_get (v := vR (mj_r M l0 1)) hC tf_X10_15 ht1 rfl dX10_add_23 ?_
    refine mx_aload_n (j := 0) hC dX10_add_26 rfl rfl ?_
    refine mx_get (v := vI (mj_i (mj_wi M (mj_r M l0 0) (mj_i M l0 2 : Int32).toNatClampNeg l1) l0 2)) hC tf_X10_18 ht1 rfl dX10_add_27 ?_
    refine mx_iload_n (j := 2) hC dX10_add_30 rfl rfl ?_
    obtain ⟨ht5, h⟩ := h
    obtain ⟨hi6, h⟩ := h
    refine mx_iastore hC ht5 hi6 dX10_add_31 ?_
    refine mx_aload_n (j := 0) hC dX10_add_32 rfl rfl ?_
    refine mx_dup hC dX10_add_33 rfl ?_
    refine mx_get (v := vI (mj_i (mj_wi (mj_wi M (mj_r M l0 0) (mj_i M l0 2 : Int32).toNatClampNeg l1) (mj_r M l0 1) (mj_i (mj_wi M (mj_r M l0 0) (mj_i M l0 2 : Int32).toNatClampNeg l1) l0 2 : Int32).toNatClampNeg l2) l0 2)) hC tf_X10_18 ht1 rfl dX10_add_34 ?_
    refine mx_iconst (v := 1) hC dX10_add_37 (by decide) ?_
    refine mx_iadd hC dX10_add_38 ?_
    refine mx_put (v := vI ((mj_i (mj_wi (mj_wi M (mj_r M l0 0) (mj_i M l0 2 : Int32).toNatClampNeg l1) (mj_r M l0 1) (mj_i (mj_wi M (mj_r M l0 0) (mj_i M l0 2 : Int32).toNatClampNeg l1) l0 2 : Int32).toNatClampNeg l2) l0 2) + 1)) (M1 := mj_wi (mj_wi (mj_wi M (mj_r M l0 0) (mj_i M l0 2 : Int32).toNatClampNeg l1) (mj_r M l0 1) (mj_i (mj_wi M (mj_r M l0 0) (mj_i M l0 2 : Int32).toNatClampNeg l1) l0 2 : Int32).toNatClampNeg l2) l0 2 ((mj_i (mj_wi (mj_wi M (mj_r M l0 0) (mj_i M l0 2 : Int32).toNatClampNeg l1) (mj_r M l0 1) (mj_i (mj_wi M (mj_r M l0 0) (mj_i M l0 2 : Int32).toNatClampNeg l1) l0 2 : Int32).toNatClampNeg l2) l0 2) + 1)) hC tf_X10_18 ht1 (Or.inl rfl) ⟨rfl, rfl⟩ (mj_off_wi _ _ _ _) mj_put_wi dX10_add_39 ?_
    refine mx_aload_n (j := 0) hC dX10_add_42 rfl rfl ?_
    refine mx_get (v := vI (mj_i (mj_wi (mj_wi (mj_wi M (mj_r M l0 0) (mj_i M l0 2 : Int32).toNatClampNeg l1) (mj_r M l0 1) (mj_i (mj_wi M (mj_r M l0 0) (mj_i M l0 2 : Int32).toNatClampNeg l1) l0 2 : Int32).toNatClampNeg l2) l0 2 ((mj_i (mj_wi (mj_wi M (mj_r M l0 0) (mj_i M l0 2 : Int32).toNatClampNeg l1) (mj_r M l0 1) (mj_i (mj_wi M (mj_r M l0 0) (mj_i M l0 2 : Int32).toNatClampNeg l1) l0 2 : Int32).toNatClampNeg l2) l0 2) + 1)) l0 2)) hC tf_X10_18 ht1 rfl dX10_add_43 ?_
    exact mx_iret hC hE rfl dX10_add_46 h
  · replace h := mj_nn hc2 h
    refine mx_bipush (v := (-4)) hC dX10_add_9 (by decide) ?_
    exact mx_iret hC hE rfl dX10_add_11 h
theorem tw207 : (Jvm.Cond.fieldLink "LeaseLand$Sales" (22 : Nat) "LeaseLand$Sales" "many" "J") ∈ mj_tbl := mj_w 260 (by decide +kernel) (by decide +kernel)
theorem tf_X10_22 : mj_F 10 3 .long false "LeaseLand$Sales" 22 := ⟨_, tk10, by decide, rfl, rfl, rfl, tw207⟩
theorem tw208 : (Jvm.Cond.fieldLink "LeaseLand$Sales" (26 : Nat) "LeaseLand$Sales" "sumYears" "J") ∈ mj_tbl := mj_w 261 (by decide +kernel) (by decide +kernel)
theorem tf_X10_26 : mj_F 10 4 .long false "LeaseLand$Sales" 26 := ⟨_, tk10, by decide, rfl, rfl, rfl, tw208⟩
theorem tw209 : (Jvm.Cond.fieldLink "LeaseLand$Sales" (29 : Nat) "LeaseLand$Sales" "sumParts" "J") ∈ mj_tbl := mj_w 262 (by decide +kernel) (by decide +kernel)
theorem tf_X10_29 : mj_F 10 5 .long false "LeaseLand$Sales" 29 := ⟨_, tk10, by decide, rfl, rfl, rfl, tw209⟩
theorem tw210 : (Jvm.Cond.fieldLink "LeaseLand$Sales" (32 : Nat) "LeaseLand$Sales" "spread" "J") ∈ mj_tbl := mj_w 263 (by decide +kernel) (by decide +kernel)
theorem tf_X10_32 : mj_F 10 6 .long false "LeaseLand$Sales" 32 := ⟨_, tk10, by decide, rfl, rfl, rfl, tw210⟩
theorem tw211 : (Jvm.Cond.fieldLink "LeaseLand$Sales" (35 : Nat) "LeaseLand$Sales" "slope" "J") ∈ mj_tbl := mj_w 264 (by decide +kernel) (by decide +kernel)
theorem tf_X10_35 : mj_F 10 7 .long false "LeaseLand$Sales" 35 := ⟨_, tk10, by decide, rfl, rfl, rfl, tw211⟩
def rm_X10_learn : Room := { frames := 0, cells := 0, slots := 0, locals := 0 }
theorem dX10_learn_0 : decode cX10_learn 0 = .ok (.aload_n 0, 1) := by decide +kernel
theorem dX10_learn_1 : decode cX10_learn 1 = .ok (.lconst 0, 1) := by decide +kernel
theorem dX10_learn_2 : decode cX10_learn 2 = .ok (.putfield 22, 3) := by decide +kernel
theorem dX10_learn_5 : decode cX10_learn 5 = .ok (.aload_n 0, 1) := by decide +kernel
theorem dX10_learn_6 : decode cX10_learn 6 = .ok (.lconst 0, 1) := by decide +kernel
theorem dX10_learn_7 : decode cX10_learn 7 = .ok (.putfield 26, 3) := by decide +kernel
theorem dX10_learn_10 : decode cX10_learn 10 = .ok (.aload_n 0, 1) := by decide +kernel
theorem dX10_learn_11 : decode cX10_learn 11 = .ok (.lconst 0, 1) := by decide +kernel
theorem dX10_learn_12 : decode cX10_learn 12 = .ok (.putfield 29, 3) := by decide +kernel
theorem dX10_learn_15 : decode cX10_learn 15 = .ok (.lconst 0, 1) := by decide +kernel
theorem dX10_learn_16 : decode cX10_learn 16 = .ok (.lstore_n 2, 1) := by decide +kernel
theorem dX10_learn_17 : decode cX10_learn 17 = .ok (.lconst 0, 1) := by decide +kernel
theorem dX10_learn_18 : decode cX10_learn 18 = .ok (.lstore 4, 2) := by decide +kernel
theorem dX10_learn_20 : decode cX10_learn 20 = .ok (.iconst 0, 1) := by decide +kernel
theorem dX10_learn_21 : decode cX10_learn 21 = .ok (.istore 6, 2) := by decide +kernel
theorem dX10_learn_23 : decode cX10_learn 23 = .ok (.iload 6, 2) := by decide +kernel
theorem dX10_learn_25 : decode cX10_learn 25 = .ok (.aload_n 0, 1) := by decide +kernel
theorem dX10_learn_26 : decode cX10_learn 26 = .ok (.getfield 18, 3) := by decide +kernel
theorem dX10_learn_29 : decode cX10_learn 29 = .ok (.if_icmp .ge 101, 3) := by decide +kernel
theorem dX10_learn_32 : decode cX10_learn 32 = .ok (.iload 6, 2) := by decide +kernel
theorem dX10_learn_34 : decode cX10_learn 34 = .ok (.iload_n 1, 1) := by decide +kernel
theorem dX10_learn_35 : decode cX10_learn 35 = .ok (.if_icmp .eq 89, 3) := by decide +kernel
theorem dX10_learn_38 : decode cX10_learn 38 = .ok (.aload_n 0, 1) := by decide +kernel
theorem dX10_learn_39 : decode cX10_learn 39 = .ok (.dup, 1) := by decide +kernel
theorem dX10_learn_40 : decode cX10_learn 40 = .ok (.getfield 22, 3) := by decide +kernel
theorem dX10_learn_43 : decode cX10_learn 43 = .ok (.lconst 1, 1) := by decide +kernel
theorem dX10_learn_44 : decode cX10_learn 44 = .ok (.ladd, 1) := by decide +kernel
theorem dX10_learn_45 : decode cX10_learn 45 = .ok (.putfield 22, 3) := by decide +kernel
theorem dX10_learn_48 : decode cX10_learn 48 = .ok (.aload_n 0, 1) := by decide +kernel
theorem dX10_learn_49 : decode cX10_learn 49 = .ok (.dup, 1) := by decide +kernel
theorem dX10_learn_50 : decode cX10_learn 50 = .ok (.getfield 26, 3) := by decide +kernel
theorem dX10_learn_53 : decode cX10_learn 53 = .ok (.aload_n 0, 1) := by decide +kernel
theorem dX10_learn_54 : decode cX10_learn 54 = .ok (.getfield 9, 3) := by decide +kernel
theorem dX10_learn_57 : decode cX10_learn 57 = .ok (.iload 6, 2) := by decide +kernel
theorem dX10_learn_59 : decode cX10_learn 59 = .ok (.iaload, 1) := by decide +kernel
theorem dX10_learn_60 : decode cX10_learn 60 = .ok (.i2l, 1) := by decide +kernel
theorem dX10_learn_61 : decode cX10_learn 61 = .ok (.ladd, 1) := by decide +kernel
theorem dX10_learn_62 : decode cX10_learn 62 = .ok (.putfield 26, 3) := by decide +kernel
theorem dX10_learn_65 : decode cX10_learn 65 = .ok (.aload_n 0, 1) := by decide +kernel
theorem dX10_learn_66 : decode cX10_learn 66 = .ok (.dup, 1) := by decide +kernel
theorem dX10_learn_67 : decode cX10_learn 67 = .ok (.getfield 29, 3) := by decide +kernel
theorem dX10_learn_70 : decode cX10_learn 70 = .ok (.aload_n 0, 1) := by decide +kernel
theorem dX10_learn_71 : decode cX10_learn 71 = .ok (.getfield 15, 3) := by decide +kernel
theorem dX10_learn_74 : decode cX10_learn 74 = .ok (.iload 6, 2) := by decide +kernel
theorem dX10_learn_76 : decode cX10_learn 76 = .ok (.iaload, 1) := by decide +kernel
theorem dX10_learn_77 : decode cX10_learn 77 = .ok (.i2l, 1) := by decide +kernel
theorem dX10_learn_78 : decode cX10_learn 78 = .ok (.ladd, 1) := by decide +kernel
theorem dX10_learn_79 : decode cX10_learn 79 = .ok (.putfield 29, 3) := by decide +kernel
theorem dX10_learn_82 : decode cX10_learn 82 = .ok (.lload_n 2, 1) := by decide +kernel
theorem dX10_learn_83 : decode cX10_learn 83 = .ok (.aload_n 0, 1) := by decide +kernel
theorem dX10_learn_84 : decode cX10_learn 84 = .ok (.getfield 9, 3) := by decide +kernel
theorem dX10_learn_87 : decode cX10_learn 87 = .ok (.iload 6, 2) := by decide +kernel
theorem dX10_learn_89 : decode cX10_learn 89 = .ok (.iaload, 1) := by decide +kernel
theorem dX10_learn_90 : decode cX10_learn 90 = .ok (.i2l, 1) := by decide +kernel
theorem dX10_learn_91 : decode cX10_learn 91 = .ok (.aload_n 0, 1) := by decide +kernel
theorem dX10_learn_92 : decode cX10_learn 92 = .ok (.getfield 9, 3) := by decide +kernel
theorem dX10_learn_95 : decode cX10_learn 95 = .ok (.iload 6, 2) := by decide +kernel
theorem dX10_learn_97 : decode cX10_learn 97 = .ok (.iaload, 1) := by decide +kernel
theorem dX10_learn_98 : decode cX10_learn 98 = .ok (.i2l, 1) := by decide +kernel
theorem dX10_learn_99 : decode cX10_learn 99 = .ok (.lmul, 1) := by decide +kernel
theorem dX10_learn_100 : decode cX10_learn 100 = .ok (.ladd, 1) := by decide +kernel
theorem dX10_learn_101 : decode cX10_learn 101 = .ok (.lstore_n 2, 1) := by decide +kernel
theorem dX10_learn_102 : decode cX10_learn 102 = .ok (.lload 4, 2) := by decide +kernel
theorem dX10_learn_104 : decode cX10_learn 104 = .ok (.aload_n 0, 1) := by decide +kernel
theorem dX10_learn_105 : decode cX10_learn 105 = .ok (.getfield 9, 3) := by decide +kernel
theorem dX10_learn_108 : decode cX10_learn 108 = .ok (.iload 6, 2) := by decide +kernel
theorem dX10_learn_110 : decode cX10_learn 110 = .ok (.iaload, 1) := by decide +kernel
theorem dX10_learn_111 : decode cX10_learn 111 = .ok (.i2l, 1) := by decide +kernel
theorem dX10_learn_112 : decode cX10_learn 112 = .ok (.aload_n 0, 1) := by decide +kernel
theorem dX10_learn_113 : decode cX10_learn 113 = .ok (.getfield 15, 3) := by decide +kernel
theorem dX10_learn_116 : decode cX10_learn 116 = .ok (.iload 6, 2) := by decide +kernel
theorem dX10_learn_118 : decode cX10_learn 118 = .ok (.iaload, 1) := by decide +kernel
theorem dX10_learn_119 : decode cX10_learn 119 = .ok (.i2l, 1) := by decide +kernel
theorem dX10_learn_120 : decode cX10_learn 120 = .ok (.lmul, 1) := by decide +kernel
theorem dX10_learn_121 : decode cX10_learn 121 = .ok (.ladd, 1) := by decide +kernel
theorem dX10_learn_122 : decode cX10_learn 122 = .ok (.lstore 4, 2) := by decide +kernel
theorem dX10_learn_124 : decode cX10_learn 124 = .ok (.iinc 6 1, 3) := by decide +kernel
theorem dX10_learn_127 : decode cX10_learn 127 = .ok (.goto (-104), 3) := by decide +kernel
theorem dX10_learn_130 : decode cX10_learn 130 = .ok (.aload_n 0, 1) := by decide +kernel
theorem dX10_learn_131 : decode cX10_learn 131 = .ok (.aload_n 0, 1) := by decide +kernel
theorem dX10_learn_132 : decode cX10_learn 132 = .ok (.getfield 22, 3) := by decide +kernel
theorem dX10_learn_135 : decode cX10_learn 135 = .ok (.lload_n 2, 1) := by decide +kernel
theorem dX10_learn_136 : decode cX10_learn 136 = .ok (.lmul, 1) := by decide +kernel
theorem dX10_learn_137 : decode cX10_learn 137 = .ok (.aload_n 0, 1) := by decide +kernel
theorem dX10_learn_138 : decode cX10_learn 138 = .ok (.getfield 26, 3) := by decide +kernel
theorem dX10_learn_141 : decode cX10_learn 141 = .ok (.aload_n 0, 1) := by decide +kernel
theorem dX10_learn_142 : decode cX10_learn 142 = .ok (.getfield 26, 3) := by decide +kernel
theorem dX10_learn_145 : decode cX10_learn 145 = .ok (.lmul, 1) := by decide +kernel
theorem dX10_learn_146 : decode cX10_learn 146 = .ok (.lsub, 1) := by decide +kernel
theorem dX10_learn_147 : decode cX10_learn 147 = .ok (.putfield 32, 3) := by decide +kernel
theorem dX10_learn_150 : decode cX10_learn 150 = .ok (.aload_n 0, 1) := by decide +kernel
theorem dX10_learn_151 : decode cX10_learn 151 = .ok (.aload_n 0, 1) := by decide +kernel
theorem dX10_learn_152 : decode cX10_learn 152 = .ok (.getfield 22, 3) := by decide +kernel
theorem dX10_learn_155 : decode cX10_learn 155 = .ok (.lload 4, 2) := by decide +kernel
theorem dX10_learn_157 : decode cX10_learn 157 = .ok (.lmul, 1) := by decide +kernel
theorem dX10_learn_158 : decode cX10_learn 158 = .ok (.aload_n 0, 1) := by decide +kernel
theorem dX10_learn_159 : decode cX10_learn 159 = .ok (.getfield 26, 3) := by decide +kernel
theorem dX10_learn_162 : decode cX10_learn 162 = .ok (.aload_n 0, 1) := by decide +kernel
theorem dX10_learn_163 : decode cX10_learn 163 = .ok (.getfield 29, 3) := by decide +kernel
theorem dX10_learn_166 : decode cX10_learn 166 = .ok (.lmul, 1) := by decide +kernel
theorem dX10_learn_167 : decode cX10_learn 167 = .ok (.lsub, 1) := by decide +kernel
theorem dX10_learn_168 : decode cX10_learn 168 = .ok (.putfield 35, 3) := by decide +kernel
theorem dX10_learn_171 : decode cX10_learn 171 = .ok (.aload_n 0, 1) := by decide +kernel
theorem dX10_learn_172 : decode cX10_learn 172 = .ok (.getfield 32, 3) := by decide +kernel
theorem dX10_learn_175 : decode cX10_learn 175 = .ok (.lconst 0, 1) := by decide +kernel
theorem dX10_learn_176 : decode cX10_learn 176 = .ok (.lcmp, 1) := by decide +kernel
theorem dX10_learn_177 : decode cX10_learn 177 = .ok (.ifCond .eq 7, 3) := by decide +kernel
theorem dX10_learn_180 : decode cX10_learn 180 = .ok (.iconst 1, 1) := by decide +kernel
theorem dX10_learn_181 : decode cX10_learn 181 = .ok (.goto 4, 3) := by decide +kernel
theorem dX10_learn_184 : decode cX10_learn 184 = .ok (.iconst 0, 1) := by decide +kernel
theorem dX10_learn_185 : decode cX10_learn 185 = .ok (.ireturn, 1) := by decide +kernel
def vb_X10_learn_23 (post : Bool → mj_M → Prop) : Nat → Nat → Int32 → Int64 → Int64 → Int32 → mj_M → Prop
  | 0 => fun _ _ _ _ _ _ => False
  | f + 1 => fun l0 l1 l2 l4 l6 M => mj_tag M l0 = 11 ∧ if (mj_i M l0 2) ≤ l6 then (if (lg_cmp (mj_l (mj_wl (mj_wl M l0 6 (((mj_l M l0 3) * l2) - ((mj_l M l0 4) * (mj_l M l0 4)))) l0 7 (((mj_l (mj_wl M l0 6 (((mj_l M l0 3) * l2) - ((mj_l M l0 4) * (mj_l M l0 4)))) l0 3) * l4) - ((mj_l (mj_wl M l0 6 (((mj_l M l0 3) * l2) - ((mj_l M l0 4) * (mj_l M l0 4)))) l0 4) * (mj_l (mj_wl M l0 6 (((mj_l M l0 3) * l2) - ((mj_l M l0 4) * (mj_l M l0 4)))) l0 5)))) l0 6) 0) = 0 then (post false (mj_wl (mj_wl M l0 6 (((mj_l M l0 3) * l2) - ((mj_l M l0 4) * (mj_l M l0 4)))) l0 7 (((mj_l (mj_wl M l0 6 (((mj_l M l0 3) * l2) - ((mj_l M l0 4) * (mj_l M l0 4)))) l0 3) * l4) - ((mj_l (mj_wl M l0 6 (((mj_l M l0 3) * l2) - ((mj_l M l0 4) * (mj_l M l0 4)))) l0 4) * (mj_l (mj_wl M l0 6 (((mj_l M l0 3) * l2) - ((mj_l M l0 4) * (mj_l M l0 4)))) l0 5))))) else (post true (mj_wl (mj_wl M l0 6 (((mj_l M l0 3) * l2) - ((mj_l M l0 4) * (mj_l M l0 4)))) l0 7 (((mj_l (mj_wl M l0 6 (((mj_l M l0 3) * l2) - ((mj_l M l0 4) * (mj_l M l0 4)))) l0 3) * l4) - ((mj_l (mj_wl M l0 6 (((mj_l M l0 3) * l2) - ((mj_l M l0 4) * (mj_l M l0 4)))) l0 4) * (mj_l (mj_wl M l0 6 (((mj_l M l0 3) * l2) - ((mj_l M l0 4) * (mj_l M l0 4)))) l0 5)))))) else (if l6 = l1 then (vb_X10_learn_23 post f l0 l1 l2 l4 (l6 + 1) M) else (mj_tag M (mj_r M l0 0) = 101 ∧ vp_in l6 (mj_len M (mj_r M l0 0)) ∧ mj_tag M (mj_r M l0 1) = 101 ∧ vp_in l6 (mj_len M (mj_r M l0 1)) ∧ vb_X10_learn_23 post f l0 l1 (l2 + (((mj_i M (mj_r M l0 0) (l6 : Int32).toNatClampNeg : Int32).toInt64) * ((mj_i M (mj_r M l0 0) (l6 : Int32).toNatClampNeg : Int32).toInt64))) (l4 + (((mj_i M (mj_r M l0 0) (l6 : Int32).toNatClampNeg : Int32).toInt64) * ((mj_i M (mj_r M l0 1) (l6 : Int32).toNatClampNeg : Int32).toInt64))) (l6 + 1) (mj_wl (mj_wl (mj_wl M l0 3 ((mj_l M l0 3) + 1)) l0 4 ((mj_l (mj_wl M l0 3 ((mj_l M l0 3) + 1)) l0 4) + ((mj_i M (mj_r M l0 0) (l6 : Int32).toNatClampNeg : Int32).toInt64))) l0 5 ((mj_l (mj_wl (mj_wl M l0 3 ((mj_l M l0 3) + 1)) l0 4 ((mj_l (mj_wl M l0 3 ((mj_l M l0 3) + 1)) l0 4) + ((mj_i M (mj_r M l0 0) (l6 : Int32).toNatClampNeg : Int32).toInt64))) l0 5) + ((mj_i M (mj_r M l0 1) (l6 : Int32).toNatClampNeg : Int32).toInt64)))))
def vc_X10_learn (l0 : Nat) (l1 : Int32) (M : mj_M) (post : Bool → mj_M → Prop) : Prop := mj_tag M l0 = 11 ∧ ∃ fe, vb_X10_learn_23 post fe l0 l1 0 0 0 (mj_wl (mj_wl (mj_wl M l0 3 0) l0 4 0) l0 5 0)
set_option maxHeartbeats 4000000 in
set_option maxRecDepth 100000 in
theorem xb_X10_learn_23 {g : mj_G} {post : Bool → mj_M → Prop} (hC : mj_C g yX10_learn cX10_learn 7 (some .boolean) rm_X10_learn) (hE : mj_E g mj_jB post 0 0) : ∀ (f : Nat) (l0 : Nat) (l1 : Int32) (l2 : Int64) (l4 : Int64) (l6 : Int32) (M : mj_M), vb_X10_learn_23 post f l0 l1 l2 l4 l6 M → mj_X g 23 [(0, vR l0), (1, vI l1), (2, vL l2), (4, vL l4), (6, vI l6)] [] M 0 0 := by
  intro f
  induction f with
  | zero => exact fun _ _ _ _ _ _ h => absurd h (fun z => z)
  | succ f ih =>
    intro l0 l1 l2 l4 l6 M h
    simp only [vb_X10_learn_23] at h
    refine mx_iload (j := 4) hC dX10_learn_23 rfl ?_
    refine mx_aload_n (j := 0) hC dX10_learn_25 rfl rfl ?_
    obtain ⟨ht1, h⟩ := h
    refine mx_get (v := vI (mj_i M l0 2)) hC tf_X10_18 ht1 rfl dX10_learn_26 ?_
    refine mx_icmpge (tgt := 130) hC dX10_learn_29 (by decide) (fun hc2 => ?_) (fun hc2 => ?_)
    · replace h := mj_yy hc2 h
      refine mx_aload_n (j := 0) hC dX10_learn_130 rfl rfl ?_
      refine mx_aload_n (j := 0) hC dX10_learn_131 rfl rfl ?_
      refine mx_get (v := vL (mj_l M l0 3)) hC tf_X10_22 ht1 rfl dX10_learn_132 ?_
      refine mx_lload_n (j := 2) hC dX10_learn_135 rfl rfl ?_
      refine mx_lmul hC dX10_learn_136 ?_
      refine mx_aload_n (j := 0) hC dX10_learn_137 rfl rfl ?_
      refine mx_get (v := vL (mj_l M l0 4)) hC tf_X10_26 ht1 rfl dX10_learn_138 ?_
      refine mx_aload_n (j := 0) hC dX10_learn_141 rfl rfl ?_
      refine mx_get (v := vL (mj_l M l0 4)) hC tf_X10_26 ht1 rfl dX10_learn_142 ?_
      refine mx_lmul hC dX10_learn_145 ?_
      refine mx_lsub hC dX10_learn_146 ?_
      refine mx_put (v := vL (((mj_l M l0 3) * l2) - ((mj_l M l0 4) * (mj_l M l0 4)))) (M1 := mj_wl M l0 6 (((mj_l M l0 3) * l2) - ((mj_l M l0 4) * (mj_l M l0 4)))) hC tf_X10_32 ht1 (Or.inl rfl) ⟨rfl, rfl⟩ (mj_off_wl _ _ _ _) mj_put_wl dX10_learn_147 ?_
      refine mx_aload_n (j := 0) hC dX10_learn_150 rfl rfl ?_
      refine mx_aload_n (j := 0) hC dX10_learn_151 rfl rfl ?_
      refine mx_get (v := vL (mj_l (mj_wl M l0 6 (((mj_l M l0 3) * l2) - ((mj_l M l0 4) * (mj_l M l0 4)))) l0 3)) hC tf_X10_22 ht1 rfl dX10_learn_152 ?_
      refine mx_lload (j := 3) hC dX10_learn_155 rfl ?_
      refine mx_lmul hC dX10_learn_157 ?_
      refine mx_aload_n (j := 0) hC dX10_learn_158 rfl rfl ?_
      refine mx_get (v := vL (mj_l (mj_wl M l0 6 (((mj_l M l0 3) * l2) - ((mj_l M l0 4) * (mj_l M l0 4)))) l0 4)) hC tf_X10_26 ht1 rfl dX10_learn_159 ?_
      refine mx_aload_n (j := 0) hC dX10_learn_162 rfl rfl ?_
      refine mx_get (v := vL (mj_l (mj_wl M l0 6 (((mj_l M l0 3) * l2) - ((mj_l M l0 4) * (mj_l M l0 4)))) l0 5)) hC tf_X10_29 ht1 rfl dX10_learn_163 ?_
      refine mx_lmul hC dX10_learn_166 ?_
      refine mx_lsub hC dX10_learn_167 ?_
      refine mx_put (v := vL (((mj_l (mj_wl M l0 6 (((mj_l M l0 3) * l2) - ((mj_l M l0 4) * (mj_l M l0 4)))) l0 3) * l4) - ((mj_l (mj_wl M l0 6 (((mj_l M l0 3) * l2) - ((mj_l M l0 4) * (mj_l M l0 4)))) l0 4) * (mj_l (mj_wl M l0 6 (((mj_l M l0 3) * l2) - ((mj_l M l0 4) * (mj_l M l0 4)))) l0 5)))) (M1 := mj_wl (mj_wl M l0 6 (((mj_l M l0 3) * l2) - ((mj_l M l0 4) * (mj_l M l0 4)))) l0 7 (((mj_l (mj_wl M l0 6 (((mj_l M l0 3) * l2) - ((mj_l M l0 4) * (mj_l M l0 4)))) l0 3) * l4) - ((mj_l (mj_wl M l0 6 (((mj_l M l0 3) * l2) - ((mj_l M l0 4) * (mj_l M l0 4)))) l0 4) * (mj_l (mj_wl M l0 6 (((mj_l M l0 3) * l2) - ((mj_l M l0 4) * (mj_l M l0 4)))) l0 5)))) hC tf_X10_35 ht1 (Or.inl rfl) ⟨rfl, rfl⟩ (mj_off_wl _ _ _ _) mj_put_wl dX10_learn_168 ?_
      refine mx_aload_n (j := 0) hC dX10_learn_171 rfl rfl ?_
      refine mx_get (v := vL (mj_l (mj_wl (mj_wl M l0 6 (((mj_l M l0 3) * l2) - ((mj_l M l0 4) * (mj_l M l0 4)))) l0 7 (((mj_l (mj_wl M l0 6 (((mj_l M l0 3) * l2) - ((mj_l M l0 4) * (mj_l M l0 4)))) l0 3) * l4) - ((mj_l (mj_wl M l0 6 (((mj_l M l0 3) * l2) - ((mj_l M l0 4) * (mj_l M l0 4)))) l0 4) * (mj_l (mj_wl M l0 6 (((mj_l M l0 3) * l2) - ((mj_l M l0 4) * (mj_l M l0 4)))) l0 5)))) l0 6)) hC tf_X10_32 ht1 rfl dX10_learn_172 ?_
      refine mx_lconst (v := 0) hC dX10_learn_175 (by decide) ?_
      refine mx_lcmp hC dX10_learn_176 ?_
      refine mx_ifeq (tgt := 184) hC dX10_learn_177 (by decide) (fun hc3 => ?_) (fun hc3 => ?_)
      · replace h := mj_yy hc3 h
        refine mx_iconst (v := 0) hC dX10_learn_184 (by decide) ?_
        exact mx_zret (b := false) hC hE rfl dX10_learn_185 h
      · replace h := mj_nn hc3 h
        refine mx_iconst (v := 1) hC dX10_learn_180 (by decide) ?_
        refine mx_goto (tgt := 185) hC dX10_learn_181 (by decide) ?_
        exact mx_zret (b := true) hC hE rfl dX10_learn_185 h
    · replace h := mj_nn hc2 h
      refine mx_iload (j := 4) hC dX10_learn_32 rfl ?_
      refine mx_iload_n (j := 1) hC dX10_learn_34 rfl rfl ?_
      refine mx_icmpeq (tgt := 124) hC dX10_learn_35 (by decide) (fun hc4 => ?_) (fun hc4 => ?_)
      · replace h := mj_yy hc4 h
        refine mx_iinc (j := 4) (v := l6 + 1) (L' := [(6, vI (l6 + 1)), (0, vR l0), (1, vI l1), (2, vL l2), (4, vL l4)]) hC dX10_learn_124 rfl rfl (by decide) rfl ?_
        refine mx_goto (tgt := 23) hC dX10_learn_127 (by decide) ?_
        refine mx_sub (L' := [(0, vR l0), (1, vI l1), (2, vL l2), (4, vL l4), (6, vI (l6 + 1))]) [1, 2, 3, 4, 0] rfl ?_
        exact show mj_X g 23 [(0, vR l0), (1, vI l1), (2, vL l2), (4, vL l4), (6, vI (l6 + 1))] [] M 0 0 from (ih l0 l1 l2 l4 (l6 + 1) M h)
      · replace h := mj_nn hc4 h
        refine mx_aload_n (j := 0) hC dX10_learn_38 rfl rfl ?_
        refine mx_dup hC dX10_learn_39 rfl ?_
        refine mx_get (v := vL (mj_l M l0 3)) hC tf_X10_22 ht1 rfl dX10_learn_40 ?_
        refine mx_lconst (v := 1) hC dX10_learn_43 (by decide) ?_
        refine mx_ladd hC dX10_learn_44 ?_
        refine mx_put (v := vL ((mj_l M l0 3) + 1)) (M1 := mj_wl M l0 3 ((mj_l M l0 3) + 1)) hC tf_X10_22 ht1 (Or.inl rfl) ⟨rfl, rfl⟩ (mj_off_wl _ _ _ _) mj_put_wl dX10_learn_45 ?_
        refine mx_aload_n (j := 0) hC dX10_learn_48 rfl rfl ?_
        refine mx_dup hC dX10_learn_49 rfl ?_
        refine mx_get (v := vL (mj_l (mj_wl M l0 3 ((mj_l M l0 3) + 1)) l0 4)) hC tf_X10_26 ht1 rfl dX10_learn_50 ?_
        refine mx_aload_n (j := 0) hC dX10_learn_53 rfl rfl ?_
        refine mx_get (v := vR (mj_r M l0 0)) hC tf_X10_9 ht1 rfl dX10_learn_54 ?_
        refine mx_iload (j := 4) hC dX10_learn_57 rfl ?_
        obtain ⟨ht5, h⟩ := h
        obtain ⟨hi6, h⟩ := h
        refine mx_iaload hC ht5 hi6 dX10_learn_59 ?_
        refine mx_i2l hC dX10_learn_60 ?_
        refine mx_ladd hC dX10_learn_61 ?_
        refine mx_put (v := vL ((mj_l (mj_wl M l0 3 ((mj_l M l0 3) + 1)) l0 4) + ((mj_i M (mj_r M l0 0) (l6 : Int32).toNatClampNeg : Int32).toInt64))) (M1 := mj_wl (mj_wl M l0 3 ((mj_l M l0 3) + 1)) l0 4 ((mj_l (mj_wl M l0 3 ((mj_l M l0 3) + 1)) l0 4) + ((mj_i M (mj_r M l0 0) (l6 : Int32).toNatClampNeg : Int32).toInt64))) hC tf_X10_26 ht1 (Or.inl rfl) ⟨rfl, rfl⟩ (mj_off_wl _ _ _ _) mj_put_wl dX10_learn_62 ?_
        refine mx_aload_n (j := 0) hC dX10_learn_65 rfl rfl ?_
        refine mx_dup hC dX10_learn_66 rfl ?_
        refine mx_get (v := vL (mj_l (mj_wl (mj_wl M l0 3 ((mj_l M l0 3) + 1)) l0 4 ((mj_l (mj_wl M l0 3 ((mj_l M l0 3) + 1)) l0 4) + ((mj_i M (mj_r M l0 0) (l6 : Int32).toNatClampNeg : Int32).toInt64))) l0 5)) hC tf_X10_29 ht1 rfl dX10_learn_67 ?_
        refine mx_aload_n (j := 0) hC dX10_learn_70 rfl rfl ?_
        refine mx_get (v := vR (mj_r M l0 1)) hC tf_X10_15 ht1 rfl dX10_learn_71 ?_
        refine mx_iload (j := 4) hC dX10_learn_74 rfl ?_
        obtain ⟨ht7, h⟩ := h
        obtain ⟨hi8, h⟩ := h
        refine mx_iaload hC ht7 hi8 dX10_learn_76 ?_
        refine mx_i2l hC dX10_learn_77 ?_
        refine mx_ladd hC dX10_learn_78 ?_
        refine mx_put (v := vL ((mj_l (mj_wl (mj_wl M l0 3 ((mj_l M l0 3) + 1)) l0 4 ((mj_l (mj_wl M l0 3 ((mj_l M l0 3) + 1)) l0 4) + ((mj_i M (mj_r M l0 0) (l6 : Int32).toNatClampNeg : Int32).toInt64))) l0 5) + ((mj_i M (mj_r M l0 1) (l6 : Int32).toNatClampNeg : Int32).toInt64))) (M1 := mj_wl (mj_wl (mj_wl M l0 3 ((mj_l M l0 3) + 1)) l0 4 ((mj_l (mj_wl M l0 3 ((mj_l M l0 3) + 1)) l0 4) + ((mj_i M (mj_r M l0 0) (l6 : Int32).toNatClampNeg : Int32).toInt64))) l0 5 ((mj_l (mj_wl (mj_wl M l0 3 ((mj_l M l0 3) + 1)) l0 4 ((mj_l (mj_wl M l0 3 ((mj_l M l0 3) + 1)) l0 4) + ((mj_i M (mj_r M l0 0) (l6 : Int32).toNatClampNeg : Int32).toInt64))) l0 5) + ((mj_i M (mj_r M l0 1) (l6 : Int32).toNatClampNeg : Int32).toInt64))) hC tf_X10_29 ht1 (Or.inl rfl) ⟨rfl, rfl⟩ (mj_off_wl _ _ _ _) mj_put_wl dX10_learn_79 ?_
        refine mx_lload_n (j := 2) hC dX10_learn_82 rfl rfl ?_
        refine mx_aload_n (j := 0) hC dX10_learn_83 rfl rfl ?_
        refine mx_get (v := vR (mj_r M l0 0)) hC tf_X10_9 ht1 rfl dX10_learn_84 ?_
        refine mx_iload (j := 4) hC dX10_learn_87 rfl ?_
        refine mx_iaload hC ht5 hi6 dX10_learn_89 ?_
        refine mx_i2l hC dX10_learn_90 ?_
        refine mx_aload_n (j := 0) hC dX10_learn_91 rfl rfl ?_
        refine mx_get (v := vR (mj_r M l0 0)) hC tf_X10_9 ht1 rfl dX10_learn_92 ?_
        refine mx_iload (j := 4) hC dX10_learn_95 rfl ?_
        refine mx_iaload hC ht5 hi6 dX10_learn_97 ?_
        refine mx_i2l hC dX10_learn_98 ?_
        refine mx_lmul hC dX10_learn_99 ?_
        refine mx_ladd hC dX10_learn_100 ?_
        refine mx_lstore_n (L' := [(2, vL (l2 + (((mj_i M (mj_r M l0 0) (l6 : Int32).toNatClampNeg : Int32).toInt64) * ((mj_i M (mj_r M l0 0) (l6 : Int32).toNatClampNeg : Int32).toInt64)))), (0, vR l0), (1, vI l1), (4, vL l4), (6, vI l6)]) hC dX10_learn_101 rfl (by decide) rfl ?_
        refine mx_lload (j := 3) hC dX10_learn_102 rfl ?_
        refine mx_aload_n (j := 1) hC dX10_learn_104 rfl rfl ?_
        refine mx_get (v := vR (mj_r M l0 0)) hC tf_X10_9 ht1 rfl dX10_learn_105 ?_
        refine mx_iload (j := 4) hC dX10_learn_108 rfl ?_
        refine mx_iaload hC ht5 hi6 dX10_learn_110 ?_
        refine mx_i2l hC dX10_learn_111 ?_
        refine mx_aload_n (j := 1) hC dX10_learn_112 rfl rfl ?_
        refine mx_get (v := vR (mj_r M l0 1)) hC tf_X10_15 ht1 rfl dX10_learn_113 ?_
        refine mx_iload (j := 4) hC dX10_learn_116 rfl ?_
        refine mx_iaload hC ht7 hi8 dX10_learn_118 ?_
        refine mx_i2l hC dX10_learn_119 ?_
        refine mx_lmul hC dX10_learn_120 ?_
        refine mx_ladd hC dX10_learn_121 ?_
        refine mx_lstore (L' := [(4, vL (l4 + (((mj_i M (mj_r M l0 0) (l6 : Int32).toNatClampNeg : Int32).toInt64) * ((mj_i M (mj_r M l0 1) (l6 : Int32).toNatClampNeg : Int32).toInt64)))), (2, vL (l2 + (((mj_i M (mj_r M l0 0) (l6 : Int32).toNatClampNeg : Int32).toInt64) * ((mj_i M (mj_r M l0 0) (l6 : Int32).toNatClampNeg : Int32).toInt64)))), (0, vR l0), (1, vI l1), (6, vI l6)]) hC dX10_learn_122 (by decide) rfl ?_
        refine mx_iinc (j := 4) (v := l6 + 1) (L' := [(6, vI (l6 + 1)), (4, vL (l4 + (((mj_i M (mj_r M l0 0) (l6 : Int32).toNatClampNeg : Int32).toInt64) * ((mj_i M (mj_r M l0 1) (l6 : Int32).toNatClampNeg : Int32).toInt64)))), (2, vL (l2 + (((mj_i M (mj_r M l0 0) (l6 : Int32).toNatClampNeg : Int32).toInt64) * ((mj_i M (mj_r M l0 0) (l6 : Int32).toNatClampNeg : Int32).toInt64)))), (0, vR l0), (1, vI l1)]) hC dX10_learn_124 rfl rfl (by decide) rfl ?_
        refine mx_goto (tgt := 23) hC dX10_learn_127 (by decide) ?_
        refine mx_sub (L' := [(0, vR l0), (1, vI l1), (2, vL (l2 + (((mj_i M (mj_r M l0 0) (l6 : Int32).toNatClampNeg : Int32).toInt64) * ((mj_i M (mj_r M l0 0) (l6 : Int32).toNatClampNeg : Int32).toInt64)))), (4, vL (l4 + (((mj_i M (mj_r M l0 0) (l6 : Int32).toNatClampNeg : Int32).toInt64) * ((mj_i M (mj_r M l0 1) (l6 : Int32).toNatClampNeg : Int32).toInt64)))), (6, vI (l6 + 1))]) [3, 4, 2, 1, 0] rfl ?_
        exact show mj_X g 23 [(0, vR l0), (1, vI l1), (2, vL (l2 + (((mj_i M (mj_r M l0 0) (l6 : Int32).toNatClampNeg : Int32).toInt64) * ((mj_i M (mj_r M l0 0) (l6 : Int32).toNatClampNeg : Int32).toInt64)))), (4, vL (l4 + (((mj_i M (mj_r M l0 0) (l6 : Int32).toNatClampNeg : Int32).toInt64) * ((mj_i M (mj_r M l0 1) (l6 : Int32).toNatClampNeg : Int32).toInt64)))), (6, vI (l6 + 1))] [] (mj_wl (mj_wl (mj_wl M l0 3 ((mj_l M l0 3) + 1)) l0 4 ((mj_l (mj_wl M l0 3 ((mj_l M l0 3) + 1)) l0 4) + ((mj_i M (mj_r M l0 0) (l6 : Int32).toNatClampNeg : Int32).toInt64))) l0 5 ((mj_l (mj_wl (mj_wl M l0 3 ((mj_l M l0 3) + 1)) l0 4 ((mj_l (mj_wl M l0 3 ((mj_l M l0 3) + 1)) l0 4) + ((mj_i M (mj_r M l0 0) (l6 : Int32).toNatClampNeg : Int32).toInt64))) l0 5) + ((mj_i M (mj_r M l0 1) (l6 : Int32).toNatClampNeg : Int32).toInt64))) 0 0 from (ih l0 l1 (l2 + (((mj_i M (mj_r M l0 0) (l6 : Int32).toNatClampNeg : Int32).toInt64) * ((mj_i M (mj_r M l0 0) (l6 : Int32).toNatClampNeg : Int32).toInt64))) (l4 + (((mj_i M (mj_r M l0 0) (l6 : Int32).toNatClampNeg : Int32).toInt64) * ((mj_i M (mj_r M l0 1) (l6 : Int32).toNatClampNeg : Int32).toInt64))) (l6 + 1) (mj_wl (mj_wl (mj_wl M l0 3 ((mj_l M l0 3) + 1)) l0 4 ((mj_l (mj_wl M l0 3 ((mj_l M l0 3) + 1)) l0 4) + ((mj_i M (mj_r M l0 0) (l6 : Int32).toNatClampNeg : Int32).toInt64))) l0 5 ((mj_l (mj_wl (mj_wl M l0 3 ((mj_l M l0 3) + 1)) l0 4 ((mj_l (mj_wl M l0 3 ((mj_l M l0 3) + 1)) l0 4) + ((mj_i M (mj_r M l0 0) (l6 : Int32).toNatClampNeg : Int32).toInt64))) l0 5) + ((mj_i M (mj_r M l0 1) (l6 : Int32).toNatClampNeg : Int32).toInt64))) h)
set_option maxHeartbeats 4000000 in
set_option maxRecDepth 100000 in
theorem ct_X10_learn {l : Launch} {base : Nat} {D : va_G} {A : ClassId × ClassId × ClassId} (l0 : Nat) (l1 : Int32) (M : mj_M) (post : Bool → mj_M → Prop) (h : vc_X10_learn l0 l1 M post) : mj_Met l base D A mj_jB yX10_learn cX10_learn 7 (some .boolean) rm_X10_learn 0 0 [vR l0, vI l1] M post := by
  refine mj_entry (by decide +kernel) (Nat.le_of_ble_eq_true rfl) (fun g hC hE h1 h2 h3 h4 => ?_)
  show mj_X g 0 [(0, vR l0), (1, vI l1)] [] M 0 0
  simp only [vc_X10_learn] at h
  refine mx_aload_n (j := 0) hC dX10_learn_0 rfl rfl ?_
  refine mx_lconst (v := 0) hC dX10_learn_1 (by decide) ?_
  obtain ⟨ht9, h⟩ := h
  refine mx_put (v := vL 0) (M1 := mj_wl M l0 3 0) hC tf_X10_22 ht9 (Or.inl rfl) ⟨rfl, rfl⟩ (mj_off_wl _ _ _ _) mj_put_wl dX10_learn_2 ?_
  refine mx_aload_n (j := 0) hC dX10_learn_5 rfl rfl ?_
  refine mx_lconst (v := 0) hC dX10_learn_6 (by decide) ?_
  refine mx_put (v := vL 0) (M1 := mj_wl (mj_wl M l0 3 0) l0 4 0) hC tf_X10_26 ht9 (Or.inl rfl) ⟨rfl, rfl⟩ (mj_off_wl _ _ _ _) mj_put_wl dX10_learn_7 ?_
  refine mx_aload_n (j := 0) hC dX10_learn_10 rfl rfl ?_
  refine mx_lconst (v := 0) hC dX10_learn_11 (by decide) ?_
  refine mx_put (v := vL 0) (M1 := mj_wl (mj_wl (mj_wl M l0 3 0) l0 4 0) l0 5 0) hC tf_X10_29 ht9 (Or.inl rfl) ⟨rfl, rfl⟩ (mj_off_wl _ _ _ _) mj_put_wl dX10_learn_12 ?_
  refine mx_lconst (v := 0) hC dX10_learn_15 (by decide) ?_
  refine mx_lstore_n (L' := [(2, vL 0), (0, vR l0), (1, vI l1)]) hC dX10_learn_16 rfl (by decide) rfl ?_
  refine mx_lconst (v := 0) hC dX10_learn_17 (by decide) ?_
  refine mx_lstore (L' := [(4, vL 0), (2, vL 0), (0, vR l0), (1, vI l1)]) hC dX10_learn_18 (by decide) rfl ?_
  refine mx_iconst (v := 0) hC dX10_learn_20 (by decide) ?_
  refine mx_istore (L' := [(6, vI 0), (4, vL 0), (2, vL 0), (0, vR l0), (1, vI l1)]) hC dX10_learn_21 (by decide) rfl ?_
  refine mx_sub (L' := [(0, vR l0), (1, vI l1), (2, vL 0), (4, vL 0), (6, vI 0)]) [3, 4, 2, 1, 0] rfl ?_
  obtain ⟨fe, h⟩ := h
  exact show mj_X g 23 [(0, vR l0), (1, vI l1), (2, vL 0), (4, vL 0), (6, vI 0)] [] (mj_wl (mj_wl (mj_wl M l0 3 0) l0 4 0) l0 5 0) 0 0 from (xb_X10_learn_23 hC hE fe l0 l1 0 0 0 (mj_wl (mj_wl (mj_wl M l0 3 0) l0 4 0) l0 5 0) h)
def rm_X10_lower : Room := { frames := 0, cells := 0, slots := 0, locals := 0 }
theorem dX10_lower_0 : decode cX10_lower 0 = .ok (.aload_n 0, 1) := by decide +kernel
theorem dX10_lower_1 : decode cX10_lower 1 = .ok (.getfield 22, 3) := by decide +kernel
theorem dX10_lower_4 : decode cX10_lower 4 = .ok (.aload_n 0, 1) := by decide +kernel
theorem dX10_lower_5 : decode cX10_lower 5 = .ok (.getfield 32, 3) := by decide +kernel
theorem dX10_lower_8 : decode cX10_lower 8 = .ok (.lmul, 1) := by decide +kernel
theorem dX10_lower_9 : decode cX10_lower 9 = .ok (.lreturn, 1) := by decide +kernel
def vc_X10_lower (l0 : Nat) (M : mj_M) (post : Int64 → mj_M → Prop) : Prop := mj_tag M l0 = 11 ∧ post ((mj_l M l0 3) * (mj_l M l0 6)) M
set_option maxHeartbeats 4000000 in
set_option maxRecDepth 100000 in
theorem ct_X10_lower {l : Launch} {base : Nat} {D : va_G} {A : ClassId × ClassId × ClassId} (l0 : Nat) (M : mj_M) (post : Int64 → mj_M → Prop) (h : vc_X10_lower l0 M post) : mj_Met l base D A mj_jL yX10_lower cX10_lower 1 (some .long) rm_X10_lower 0 0 [vR l0] M post := by
  refine mj_entry (by decide +kernel) (Nat.le_of_ble_eq_true rfl) (fun g hC hE h1 h2 h3 h4 => ?_)
  show mj_X g 0 [(0, vR l0)] [] M 0 0
  simp only [vc_X10_lower] at h
  refine mx_aload_n (j := 0) hC dX10_lower_0 rfl rfl ?_
  obtain ⟨ht1, h⟩ := h
  refine mx_get (v := vL (mj_l M l0 3)) hC tf_X10_22 ht1 rfl dX10_lower_1 ?_
  refine mx_aload_n (j := 0) hC dX10_lower_4 rfl rfl ?_
  refine mx_get (v := vL (mj_l M l0 6)) hC tf_X10_32 ht1 rfl dX10_lower_5 ?_
  refine mx_lmul hC dX10_lower_8 ?_
  exact mx_lret hC hE rfl dX10_lower_9 h
def rm_X10_upperAt : Room := { frames := 0, cells := 0, slots := 0, locals := 0 }
theorem dX10_upperAt_0 : decode cX10_upperAt 0 = .ok (.aload_n 0, 1) := by decide +kernel
theorem dX10_upperAt_1 : decode cX10_upperAt 1 = .ok (.getfield 29, 3) := by decide +kernel
theorem dX10_upperAt_4 : decode cX10_upperAt 4 = .ok (.aload_n 0, 1) := by decide +kernel
theorem dX10_upperAt_5 : decode cX10_upperAt 5 = .ok (.getfield 32, 3) := by decide +kernel
theorem dX10_upperAt_8 : decode cX10_upperAt 8 = .ok (.lmul, 1) := by decide +kernel
theorem dX10_upperAt_9 : decode cX10_upperAt 9 = .ok (.aload_n 0, 1) := by decide +kernel
theorem dX10_upperAt_10 : decode cX10_upperAt 10 = .ok (.getfield 35, 3) := by decide +kernel
theorem dX10_upperAt_13 : decode cX10_upperAt 13 = .ok (.aload_n 0, 1) := by decide +kernel
theorem dX10_upperAt_14 : decode cX10_upperAt 14 = .ok (.getfield 22, 3) := by decide +kernel
theorem dX10_upperAt_17 : decode cX10_upperAt 17 = .ok (.iload_n 1, 1) := by decide +kernel
theorem dX10_upperAt_18 : decode cX10_upperAt 18 = .ok (.i2l, 1) := by decide +kernel
theorem dX10_upperAt_19 : decode cX10_upperAt 19 = .ok (.lmul, 1) := by decide +kernel
theorem dX10_upperAt_20 : decode cX10_upperAt 20 = .ok (.aload_n 0, 1) := by decide +kernel
theorem dX10_upperAt_21 : decode cX10_upperAt 21 = .ok (.getfield 26, 3) := by decide +kernel
theorem dX10_upperAt_24 : decode cX10_upperAt 24 = .ok (.lsub, 1) := by decide +kernel
theorem dX10_upperAt_25 : decode cX10_upperAt 25 = .ok (.lmul, 1) := by decide +kernel
theorem dX10_upperAt_26 : decode cX10_upperAt 26 = .ok (.ladd, 1) := by decide +kernel
theorem dX10_upperAt_27 : decode cX10_upperAt 27 = .ok (.lreturn, 1) := by decide +kernel
def vc_X10_upperAt (l0 : Nat) (l1 : Int32) (M : mj_M) (post : Int64 → mj_M → Prop) : Prop := mj_tag M l0 = 11 ∧ post (((mj_l M l0 5) * (mj_l M l0 6)) + ((mj_l M l0 7) * (((mj_l M l0 3) * ((l1 : Int32).toInt64)) - (mj_l M l0 4)))) M
set_option maxHeartbeats 4000000 in
set_option maxRecDepth 100000 in
theorem ct_X10_upperAt {l : Launch} {base : Nat} {D : va_G} {A : ClassId × ClassId × ClassId} (l0 : Nat) (l1 : Int32) (M : mj_M) (post : Int64 → mj_M → Prop) (h : vc_X10_upperAt l0 l1 M post) : mj_Met l base D A mj_jL yX10_upperAt cX10_upperAt 2 (some .long) rm_X10_upperAt 0 0 [vR l0, vI l1] M post := by
  refine mj_entry (by decide +kernel) (Nat.le_of_ble_eq_true rfl) (fun g hC hE h1 h2 h3 h4 => ?_)
  show mj_X g 0 [(0, vR l0), (1, vI l1)] [] M 0 0
  simp only [vc_X10_upperAt] at h
  refine mx_aload_n (j := 0) hC dX10_upperAt_0 rfl rfl ?_
  obtain ⟨ht1, h⟩ := h
  refine mx_get (v := vL (mj_l M l0 5)) hC tf_X10_29 ht1 rfl dX10_upperAt_1 ?_
  refine mx_aload_n (j := 0) hC dX10_upperAt_4 rfl rfl ?_
  refine mx_get (v := vL (mj_l M l0 6)) hC tf_X10_32 ht1 rfl dX10_upperAt_5 ?_
  refine mx_lmul hC dX10_upperAt_8 ?_
  refine mx_aload_n (j := 0) hC dX10_upperAt_9 rfl rfl ?_
  refine mx_get (v := vL (mj_l M l0 7)) hC tf_X10_35 ht1 rfl dX10_upperAt_10 ?_
  refine mx_aload_n (j := 0) hC dX10_upperAt_13 rfl rfl ?_
  refine mx_get (v := vL (mj_l M l0 3)) hC tf_X10_22 ht1 rfl dX10_upperAt_14 ?_
  refine mx_iload_n (j := 1) hC dX10_upperAt_17 rfl rfl ?_
  refine mx_i2l hC dX10_upperAt_18 ?_
  refine mx_lmul hC dX10_upperAt_19 ?_
  refine mx_aload_n (j := 0) hC dX10_upperAt_20 rfl rfl ?_
  refine mx_get (v := vL (mj_l M l0 4)) hC tf_X10_26 ht1 rfl dX10_upperAt_21 ?_
  refine mx_lsub hC dX10_upperAt_24 ?_
  refine mx_lmul hC dX10_upperAt_25 ?_
  refine mx_ladd hC dX10_upperAt_26 ?_
  exact mx_lret hC hE rfl dX10_upperAt_27 h
theorem tw1050 : (Jvm.Cond.methodLink "LeaseLand$Sales" (46 : Nat) ({ cls := "java/lang/Math", name := "abs", desc := "(J)J" } : Jvm.MethodName)) ∈ mj_tbl := mj_w 1103 (by decide +kernel) (by decide +kernel)
theorem tw1053 : (Jvm.Cond.methodLink "LeaseLand$Sales" (38 : Nat) ({ cls := "LeaseLand$Sales", name := "lower", desc := "()J" } : Jvm.MethodName)) ∈ mj_tbl := mj_w 1106 (by decide +kernel) (by decide +kernel)
theorem tw1069 : (Jvm.Cond.methodLink "LeaseLand$Sales" (42 : Nat) ({ cls := "LeaseLand$Sales", name := "upperAt", desc := "(I)J" } : Jvm.MethodName)) ∈ mj_tbl := mj_w 1122 (by decide +kernel) (by decide +kernel)
theorem tw1070 : (Jvm.Cond.methodLink "LeaseLand$Sales" (52 : Nat) ({ cls := "java/lang/Math", name := "max", desc := "(JJ)J" } : Jvm.MethodName)) ∈ mj_tbl := mj_w 1123 (by decide +kernel) (by decide +kernel)
theorem tw1052 : (Jvm.Cond.code ({ cls := "java/lang/Math", name := "abs", desc := "(J)J" } : Jvm.MethodName) prog_18_method_61_code (2 : Nat) (Option.some Jvm.ClassFile.FieldType.long)) ∈ mj_tbl := mj_w 1105 (by decide +kernel) (by decide +kernel)
theorem tw1051 : (Jvm.Cond.static ({ cls := "java/lang/Math", name := "abs", desc := "(J)J" } : Jvm.MethodName)) ∈ mj_tbl := mj_w 1104 (by decide +kernel) (by decide +kernel)
theorem ty_J9_abs_067f4 : mj_YS yJ9_abs_067f4 cJ9_abs_067f4 2 (some .long) 1 := ⟨⟨tw1052, tw13, by decide +kernel, by decide +kernel, by decide +kernel⟩, tw1051⟩
theorem tw1072 : (Jvm.Cond.code ({ cls := "java/lang/Math", name := "max", desc := "(JJ)J" } : Jvm.MethodName) prog_18_method_66_code (4 : Nat) (Option.some Jvm.ClassFile.FieldType.long)) ∈ mj_tbl := mj_w 1125 (by decide +kernel) (by decide +kernel)
theorem tw1071 : (Jvm.Cond.static ({ cls := "java/lang/Math", name := "max", desc := "(JJ)J" } : Jvm.MethodName)) ∈ mj_tbl := mj_w 1124 (by decide +kernel) (by decide +kernel)
theorem ty_J9_max_f86c9 : mj_YS yJ9_max_f86c9 cJ9_max_f86c9 4 (some .long) 2 := ⟨⟨tw1072, tw13, by decide +kernel, by decide +kernel, by decide +kernel⟩, tw1071⟩
theorem tw1056 : (Jvm.Cond.code ({ cls := "LeaseLand$Sales", name := "lower", desc := "()J" } : Jvm.MethodName) prog_12_method_4_code (1 : Nat) (Option.some Jvm.ClassFile.FieldType.long)) ∈ mj_tbl := mj_w 1109 (by decide +kernel) (by decide +kernel)
theorem tw9 : (Jvm.Cond.initialized "LeaseLand$Sales") ∈ mj_tbl := mj_w 62 (by decide +kernel) (by decide +kernel)
theorem tw1054 : (Jvm.Cond.instanceMethod ({ cls := "LeaseLand$Sales", name := "lower", desc := "()J" } : Jvm.MethodName)) ∈ mj_tbl := mj_w 1107 (by decide +kernel) (by decide +kernel)
theorem tw1055 : (Jvm.Cond.selects "LeaseLand$Sales" ({ cls := "LeaseLand$Sales", name := "lower", desc := "()J" } : Jvm.MethodName) ({ cls := "LeaseLand$Sales", name := "lower", desc := "()J" } : Jvm.MethodName)) ∈ mj_tbl := mj_w 1108 (by decide +kernel) (by decide +kernel)
theorem ty_X10_lower : mj_YV 10 yX10_lower cX10_lower 1 (some .long) 0 := ⟨⟨tw1056, tw9, by decide +kernel, by decide +kernel, by decide +kernel⟩, tw1054, tw1055, _, rfl, rfl⟩
theorem tw1045 : (Jvm.Cond.code ({ cls := "LeaseLand$Sales", name := "upperAt", desc := "(I)J" } : Jvm.MethodName) prog_12_method_5_code (2 : Nat) (Option.some Jvm.ClassFile.FieldType.long)) ∈ mj_tbl := mj_w 1098 (by decide +kernel) (by decide +kernel)
theorem tw1043 : (Jvm.Cond.instanceMethod ({ cls := "LeaseLand$Sales", name := "upperAt", desc := "(I)J" } : Jvm.MethodName)) ∈ mj_tbl := mj_w 1096 (by decide +kernel) (by decide +kernel)
theorem tw1044 : (Jvm.Cond.selects "LeaseLand$Sales" ({ cls := "LeaseLand$Sales", name := "upperAt", desc := "(I)J" } : Jvm.MethodName) ({ cls := "LeaseLand$Sales", name := "upperAt", desc := "(I)J" } : Jvm.MethodName)) ∈ mj_tbl := mj_w 1097 (by decide +kernel) (by decide +kernel)
theorem ty_X10_upperAt : mj_YV 10 yX10_upperAt cX10_upperAt 2 (some .long) 1 := ⟨⟨tw1045, tw9, by decide +kernel, by decide +kernel, by decide +kernel⟩, tw1043, tw1044, _, rfl, rfl⟩
def rm_X10_farthestOff : Room := { frames := 1, cells := 0, slots := 0, locals := 23 }
theorem dX10_farthestOff_0 : decode cX10_farthestOff 0 = .ok (.lconst 0, 1) := by decide +kernel
theorem dX10_farthestOff_1 : decode cX10_farthestOff 1 = .ok (.lstore_n 1, 1) := by decide +kernel
theorem dX10_farthestOff_2 : decode cX10_farthestOff 2 = .ok (.iconst 0, 1) := by decide +kernel
theorem dX10_farthestOff_3 : decode cX10_farthestOff 3 = .ok (.istore_n 3, 1) := by decide +kernel
theorem dX10_farthestOff_4 : decode cX10_farthestOff 4 = .ok (.iload_n 3, 1) := by decide +kernel
theorem dX10_farthestOff_5 : decode cX10_farthestOff 5 = .ok (.aload_n 0, 1) := by decide +kernel
theorem dX10_farthestOff_6 : decode cX10_farthestOff 6 = .ok (.getfield 18, 3) := by decide +kernel
theorem dX10_farthestOff_9 : decode cX10_farthestOff 9 = .ok (.if_icmp .ge 40, 3) := by decide +kernel
theorem dX10_farthestOff_12 : decode cX10_farthestOff 12 = .ok (.lload_n 1, 1) := by decide +kernel
theorem dX10_farthestOff_13 : decode cX10_farthestOff 13 = .ok (.aload_n 0, 1) := by decide +kernel
theorem dX10_farthestOff_14 : decode cX10_farthestOff 14 = .ok (.getfield 15, 3) := by decide +kernel
theorem dX10_farthestOff_17 : decode cX10_farthestOff 17 = .ok (.iload_n 3, 1) := by decide +kernel
theorem dX10_farthestOff_18 : decode cX10_farthestOff 18 = .ok (.iaload, 1) := by decide +kernel
theorem dX10_farthestOff_19 : decode cX10_farthestOff 19 = .ok (.i2l, 1) := by decide +kernel
theorem dX10_farthestOff_20 : decode cX10_farthestOff 20 = .ok (.aload_n 0, 1) := by decide +kernel
theorem dX10_farthestOff_21 : decode cX10_farthestOff 21 = .ok (.invokevirtual 38, 3) := by decide +kernel
theorem dX10_farthestOff_24 : decode cX10_farthestOff 24 = .ok (.lmul, 1) := by decide +kernel
theorem dX10_farthestOff_25 : decode cX10_farthestOff 25 = .ok (.aload_n 0, 1) := by decide +kernel
theorem dX10_farthestOff_26 : decode cX10_farthestOff 26 = .ok (.aload_n 0, 1) := by decide +kernel
theorem dX10_farthestOff_27 : decode cX10_farthestOff 27 = .ok (.getfield 9, 3) := by decide +kernel
theorem dX10_farthestOff_30 : decode cX10_farthestOff 30 = .ok (.iload_n 3, 1) := by decide +kernel
theorem dX10_farthestOff_31 : decode cX10_farthestOff 31 = .ok (.iaload, 1) := by decide +kernel
theorem dX10_farthestOff_32 : decode cX10_farthestOff 32 = .ok (.invokevirtual 42, 3) := by decide +kernel
theorem dX10_farthestOff_35 : decode cX10_farthestOff 35 = .ok (.lsub, 1) := by decide +kernel
theorem dX10_farthestOff_36 : decode cX10_farthestOff 36 = .ok (.invokestatic 46, 3) := by decide +kernel
theorem dX10_farthestOff_39 : decode cX10_farthestOff 39 = .ok (.invokestatic 52, 3) := by decide +kernel
theorem dX10_farthestOff_42 : decode cX10_farthestOff 42 = .ok (.lstore_n 1, 1) := by decide +kernel
theorem dX10_farthestOff_43 : decode cX10_farthestOff 43 = .ok (.iinc 3 1, 3) := by decide +kernel
theorem dX10_farthestOff_46 : decode cX10_farthestOff 46 = .ok (.goto (-42), 3) := by decide +kernel
theorem dX10_farthestOff_49 : decode cX10_farthestOff 49 = .ok (.lload_n 1, 1) := by decide +kernel
theorem dX10_farthestOff_50 : decode cX10_farthestOff 50 = .ok (.lreturn, 1) := by decide +kernel
def vb_X10_farthestOff_4 (post : Int64 → mj_M → Prop) : Nat → Nat → Int64 → Int32 → mj_M → Prop
  | 0 => fun _ _ _ _ => False
  | f + 1 => fun l0 l1 l3 M => mj_tag M l0 = 11 ∧ if (mj_i M l0 2) ≤ l3 then (post l1 M) else (mj_tag M (mj_r M l0 1) = 101 ∧ vp_in l3 (mj_len M (mj_r M l0 1)) ∧ vc_X10_lower l0 M (fun r5 M6 => mj_tag M6 l0 = 11 ∧ mj_tag M6 (mj_r M6 l0 0) = 101 ∧ vp_in l3 (mj_len M6 (mj_r M6 l0 0)) ∧ vc_X10_upperAt l0 (mj_i M6 (mj_r M6 l0 0) (l3 : Int32).toNatClampNeg) M6 (fun r10 M11 => vc_J9_abs_067f4 ((((mj_i M (mj_r M l0 1) (l3 : Int32).toNatClampNeg : Int32).toInt64) * r5) - r10) M11 (fun r12 M13 => vc_J9_max_f86c9 l1 r12 M13 (fun r14 M15 => vb_X10_farthestOff_4 post f l0 r14 (l3 + 1) M15)))))
def vc_X10_farthestOff (l0 : Nat) (M : mj_M) (post : Int64 → mj_M → Prop) : Prop := ∃ fe, vb_X10_farthestOff_4 post fe l0 0 0 M
set_option maxHeartbeats 4000000 in
set_option maxRecDepth 100000 in
theorem xb_X10_farthestOff_4 {g : mj_G} {post : Int64 → mj_M → Prop} (hC : mj_C g yX10_farthestOff cX10_farthestOff 4 (some .long) rm_X10_farthestOff) (hE : mj_E g mj_jL post 0 0) : ∀ (f : Nat) (l0 : Nat) (l1 : Int64) (l3 : Int32) (M : mj_M), vb_X10_farthestOff_4 post f l0 l1 l3 M → mj_X g 4 [(0, vR l0), (1, vL l1), (3, vI l3)] [] M 0 0 := by
  intro f
  induction f with
  | zero => exact fun _ _ _ _ h => absurd h (fun z => z)
  | succ f ih =>
    intro l0 l1 l3 M h
    simp only [vb_X10_farthestOff_4] at h
    refine mx_iload_n (j := 2) hC dX10_farthestOff_4 rfl rfl ?_
    refine mx_aload_n (j := 0) hC dX10_farthestOff_5 rfl rfl ?_
    obtain ⟨ht1, h⟩ := h
    refine mx_get (v := vI (mj_i M l0 2)) hC tf_X10_18 ht1 rfl dX10_farthestOff_6 ?_
    refine mx_icmpge (tgt := 49) hC dX10_farthestOff_9 (by decide) (fun hc2 => ?_) (fun hc2 => ?_)
    · replace h := mj_yy hc2 h
      refine mx_lload_n (j := 1) hC dX10_farthestOff_49 rfl rfl ?_
      exact mx_lret hC hE rfl dX10_farthestOff_50 h
    · replace h := mj_nn hc2 h
      refine mx_lload_n (j := 1) hC dX10_farthestOff_12 rfl rfl ?_
      refine mx_aload_n (j := 0) hC dX10_farthestOff_13 rfl rfl ?_
      refine mx_get (v := vR (mj_r M l0 1)) hC tf_X10_15 ht1 rfl dX10_farthestOff_14 ?_
      refine mx_iload_n (j := 2) hC dX10_farthestOff_17 rfl rfl ?_
      obtain ⟨ht3, h⟩ := h
      obtain ⟨hi4, h⟩ := h
      refine mx_iaload hC ht3 hi4 dX10_farthestOff_18 ?_
      refine mx_i2l hC dX10_farthestOff_19 ?_
      refine mx_aload_n (j := 0) hC dX10_farthestOff_20 rfl rfl ?_
      refine mx_callV (inj := mj_jL) (As := []) (st := [vL ((mj_i M (mj_r M l0 1) (l3 : Int32).toNatClampNeg : Int32).toInt64), vL l1]) hC (ct_X10_lower l0 M _ h) ty_X10_lower tw1053 ht1 rfl (Nat.le_of_ble_eq_true rfl) ⟨rfl, rfl, ⟨by decide, by decide⟩, by decide, by decide⟩ dX10_farthestOff_21 (fun r5 M6 h => ?_)
      show mj_X g 24 [(0, vR l0), (1, vL l1), (3, vI l3)] [vL r5, vL ((mj_i M (mj_r M l0 1) (l3 : Int32).toNatClampNeg : Int32).toInt64), vL l1] M6 0 0
      refine mx_lmul hC dX10_farthestOff_24 ?_
      refine mx_aload_n (j := 0) hC dX10_farthestOff_25 rfl rfl ?_
      refine mx_aload_n (j := 0) hC dX10_farthestOff_26 rfl rfl ?_
      obtain ⟨ht7, h⟩ := h
      refine mx_get (v := vR (mj_r M6 l0 0)) hC tf_X10_9 ht7 rfl dX10_farthestOff_27 ?_
      refine mx_iload_n (j := 2) hC dX10_farthestOff_30 rfl rfl ?_
      obtain ⟨ht8, h⟩ := h
      obtain ⟨hi9, h⟩ := h
      refine mx_iaload hC ht8 hi9 dX10_farthestOff_31 ?_
      refine mx_callV (inj := mj_jL) (As := [vI (mj_i M6 (mj_r M6 l0 0) (l3 : Int32).toNatClampNeg)]) (st := [vL (((mj_i M (mj_r M l0 1) (l3 : Int32).toNatClampNeg : Int32).toInt64) * r5), vL l1]) hC (ct_X10_upperAt l0 (mj_i M6 (mj_r M6 l0 0) (l3 : Int32).toNatClampNeg) M6 _ h) ty_X10_upperAt tw1069 ht7 rfl (Nat.le_of_ble_eq_true rfl) ⟨rfl, rfl, ⟨by decide, by decide⟩, by decide, by decide⟩ dX10_farthestOff_32 (fun r10 M11 h => ?_)
      show mj_X g 35 [(0, vR l0), (1, vL l1), (3, vI l3)] [vL r10, vL (((mj_i M (mj_r M l0 1) (l3 : Int32).toNatClampNeg : Int32).toInt64) * r5), vL l1] M11 0 0
      refine mx_lsub hC dX10_farthestOff_35 ?_
      refine mx_callS (inj := mj_jL) (As := [vL ((((mj_i M (mj_r M l0 1) (l3 : Int32).toNatClampNeg : Int32).toInt64) * r5) - r10)]) (st := [vL l1]) hC (ct_J9_abs_067f4 ((((mj_i M (mj_r M l0 1) (l3 : Int32).toNatClampNeg : Int32).toInt64) * r5) - r10) M11 _ h) ty_J9_abs_067f4 tw1050 rfl (Nat.le_of_ble_eq_true rfl) ⟨rfl, rfl, ⟨by decide, by decide⟩, by decide, by decide⟩ dX10_farthestOff_36 (fun r12 M13 h => ?_)
      show mj_X g 39 [(0, vR l0), (1, vL l1), (3, vI l3)] [vL r12, vL l1] M13 0 0
      refine mx_callS (inj := mj_jL) (As := [vL l1, vL r12]) (st := []) hC (ct_J9_max_f86c9 l1 r12 M13 _ h) ty_J9_max_f86c9 tw1070 rfl (Nat.le_of_ble_eq_true rfl) ⟨rfl, rfl, ⟨by decide, by decide⟩, by decide, by decide⟩ dX10_farthestOff_39 (fun r14 M15 h => ?_)
      show mj_X g 42 [(0, vR l0), (1, vL l1), (3, vI l3)] [vL r14] M15 0 0
      refine mx_lstore_n (L' := [(1, vL r14), (0, vR l0), (3, vI l3)]) hC dX10_farthestOff_42 rfl (by decide) rfl ?_
      refine mx_iinc (j := 2) (v := l3 + 1) (L' := [(3, vI (l3 + 1)), (1, vL r14), (0, vR l0)]) hC dX10_farthestOff_43 rfl rfl (by decide) rfl ?_
      refine mx_goto (tgt := 4) hC dX10_farthestOff_46 (by decide) ?_
      refine mx_sub (L' := [(0, vR l0), (1, vL r14), (3, vI (l3 + 1))]) [2, 1, 0] rfl ?_
      exact show mj_X g 4 [(0, vR l0), (1, vL r14), (3, vI (l3 + 1))] [] M15 0 0 from (ih l0 r14 (l3 + 1) M15 h)
set_option maxHeartbeats 4000000 in
set_option maxRecDepth 100000 in
theorem ct_X10_farthestOff {l : Launch} {base : Nat} {D : va_G} {A : ClassId × ClassId × ClassId} (l0 : Nat) (M : mj_M) (post : Int64 → mj_M → Prop) (h : vc_X10_farthestOff l0 M post) : mj_Met l base D A mj_jL yX10_farthestOff cX10_farthestOff 4 (some .long) rm_X10_farthestOff 0 0 [vR l0] M post := by
  refine mj_entry (by decide +kernel) (Nat.le_of_ble_eq_true rfl) (fun g hC hE h1 h2 h3 h4 => ?_)
  show mj_X g 0 [(0, vR l0)] [] M 0 0
  simp only [vc_X10_farthestOff] at h
  refine mx_lconst (v := 0) hC dX10_farthestOff_0 (by decide) ?_
  refine mx_lstore_n (L' := [(1, vL 0), (0, vR l0)]) hC dX10_farthestOff_1 rfl (by decide) rfl ?_
  refine mx_iconst (v := 0) hC dX10_farthestOff_2 (by decide) ?_
  refine mx_istore_n (L' := [(3, vI 0), (1, vL 0), (0, vR l0)]) hC dX10_farthestOff_3 rfl (by decide) rfl ?_
  refine mx_sub (L' := [(0, vR l0), (1, vL 0), (3, vI 0)]) [2, 1, 0] rfl ?_
  obtain ⟨fe, h⟩ := h
  exact show mj_X g 4 [(0, vR l0), (1, vL 0), (3, vI 0)] [] M 0 0 from (xb_X10_farthestOff_4 hC hE fe l0 0 0 M h)
def rm_X10_commonDivisor : Room := { frames := 0, cells := 0, slots := 0, locals := 0 }
theorem dX10_commonDivisor_0 : decode cX10_commonDivisor 0 = .ok (.lload_n 1, 1) := by decide +kernel
theorem dX10_commonDivisor_1 : decode cX10_commonDivisor 1 = .ok (.lstore 5, 2) := by decide +kernel
theorem dX10_commonDivisor_3 : decode cX10_commonDivisor 3 = .ok (.lload_n 3, 1) := by decide +kernel
theorem dX10_commonDivisor_4 : decode cX10_commonDivisor 4 = .ok (.lstore 7, 2) := by decide +kernel
theorem dX10_commonDivisor_6 : decode cX10_commonDivisor 6 = .ok (.iconst 0, 1) := by decide +kernel
theorem dX10_commonDivisor_7 : decode cX10_commonDivisor 7 = .ok (.istore 9, 2) := by decide +kernel
theorem dX10_commonDivisor_9 : decode cX10_commonDivisor 9 = .ok (.lload 7, 2) := by decide +kernel
theorem dX10_commonDivisor_11 : decode cX10_commonDivisor 11 = .ok (.lconst 0, 1) := by decide +kernel
theorem dX10_commonDivisor_12 : decode cX10_commonDivisor 12 = .ok (.lcmp, 1) := by decide +kernel
theorem dX10_commonDivisor_13 : decode cX10_commonDivisor 13 = .ok (.ifCond .eq 32, 3) := by decide +kernel
theorem dX10_commonDivisor_16 : decode cX10_commonDivisor 16 = .ok (.iload 9, 2) := by decide +kernel
theorem dX10_commonDivisor_18 : decode cX10_commonDivisor 18 = .ok (.sipush 1000, 3) := by decide +kernel
theorem dX10_commonDivisor_21 : decode cX10_commonDivisor 21 = .ok (.if_icmp .ge 24, 3) := by decide +kernel
theorem dX10_commonDivisor_24 : decode cX10_commonDivisor 24 = .ok (.lload 5, 2) := by decide +kernel
theorem dX10_commonDivisor_26 : decode cX10_commonDivisor 26 = .ok (.lload 7, 2) := by decide +kernel
theorem dX10_commonDivisor_28 : decode cX10_commonDivisor 28 = .ok (.lrem, 1) := by decide +kernel
theorem dX10_commonDivisor_29 : decode cX10_commonDivisor 29 = .ok (.lstore 10, 2) := by decide +kernel
theorem dX10_commonDivisor_31 : decode cX10_commonDivisor 31 = .ok (.lload 7, 2) := by decide +kernel
theorem dX10_commonDivisor_33 : decode cX10_commonDivisor 33 = .ok (.lstore 5, 2) := by decide +kernel
theorem dX10_commonDivisor_35 : decode cX10_commonDivisor 35 = .ok (.lload 10, 2) := by decide +kernel
theorem dX10_commonDivisor_37 : decode cX10_commonDivisor 37 = .ok (.lstore 7, 2) := by decide +kernel
theorem dX10_commonDivisor_39 : decode cX10_commonDivisor 39 = .ok (.iinc 9 1, 3) := by decide +kernel
theorem dX10_commonDivisor_42 : decode cX10_commonDivisor 42 = .ok (.goto (-33), 3) := by decide +kernel
theorem dX10_commonDivisor_45 : decode cX10_commonDivisor 45 = .ok (.lload 5, 2) := by decide +kernel
theorem dX10_commonDivisor_47 : decode cX10_commonDivisor 47 = .ok (.lreturn, 1) := by decide +kernel
def vb_X10_commonDivisor_9 (post : Int64 → mj_M → Prop) : Nat → Int64 → Int64 → Int32 → mj_M → Prop
  | 0 => fun _ _ _ _ => False
  | f + 1 => fun l5 l7 l9 M => if (lg_cmp l7 0) = 0 then (post l5 M) else (if 1000 ≤ l9 then (post l5 M) else ((¬ l7 = 0) ∧ vb_X10_commonDivisor_9 post f l7 (l5 - l5 / l7 * l7) (l9 + 1) M))
def vc_X10_commonDivisor (l0 : Nat) (l1 : Int64) (l3 : Int64) (M : mj_M) (post : Int64 → mj_M → Prop) : Prop := ∃ fe, vb_X10_commonDivisor_9 post fe l1 l3 0 M
set_option maxHeartbeats 4000000 in
set_option maxRecDepth 100000 in
theorem xb_X10_commonDivisor_9 {g : mj_G} {post : Int64 → mj_M → Prop} (hC : mj_C g yX10_commonDivisor cX10_commonDivisor 12 (some .long) rm_X10_commonDivisor) (hE : mj_E g mj_jL post 0 0) : ∀ (f : Nat) (l5 : Int64) (l7 : Int64) (l9 : Int32) (M : mj_M), vb_X10_commonDivisor_9 post f l5 l7 l9 M → mj_X g 9 [(5, vL l5), (7, vL l7), (9, vI l9)] [] M 0 0 := by
  intro f
  induction f with
  | zero => exact fun _ _ _ _ h => absurd h (fun z => z)
  | succ f ih =>
    intro l5 l7 l9 M h
    simp only [vb_X10_commonDivisor_9] at h
    refine mx_lload (j := 1) hC dX10_commonDivisor_9 rfl ?_
    refine mx_lconst (v := 0) hC dX10_commonDivisor_11 (by decide) ?_
    refine mx_lcmp hC dX10_commonDivisor_12 ?_
    refine mx_ifeq (tgt := 45) hC dX10_commonDivisor_13 (by decide) (fun hc1 => ?_) (fun hc1 => ?_)
    · replace h := mj_yy hc1 h
      refine mx_lload (j := 0) hC dX10_commonDivisor_45 rfl ?_
      exact mx_lret hC hE rfl dX10_commonDivisor_47 h
    · replace h := mj_nn hc1 h
      refine mx_iload (j := 2) hC dX10_commonDivisor_16 rfl ?_
      refine mx_sipush (v := 1000) hC dX10_commonDivisor_18 (by decide) ?_
      refine mx_icmpge (tgt := 45) hC dX10_commonDivisor_21 (by decide) (fun hc2 => ?_) (fun hc2 => ?_)
      · replace h := mj_yy hc2 h
        refine mx_lload (j := 0) hC dX10_commonDivisor_45 rfl ?_
        exact mx_lret hC hE rfl dX10_commonDivisor_47 h
      · replace h := mj_nn hc2 h
        refine mx_lload (j := 0) hC dX10_commonDivisor_24 rfl ?_
        refine mx_lload (j := 1) hC dX10_commonDivisor_26 rfl ?_
        obtain ⟨hz3, h⟩ := h
        refine mx_lrem hC dX10_commonDivisor_28 hz3 ?_
        refine mx_lstore (L' := [(10, vL (l5 - l5 / l7 * l7)), (5, vL l5), (7, vL l7), (9, vI l9)]) hC dX10_commonDivisor_29 (by decide) rfl ?_
        refine mx_lload (j := 2) hC dX10_commonDivisor_31 rfl ?_
        refine mx_lstore (L' := [(5, vL l7), (10, vL (l5 - l5 / l7 * l7)), (7, vL l7), (9, vI l9)]) hC dX10_commonDivisor_33 (by decide) rfl ?_
        refine mx_lload (j := 1) hC dX10_commonDivisor_35 rfl ?_
        refine mx_lstore (L' := [(7, vL (l5 - l5 / l7 * l7)), (5, vL l7), (10, vL (l5 - l5 / l7 * l7)), (9, vI l9)]) hC dX10_commonDivisor_37 (by decide) rfl ?_
        refine mx_iinc (j := 3) (v := l9 + 1) (L' := [(9, vI (l9 + 1)), (7, vL (l5 - l5 / l7 * l7)), (5, vL l7), (10, vL (l5 - l5 / l7 * l7))]) hC dX10_commonDivisor_39 rfl rfl (by decide) rfl ?_
        refine mx_goto (tgt := 9) hC dX10_commonDivisor_42 (by decide) ?_
        refine mx_sub (L' := [(5, vL l7), (7, vL (l5 - l5 / l7 * l7)), (9, vI (l9 + 1))]) [2, 1, 0] rfl ?_
        exact show mj_X g 9 [(5, vL l7), (7, vL (l5 - l5 / l7 * l7)), (9, vI (l9 + 1))] [] M 0 0 from (ih l7 (l5 - l5 / l7 * l7) (l9 + 1) M h)
set_option maxHeartbeats 4000000 in
set_option maxRecDepth 100000 in
theorem ct_X10_commonDivisor {l : Launch} {base : Nat} {D : va_G} {A : ClassId × ClassId × ClassId} (l0 : Nat) (l1 : Int64) (l3 : Int64) (M : mj_M) (post : Int64 → mj_M → Prop) (h : vc_X10_commonDivisor l0 l1 l3 M post) : mj_Met l base D A mj_jL yX10_commonDivisor cX10_commonDivisor 12 (some .long) rm_X10_commonDivisor 0 0 [vR l0, vL l1, vL l3] M post := by
  refine mj_entry (by decide +kernel) (Nat.le_of_ble_eq_true rfl) (fun g hC hE h1 h2 h3 h4 => ?_)
  show mj_X g 0 [(0, vR l0), (1, vL l1), (3, vL l3)] [] M 0 0
  simp only [vc_X10_commonDivisor] at h
  refine mx_lload_n (j := 1) hC dX10_commonDivisor_0 rfl rfl ?_
  refine mx_lstore (L' := [(5, vL l1), (0, vR l0), (1, vL l1), (3, vL l3)]) hC dX10_commonDivisor_1 (by decide) rfl ?_
  refine mx_lload_n (j := 3) hC dX10_commonDivisor_3 rfl rfl ?_
  refine mx_lstore (L' := [(7, vL l3), (5, vL l1), (0, vR l0), (1, vL l1), (3, vL l3)]) hC dX10_commonDivisor_4 (by decide) rfl ?_
  refine mx_iconst (v := 0) hC dX10_commonDivisor_6 (by decide) ?_
  refine mx_istore (L' := [(9, vI 0), (7, vL l3), (5, vL l1), (0, vR l0), (1, vL l1), (3, vL l3)]) hC dX10_commonDivisor_7 (by decide) rfl ?_
  refine mx_sub (L' := [(5, vL l1), (7, vL l3), (9, vI 0)]) [2, 1, 0] rfl ?_
  obtain ⟨fe, h⟩ := h
  exact show mj_X g 9 [(5, vL l1), (7, vL l3), (9, vI 0)] [] M 0 0 from (xb_X10_commonDivisor_9 hC hE fe l1 l3 0 M h)
theorem tw1057 : (Jvm.Cond.methodLink "LeaseLand$Sales" (56 : Nat) ({ cls := "LeaseLand$Sales", name := "commonDivisor", desc := "(JJ)J" } : Jvm.MethodName)) ∈ mj_tbl := mj_w 1110 (by decide +kernel) (by decide +kernel)
theorem tw1060 : (Jvm.Cond.code ({ cls := "LeaseLand$Sales", name := "commonDivisor", desc := "(JJ)J" } : Jvm.MethodName) prog_12_method_8_code (12 : Nat) (Option.some Jvm.ClassFile.FieldType.long)) ∈ mj_tbl := mj_w 1113 (by decide +kernel) (by decide +kernel)
theorem tw1058 : (Jvm.Cond.instanceMethod ({ cls := "LeaseLand$Sales", name := "commonDivisor", desc := "(JJ)J" } : Jvm.MethodName)) ∈ mj_tbl := mj_w 1111 (by decide +kernel) (by decide +kernel)
theorem tw1059 : (Jvm.Cond.selects "LeaseLand$Sales" ({ cls := "LeaseLand$Sales", name := "commonDivisor", desc := "(JJ)J" } : Jvm.MethodName) ({ cls := "LeaseLand$Sales", name := "commonDivisor", desc := "(JJ)J" } : Jvm.MethodName)) ∈ mj_tbl := mj_w 1112 (by decide +kernel) (by decide +kernel)
theorem ty_X10_commonDivisor : mj_YV 10 yX10_commonDivisor cX10_commonDivisor 12 (some .long) 2 := ⟨⟨tw1060, tw9, by decide +kernel, by decide +kernel, by decide +kernel⟩, tw1058, tw1059, _, rfl, rfl⟩
def rm_X10_lowest : Room := { frames := 1, cells := 0, slots := 0, locals := 31 }
theorem dX10_lowest_0 : decode cX10_lowest 0 = .ok (.aload_n 0, 1) := by decide +kernel
theorem dX10_lowest_1 : decode cX10_lowest 1 = .ok (.lload_n 1, 1) := by decide +kernel
theorem dX10_lowest_2 : decode cX10_lowest 2 = .ok (.invokestatic 46, 3) := by decide +kernel
theorem dX10_lowest_5 : decode cX10_lowest 5 = .ok (.aload_n 0, 1) := by decide +kernel
theorem dX10_lowest_6 : decode cX10_lowest 6 = .ok (.invokevirtual 38, 3) := by decide +kernel
theorem dX10_lowest_9 : decode cX10_lowest 9 = .ok (.invokevirtual 56, 3) := by decide +kernel
theorem dX10_lowest_12 : decode cX10_lowest 12 = .ok (.lstore 4, 2) := by decide +kernel
theorem dX10_lowest_14 : decode cX10_lowest 14 = .ok (.lload 4, 2) := by decide +kernel
theorem dX10_lowest_16 : decode cX10_lowest 16 = .ok (.lconst 0, 1) := by decide +kernel
theorem dX10_lowest_17 : decode cX10_lowest 17 = .ok (.lcmp, 1) := by decide +kernel
theorem dX10_lowest_18 : decode cX10_lowest 18 = .ok (.ifCond .ne 5, 3) := by decide +kernel
theorem dX10_lowest_21 : decode cX10_lowest 21 = .ok (.lconst 0, 1) := by decide +kernel
theorem dX10_lowest_22 : decode cX10_lowest 22 = .ok (.lreturn, 1) := by decide +kernel
theorem dX10_lowest_23 : decode cX10_lowest 23 = .ok (.iload_n 3, 1) := by decide +kernel
theorem dX10_lowest_24 : decode cX10_lowest 24 = .ok (.ifCond .ne 7, 3) := by decide +kernel
theorem dX10_lowest_27 : decode cX10_lowest 27 = .ok (.lload_n 1, 1) := by decide +kernel
theorem dX10_lowest_28 : decode cX10_lowest 28 = .ok (.goto 7, 3) := by decide +kernel
theorem dX10_lowest_31 : decode cX10_lowest 31 = .ok (.aload_n 0, 1) := by decide +kernel
theorem dX10_lowest_32 : decode cX10_lowest 32 = .ok (.invokevirtual 38, 3) := by decide +kernel
theorem dX10_lowest_35 : decode cX10_lowest 35 = .ok (.lload 4, 2) := by decide +kernel
theorem dX10_lowest_37 : decode cX10_lowest 37 = .ok (.ldiv, 1) := by decide +kernel
theorem dX10_lowest_38 : decode cX10_lowest 38 = .ok (.lreturn, 1) := by decide +kernel
def vc_X10_lowest (l0 : Nat) (l1 : Int64) (l3 : Int32) (M : mj_M) (post : Int64 → mj_M → Prop) : Prop := vc_J9_abs_067f4 l1 M (fun r1 M2 => mj_tag M2 l0 = 11 ∧ vc_X10_lower l0 M2 (fun r4 M5 => mj_tag M5 l0 = 11 ∧ vc_X10_commonDivisor l0 r1 r4 M5 (fun r7 M8 => if (lg_cmp r7 0) = 0 then (post 0 M8) else (if l3 = 0 then ((¬ r7 = 0) ∧ post (l1 / r7) M8) else (mj_tag M8 l0 = 11 ∧ vc_X10_lower l0 M8 (fun r12 M13 => (¬ r7 = 0) ∧ post (r12 / r7) M13))))))
set_option maxHeartbeats 4000000 in
set_option maxRecDepth 100000 in
theorem ct_X10_lowest {l : Launch} {base : Nat} {D : va_G} {A : ClassId × ClassId × ClassId} (l0 : Nat) (l1 : Int64) (l3 : Int32) (M : mj_M) (post : Int64 → mj_M → Prop) (h : vc_X10_lowest l0 l1 l3 M post) : mj_Met l base D A mj_jL yX10_lowest cX10_lowest 6 (some .long) rm_X10_lowest 0 0 [vR l0, vL l1, vI l3] M post := by
  refine mj_entry (by decide +kernel) (Nat.le_of_ble_eq_true rfl) (fun g hC hE h1 h2 h3 h4 => ?_)
  show mj_X g 0 [(0, vR l0), (1, vL l1), (3, vI l3)] [] M 0 0
  simp only [vc_X10_lowest] at h
  refine mx_aload_n (j := 0) hC dX10_lowest_0 rfl rfl ?_
  refine mx_lload_n (j := 1) hC dX10_lowest_1 rfl rfl ?_
  refine mx_callS (inj := mj_jL) (As := [vL l1]) (st := [vR l0]) hC (ct_J9_abs_067f4 l1 M _ h) ty_J9_abs_067f4 tw1050 rfl (Nat.le_of_ble_eq_true rfl) ⟨rfl, rfl, ⟨by decide, by decide⟩, by decide, by decide⟩ dX10_lowest_2 (fun r1 M2 h => ?_)
  show mj_X g 5 [(0, vR l0), (1, vL l1), (3, vI l3)] [vL r1, vR l0] M2 0 0
  refine mx_aload_n (j := 0) hC dX10_lowest_5 rfl rfl ?_
  obtain ⟨ht3, h⟩ := h
  refine mx_callV (inj := mj_jL) (As := []) (st := [vL r1, vR l0]) hC (ct_X10_lower l0 M2 _ h) ty_X10_lower tw1053 ht3 rfl (Nat.le_of_ble_eq_true rfl) ⟨rfl, rfl, ⟨by decide, by decide⟩, by decide, by decide⟩ dX10_lowest_6 (fun r4 M5 h => ?_)
  show mj_X g 9 [(0, vR l0), (1, vL l1), (3, vI l3)] [vL r4, vL r1, vR l0] M5 0 0
  obtain ⟨ht6, h⟩ := h
  refine mx_callV (inj := mj_jL) (As := [vL r1, vL r4]) (st := []) hC (ct_X10_commonDivisor l0 r1 r4 M5 _ h) ty_X10_commonDivisor tw1057 ht6 rfl (Nat.le_of_ble_eq_true rfl) ⟨rfl, rfl, ⟨by decide, by decide⟩, by decide, by decide⟩ dX10_lowest_9 (fun r7 M8 h => ?_)
  show mj_X g 12 [(0, vR l0), (1, vL l1), (3, vI l3)] [vL r7] M8 0 0
  refine mx_lstore (L' := [(4, vL r7), (0, vR l0), (1, vL l1), (3, vI l3)]) hC dX10_lowest_12 (by decide) rfl ?_
  refine mx_lload (j := 0) hC dX10_lowest_14 rfl ?_
  refine mx_lconst (v := 0) hC dX10_lowest_16 (by decide) ?_
  refine mx_lcmp hC dX10_lowest_17 ?_
  refine mx_ifne (tgt := 23) hC dX10_lowest_18 (by decide) (fun hc9 => ?_) (fun hc9 => ?_)
  · replace h := mj_nn hc9 h
    refine mx_iload_n (j := 3) hC dX10_lowest_23 rfl rfl ?_
    refine mx_ifne (tgt := 31) hC dX10_lowest_24 (by decide) (fun hc10 => ?_) (fun hc10 => ?_)
    · replace h := mj_nn hc10 h
      refine mx_aload_n (j := 1) hC dX10_lowest_31 rfl rfl ?_
      obtain ⟨ht11, h⟩ := h
      refine mx_callV (inj := mj_jL) (As := []) (st := []) hC (ct_X10_lower l0 M8 _ h) ty_X10_lower tw1053 ht11 rfl (Nat.le_of_ble_eq_true rfl) ⟨rfl, rfl, ⟨by decide, by decide⟩, by decide, by decide⟩ dX10_lowest_32 (fun r12 M13 h => ?_)
      show mj_X g 35 [(4, vL r7), (0, vR l0), (1, vL l1), (3, vI l3)] [vL r12] M13 0 0
      refine mx_lload (j := 0) hC dX10_lowest_35 rfl ?_
      obtain ⟨hz14, h⟩ := h
      refine mx_ldiv hC dX10_lowest_37 hz14 ?_
      exact mx_lret hC hE rfl dX10_lowest_38 h
    · replace h := mj_yy hc10 h
      refine mx_lload_n (j := 2) hC dX10_lowest_27 rfl rfl ?_
      refine mx_goto (tgt := 35) hC dX10_lowest_28 (by decide) ?_
      refine mx_lload (j := 0) hC dX10_lowest_35 rfl ?_
      obtain ⟨hz15, h⟩ := h
      refine mx_ldiv hC dX10_lowest_37 hz15 ?_
      exact mx_lret hC hE rfl dX10_lowest_38 h
  · replace h := mj_yy hc9 h
    refine mx_lconst (v := 0) hC dX10_lowest_21 (by decide) ?_
    exact mx_lret hC hE rfl dX10_lowest_22 h
theorem tw236 : (Jvm.Cond.fieldLink "LeaseLand$Register" (15 : Nat) "LeaseLand$Register" "ofs" "[I") ∈ mj_tbl := mj_w 289 (by decide +kernel) (by decide +kernel)
theorem tk9 : mj_KC 9 (RX9, TX9, 8, tyX9) := ⟨rfl, fun w hw => List.mem_filter.mpr ⟨(goodIn_r (big := lw_tbl) (u_ws RX9 TX9 8) [297, 299, 301, 303, 305, 307, 309, 311] (by decide +kernel) (by decide +kernel) w hw).1, List.all_eq_true.mp (show (u_ws RX9 TX9 8).all goodWord = true by decide +kernel) w hw⟩, tyX9_ok, nmX9, by decide⟩
theorem tf_X9_15 : mj_F 9 1 (.array .int) true "LeaseLand$Register" 15 := ⟨_, tk9, by decide, rfl, rfl, rfl, tw236⟩
theorem tw237 : (Jvm.Cond.fieldLink "LeaseLand$Register" (18 : Nat) "LeaseLand$Register" "froms" "[I") ∈ mj_tbl := mj_w 290 (by decide +kernel) (by decide +kernel)
theorem tf_X9_18 : mj_F 9 2 (.array .int) true "LeaseLand$Register" 18 := ⟨_, tk9, by decide, rfl, rfl, rfl, tw237⟩
theorem tw238 : (Jvm.Cond.fieldLink "LeaseLand$Register" (21 : Nat) "LeaseLand$Register" "tos" "[I") ∈ mj_tbl := mj_w 291 (by decide +kernel) (by decide +kernel)
theorem tf_X9_21 : mj_F 9 3 (.array .int) true "LeaseLand$Register" 21 := ⟨_, tk9, by decide, rfl, rfl, rfl, tw238⟩
theorem tw239 : (Jvm.Cond.fieldLink "LeaseLand$Register" (24 : Nat) "LeaseLand$Register" "clashes" "[I") ∈ mj_tbl := mj_w 292 (by decide +kernel) (by decide +kernel)
theorem tf_X9_24 : mj_F 9 4 (.array .int) true "LeaseLand$Register" 24 := ⟨_, tk9, by decide, rfl, rfl, rfl, tw239⟩
theorem tw240 : (Jvm.Cond.fieldLink "LeaseLand$Register" (27 : Nat) "LeaseLand$Register" "above" "[I") ∈ mj_tbl := mj_w 293 (by decide +kernel) (by decide +kernel)
theorem tf_X9_27 : mj_F 9 5 (.array .int) true "LeaseLand$Register" 27 := ⟨_, tk9, by decide, rfl, rfl, rfl, tw240⟩
theorem tw243 : (Jvm.Cond.fieldLink "LeaseLand$Register" (30 : Nat) "LeaseLand$Register" "fewest" "I") ∈ mj_tbl := mj_w 296 (by decide +kernel) (by decide +kernel)
theorem tf_X9_30 : mj_F 9 7 .int false "LeaseLand$Register" 30 := ⟨_, tk9, by decide, rfl, rfl, rfl, tw243⟩
theorem tw235 : (Jvm.Cond.fieldLink "LeaseLand$Register" (9 : Nat) "LeaseLand$Register" "names" "[I") ∈ mj_tbl := mj_w 288 (by decide +kernel) (by decide +kernel)
theorem tf_X9_9 : mj_F 9 0 (.array .int) true "LeaseLand$Register" 9 := ⟨_, tk9, by decide, rfl, rfl, rfl, tw235⟩
theorem tw234 : (Jvm.Cond.methodLink "LeaseLand$Register" (3 : Nat) ({ cls := "java/lang/Object", name := "<init>", desc := "()V" } : Jvm.MethodName)) ∈ mj_tbl := mj_w 287 (by decide +kernel) (by decide +kernel)
def rm_X9_init : Room := { frames := 1, cells := 6, slots := 72, locals := 20 }
theorem dX9_init_0 : decode cX9_init 0 = .ok (.aload_n 0, 1) := by decide +kernel
theorem dX9_init_1 : decode cX9_init 1 = .ok (.invokespecial 3, 3) := by decide +kernel
theorem dX9_init_4 : decode cX9_init 4 = .ok (.aload_n 0, 1) := by decide +kernel
theorem dX9_init_5 : decode cX9_init 5 = .ok (.bipush 12, 2) := by decide +kernel
theorem dX9_init_7 : decode cX9_init 7 = .ok (.newarray .int, 2) := by decide +kernel
theorem dX9_init_9 : decode cX9_init 9 = .ok (.putfield 9, 3) := by decide +kernel
theorem dX9_init_12 : decode cX9_init 12 = .ok (.aload_n 0, 1) := by decide +kernel
theorem dX9_init_13 : decode cX9_init 13 = .ok (.bipush 12, 2) := by decide +kernel
theorem dX9_init_15 : decode cX9_init 15 = .ok (.newarray .int, 2) := by decide +kernel
theorem dX9_init_17 : decode cX9_init 17 = .ok (.putfield 15, 3) := by decide +kernel
theorem dX9_init_20 : decode cX9_init 20 = .ok (.aload_n 0, 1) := by decide +kernel
theorem dX9_init_21 : decode cX9_init 21 = .ok (.bipush 12, 2) := by decide +kernel
theorem dX9_init_23 : decode cX9_init 23 = .ok (.newarray .int, 2) := by decide +kernel
theorem dX9_init_25 : decode cX9_init 25 = .ok (.putfield 18, 3) := by decide +kernel
theorem dX9_init_28 : decode cX9_init 28 = .ok (.aload_n 0, 1) := by decide +kernel
theorem dX9_init_29 : decode cX9_init 29 = .ok (.bipush 12, 2) := by decide +kernel
theorem dX9_init_31 : decode cX9_init 31 = .ok (.newarray .int, 2) := by decide +kernel
theorem dX9_init_33 : decode cX9_init 33 = .ok (.putfield 21, 3) := by decide +kernel
theorem dX9_init_36 : decode cX9_init 36 = .ok (.aload_n 0, 1) := by decide +kernel
theorem dX9_init_37 : decode cX9_init 37 = .ok (.bipush 12, 2) := by decide +kernel
theorem dX9_init_39 : decode cX9_init 39 = .ok (.newarray .int, 2) := by decide +kernel
theorem dX9_init_41 : decode cX9_init 41 = .ok (.putfield 24, 3) := by decide +kernel
theorem dX9_init_44 : decode cX9_init 44 = .ok (.aload_n 0, 1) := by decide +kernel
theorem dX9_init_45 : decode cX9_init 45 = .ok (.bipush 12, 2) := by decide +kernel
theorem dX9_init_47 : decode cX9_init 47 = .ok (.newarray .int, 2) := by decide +kernel
theorem dX9_init_49 : decode cX9_init 49 = .ok (.putfield 27, 3) := by decide +kernel
theorem dX9_init_52 : decode cX9_init 52 = .ok (.aload_n 0, 1) := by decide +kernel
theorem dX9_init_53 : decode cX9_init 53 = .ok (.bipush (-6), 2) := by decide +kernel
theorem dX9_init_55 : decode cX9_init 55 = .ok (.putfield 30, 3) := by decide +kernel
theorem dX9_init_58 : decode cX9_init 58 = .ok (.return_, 1) := by decide +kernel
def vc_X9_init (l0 : Nat) (M : mj_M) (post : Unit → mj_M → Prop) : Prop := (¬ l0 = 0) ∧ ∀ M2 : mj_M, M2 = mj_newa M 101 12 → mj_tag M2 l0 = 10 ∧ ∀ M5 : mj_M, M5 = mj_newa (mj_wr M2 l0 0 (mj_nx M)) 101 12 → mj_tag M5 l0 = 10 ∧ ∀ M8 : mj_M, M8 = mj_newa (mj_wr M5 l0 1 (mj_nx M2)) 101 12 → mj_tag M8 l0 = 10 ∧ ∀ M11 : mj_M, M11 = mj_newa (mj_wr M8 l0 2 (mj_nx M5)) 101 12 → mj_tag M11 l0 = 10 ∧ ∀ M14 : mj_M, M14 = mj_newa (mj_wr M11 l0 3 (mj_nx M8)) 101 12 → mj_tag M14 l0 = 10 ∧ ∀ M17 : mj_M, M17 = mj_newa (mj_wr M14 l0 4 (mj_nx M11)) 101 12 → mj_tag M17 l0 = 10 ∧ post () (mj_wi (mj_wr M17 l0 5 (mj_nx M14)) l0 7 ((-6)))
set_option maxHeartbeats 4000000 in
set_option maxRecDepth 100000 in
theorem ct_X9_init {l : Launch} {base : Nat} {D : va_G} {A : ClassId × ClassId × ClassId} (l0 : Nat) (M : mj_M) (post : Unit → mj_M → Prop) (h : vc_X9_init l0 M post) : mj_Met l base D A mj_jV yX9_init cX9_init 1 (none) rm_X9_init 6 72 [vR l0] M post := by
  refine mj_entry (by decide +kernel) (Nat.le_of_ble_eq_true rfl) (fun g hC hE h1 h2 h3 h4 => ?_)
  show mj_X g 0 [(0, vR l0)] [] M 0 0
  simp only [vc_X9_init] at h
  refine mx_aload_n (j := 0) hC dX9_init_0 rfl rfl ?_
  obtain ⟨hn1, h⟩ := h
  refine mx_oinit hC tw234 tw_oi tw_oc hn1 (Nat.le_of_ble_eq_true rfl) ⟨by decide, by decide⟩ dX9_init_1 ?_
  refine mx_aload_n (j := 0) hC dX9_init_4 rfl rfl ?_
  refine mx_bipush (v := 12) hC dX9_init_5 (by decide) ?_
  refine mx_newi (N := 12) (k' := 1) (n' := 12) hC tw63 (by decide) (by decide) (by decide) ⟨rfl, by decide, by decide, by decide⟩ dX9_init_7 ?_
  obtain ⟨M2, eM2⟩ : ∃ z : mj_M, z = mj_newa M 101 12 := ⟨_, rfl⟩
  replace h := h M2 eM2
  have ht3 : mj_tag M2 (mj_nx M) = 101 := by rw [eM2]; exact mj_u1_at _
  refine mx_setM eM2.symm ?_
  obtain ⟨ht4, h⟩ := h
  refine mx_put (v := vR (mj_nx M)) (M1 := mj_wr M2 l0 0 (mj_nx M)) hC tf_X9_9 ht4 (Or.inr ⟨rfl, rfl⟩) (mj_fitA (mj_nx M) _) (mj_off_wr _ _ _ _) mj_put_wa dX9_init_9 ?_
  refine mx_aload_n (j := 0) hC dX9_init_12 rfl rfl ?_
  refine mx_bipush (v := 12) hC dX9_init_13 (by decide) ?_
  refine mx_newi (N := 12) (k' := 2) (n' := 24) hC tw63 (by decide) (by decide) (by decide) ⟨rfl, by decide, by decide, by decide⟩ dX9_init_15 ?_
  obtain ⟨M5, eM5⟩ : ∃ z : mj_M, z = mj_newa (mj_wr M2 l0 0 (mj_nx M)) 101 12 := ⟨_, rfl⟩
  replace h := h M5 eM5
  have ht6 : mj_tag M5 (mj_nx M2) = 101 := by rw [eM5]; exact mj_u1_at _
  refine mx_setM eM5.symm ?_
  obtain ⟨ht7, h⟩ := h
  refine mx_put (v := vR (mj_nx M2)) (M1 := mj_wr M5 l0 1 (mj_nx M2)) hC tf_X9_15 ht7 (Or.inr ⟨rfl, rfl⟩) (mj_fitA (mj_nx M2) _) (mj_off_wr _ _ _ _) mj_put_wa dX9_init_17 ?_
  refine mx_aload_n (j := 0) hC dX9_init_20 rfl rfl ?_
  refine mx_bipush (v := 12) hC dX9_init_21 (by decide) ?_
  refine mx_newi (N := 12) (k' := 3) (n' := 36) hC tw63 (by decide) (by decide) (by decide) ⟨rfl, by decide, by decide, by decide⟩ dX9_init_23 ?_
  obtain ⟨M8, eM8⟩ : ∃ z : mj_M, z = mj_newa (mj_wr M5 l0 1 (mj_nx M2)) 101 12 := ⟨_, rfl⟩
  replace h := h M8 eM8
  have ht9 : mj_tag M8 (mj_nx M5) = 101 := by rw [eM8]; exact mj_u1_at _
  refine mx_setM eM8.symm ?_
  obtain ⟨ht10, h⟩ := h
  refine mx_put (v := vR (mj_nx M5)) (M1 := mj_wr M8 l0 2 (mj_nx M5)) hC tf_X9_18 ht10 (Or.inr ⟨rfl, rfl⟩) (mj_fitA (mj_nx M5) _) (mj_off_wr _ _ _ _) mj_put_wa dX9_init_25 ?_
  refine mx_aload_n (j := 0) hC dX9_init_28 rfl rfl ?_
  refine mx_bipush (v := 12) hC dX9_init_29 (by decide) ?_
  refine mx_newi (N := 12) (k' := 4) (n' := 48) hC tw63 (by decide) (by decide) (by decide) ⟨rfl, by decide, by decide, by decide⟩ dX9_init_31 ?_
  obtain ⟨M11, eM11⟩ : ∃ z : mj_M, z = mj_newa (mj_wr M8 l0 2 (mj_nx M5)) 101 12 := ⟨_, rfl⟩
  replace h := h M11 eM11
  have ht12 : mj_tag M11 (mj_nx M8) = 101 := by rw [eM11]; exact mj_u1_at _
  refine mx_setM eM11.symm ?_
  obtain ⟨ht13, h⟩ := h
  refine mx_put (v := vR (mj_nx M8)) (M1 := mj_wr M11 l0 3 (mj_nx M8)) hC tf_X9_21 ht13 (Or.inr ⟨rfl, rfl⟩) (mj_fitA (mj_nx M8) _) (mj_off_wr _ _ _ _) mj_put_wa dX9_init_33 ?_
  refine mx_aload_n (j := 0) hC dX9_init_36 rfl rfl ?_
  refine mx_bipush (v := 12) hC dX9_init_37 (by decide) ?_
  refine mx_newi (N := 12) (k' := 5) (n' := 60) hC tw63 (by decide) (by decide) (by decide) ⟨rfl, by decide, by decide, by decide⟩ dX9_init_39 ?_
  obtain ⟨M14, eM14⟩ : ∃ z : mj_M, z = mj_newa (mj_wr M11 l0 3 (mj_nx M8)) 101 12 := ⟨_, rfl⟩
  replace h := h M14 eM14
  have ht15 : mj_tag M14 (mj_nx M11) = 101 := by rw [eM14]; exact mj_u1_at _
  refine mx_setM eM14.symm ?_
  obtain ⟨ht16, h⟩ := h
  refine mx_put (v := vR (mj_nx M11)) (M1 := mj_wr M14 l0 4 (mj_nx M11)) hC tf_X9_24 ht16 (Or.inr ⟨rfl, rfl⟩) (mj_fitA (mj_nx M11) _) (mj_off_wr _ _ _ _) mj_put_wa dX9_init_41 ?_
  refine mx_aload_n (j := 0) hC dX9_init_44 rfl rfl ?_
  refine mx_bipush (v := 12) hC dX9_init_45 (by decide) ?_
  refine mx_newi (N := 12) (k' := 6) (n' := 72) hC tw63 (by decide) (by decide) (by decide) ⟨rfl, by decide, by decide, by decide⟩ dX9_init_47 ?_
  obtain ⟨M17, eM17⟩ : ∃ z : mj_M, z = mj_newa (mj_wr M14 l0 4 (mj_nx M11)) 101 12 := ⟨_, rfl⟩
  replace h := h M17 eM17
  have ht18 : mj_tag M17 (mj_nx M14) = 101 := by rw [eM17]; exact mj_u1_at _
  refine mx_setM eM17.symm ?_
  obtain ⟨ht19, h⟩ := h
  refine mx_put (v := vR (mj_nx M14)) (M1 := mj_wr M17 l0 5 (mj_nx M14)) hC tf_X9_27 ht19 (Or.inr ⟨rfl, rfl⟩) (mj_fitA (mj_nx M14) _) (mj_off_wr _ _ _ _) mj_put_wa dX9_init_49 ?_
  refine mx_aload_n (j := 0) hC dX9_init_52 rfl rfl ?_
  refine mx_bipush (v := (-6)) hC dX9_init_53 (by decide) ?_
  refine mx_put (v := vI ((-6))) (M1 := mj_wi (mj_wr M17 l0 5 (mj_nx M14)) l0 7 ((-6))) hC tf_X9_30 ht19 (Or.inl rfl) ⟨rfl, rfl⟩ (mj_off_wi _ _ _ _) mj_put_wi dX9_init_55 ?_
  exact mx_vret hC hE rfl dX9_init_58 h
def rm_X9_relate : Room := { frames := 0, cells := 0, slots := 0, locals := 0 }
theorem dX9_relate_0 : decode cX9_relate 0 = .ok (.aload_n 0, 1) := by decide +kernel
theorem dX9_relate_1 : decode cX9_relate 1 = .ok (.getfield 15, 3) := by decide +kernel
theorem dX9_relate_4 : decode cX9_relate 4 = .ok (.iload_n 1, 1) := by decide +kernel
theorem dX9_relate_5 : decode cX9_relate 5 = .ok (.iaload, 1) := by decide +kernel
theorem dX9_relate_6 : decode cX9_relate 6 = .ok (.aload_n 0, 1) := by decide +kernel
theorem dX9_relate_7 : decode cX9_relate 7 = .ok (.getfield 9, 3) := by decide +kernel
theorem dX9_relate_10 : decode cX9_relate 10 = .ok (.iload_n 2, 1) := by decide +kernel
theorem dX9_relate_11 : decode cX9_relate 11 = .ok (.iaload, 1) := by decide +kernel
theorem dX9_relate_12 : decode cX9_relate 12 = .ok (.if_icmp .ne 7, 3) := by decide +kernel
theorem dX9_relate_15 : decode cX9_relate 15 = .ok (.iconst 1, 1) := by decide +kernel
theorem dX9_relate_16 : decode cX9_relate 16 = .ok (.goto 4, 3) := by decide +kernel
theorem dX9_relate_19 : decode cX9_relate 19 = .ok (.iconst 0, 1) := by decide +kernel
theorem dX9_relate_20 : decode cX9_relate 20 = .ok (.istore_n 3, 1) := by decide +kernel
theorem dX9_relate_21 : decode cX9_relate 21 = .ok (.aload_n 0, 1) := by decide +kernel
theorem dX9_relate_22 : decode cX9_relate 22 = .ok (.getfield 18, 3) := by decide +kernel
theorem dX9_relate_25 : decode cX9_relate 25 = .ok (.iload_n 2, 1) := by decide +kernel
theorem dX9_relate_26 : decode cX9_relate 26 = .ok (.iaload, 1) := by decide +kernel
theorem dX9_relate_27 : decode cX9_relate 27 = .ok (.aload_n 0, 1) := by decide +kernel
theorem dX9_relate_28 : decode cX9_relate 28 = .ok (.getfield 18, 3) := by decide +kernel
theorem dX9_relate_31 : decode cX9_relate 31 = .ok (.iload_n 1, 1) := by decide +kernel
theorem dX9_relate_32 : decode cX9_relate 32 = .ok (.iaload, 1) := by decide +kernel
theorem dX9_relate_33 : decode cX9_relate 33 = .ok (.if_icmp .gt 22, 3) := by decide +kernel
theorem dX9_relate_36 : decode cX9_relate 36 = .ok (.aload_n 0, 1) := by decide +kernel
theorem dX9_relate_37 : decode cX9_relate 37 = .ok (.getfield 21, 3) := by decide +kernel
theorem dX9_relate_40 : decode cX9_relate 40 = .ok (.iload_n 1, 1) := by decide +kernel
theorem dX9_relate_41 : decode cX9_relate 41 = .ok (.iaload, 1) := by decide +kernel
theorem dX9_relate_42 : decode cX9_relate 42 = .ok (.aload_n 0, 1) := by decide +kernel
theorem dX9_relate_43 : decode cX9_relate 43 = .ok (.getfield 21, 3) := by decide +kernel
theorem dX9_relate_46 : decode cX9_relate 46 = .ok (.iload_n 2, 1) := by decide +kernel
theorem dX9_relate_47 : decode cX9_relate 47 = .ok (.iaload, 1) := by decide +kernel
theorem dX9_relate_48 : decode cX9_relate 48 = .ok (.if_icmp .gt 7, 3) := by decide +kernel
theorem dX9_relate_51 : decode cX9_relate 51 = .ok (.iconst 1, 1) := by decide +kernel
theorem dX9_relate_52 : decode cX9_relate 52 = .ok (.goto 4, 3) := by decide +kernel
theorem dX9_relate_55 : decode cX9_relate 55 = .ok (.iconst 0, 1) := by decide +kernel
theorem dX9_relate_56 : decode cX9_relate 56 = .ok (.istore 4, 2) := by decide +kernel
theorem dX9_relate_58 : decode cX9_relate 58 = .ok (.iload_n 3, 1) := by decide +kernel
theorem dX9_relate_59 : decode cX9_relate 59 = .ok (.ifCond .eq 15, 3) := by decide +kernel
theorem dX9_relate_62 : decode cX9_relate 62 = .ok (.aload_n 0, 1) := by decide +kernel
theorem dX9_relate_63 : decode cX9_relate 63 = .ok (.getfield 27, 3) := by decide +kernel
theorem dX9_relate_66 : decode cX9_relate 66 = .ok (.iload_n 1, 1) := by decide +kernel
theorem dX9_relate_67 : decode cX9_relate 67 = .ok (.dup2, 1) := by decide +kernel
theorem dX9_relate_68 : decode cX9_relate 68 = .ok (.iaload, 1) := by decide +kernel
theorem dX9_relate_69 : decode cX9_relate 69 = .ok (.iconst 1, 1) := by decide +kernel
theorem dX9_relate_70 : decode cX9_relate 70 = .ok (.iload_n 2, 1) := by decide +kernel
theorem dX9_relate_71 : decode cX9_relate 71 = .ok (.ishl, 1) := by decide +kernel
theorem dX9_relate_72 : decode cX9_relate 72 = .ok (.ior, 1) := by decide +kernel
theorem dX9_relate_73 : decode cX9_relate 73 = .ok (.iastore, 1) := by decide +kernel
theorem dX9_relate_74 : decode cX9_relate 74 = .ok (.aload_n 0, 1) := by decide +kernel
theorem dX9_relate_75 : decode cX9_relate 75 = .ok (.getfield 9, 3) := by decide +kernel
theorem dX9_relate_78 : decode cX9_relate 78 = .ok (.iload_n 1, 1) := by decide +kernel
theorem dX9_relate_79 : decode cX9_relate 79 = .ok (.iaload, 1) := by decide +kernel
theorem dX9_relate_80 : decode cX9_relate 80 = .ok (.aload_n 0, 1) := by decide +kernel
theorem dX9_relate_81 : decode cX9_relate 81 = .ok (.getfield 9, 3) := by decide +kernel
theorem dX9_relate_84 : decode cX9_relate 84 = .ok (.iload_n 2, 1) := by decide +kernel
theorem dX9_relate_85 : decode cX9_relate 85 = .ok (.iaload, 1) := by decide +kernel
theorem dX9_relate_86 : decode cX9_relate 86 = .ok (.if_icmp .eq 12, 3) := by decide +kernel
theorem dX9_relate_89 : decode cX9_relate 89 = .ok (.iload_n 3, 1) := by decide +kernel
theorem dX9_relate_90 : decode cX9_relate 90 = .ok (.ifCond .eq 32, 3) := by decide +kernel
theorem dX9_relate_93 : decode cX9_relate 93 = .ok (.iload 4, 2) := by decide +kernel
theorem dX9_relate_95 : decode cX9_relate 95 = .ok (.ifCond .ne 27, 3) := by decide +kernel
theorem dX9_relate_98 : decode cX9_relate 98 = .ok (.aload_n 0, 1) := by decide +kernel
theorem dX9_relate_99 : decode cX9_relate 99 = .ok (.getfield 24, 3) := by decide +kernel
theorem dX9_relate_102 : decode cX9_relate 102 = .ok (.iload_n 1, 1) := by decide +kernel
theorem dX9_relate_103 : decode cX9_relate 103 = .ok (.dup2, 1) := by decide +kernel
theorem dX9_relate_104 : decode cX9_relate 104 = .ok (.iaload, 1) := by decide +kernel
theorem dX9_relate_105 : decode cX9_relate 105 = .ok (.iconst 1, 1) := by decide +kernel
theorem dX9_relate_106 : decode cX9_relate 106 = .ok (.iload_n 2, 1) := by decide +kernel
theorem dX9_relate_107 : decode cX9_relate 107 = .ok (.ishl, 1) := by decide +kernel
theorem dX9_relate_108 : decode cX9_relate 108 = .ok (.ior, 1) := by decide +kernel
theorem dX9_relate_109 : decode cX9_relate 109 = .ok (.iastore, 1) := by decide +kernel
theorem dX9_relate_110 : decode cX9_relate 110 = .ok (.aload_n 0, 1) := by decide +kernel
theorem dX9_relate_111 : decode cX9_relate 111 = .ok (.getfield 24, 3) := by decide +kernel
theorem dX9_relate_114 : decode cX9_relate 114 = .ok (.iload_n 2, 1) := by decide +kernel
theorem dX9_relate_115 : decode cX9_relate 115 = .ok (.dup2, 1) := by decide +kernel
theorem dX9_relate_116 : decode cX9_relate 116 = .ok (.iaload, 1) := by decide +kernel
theorem dX9_relate_117 : decode cX9_relate 117 = .ok (.iconst 1, 1) := by decide +kernel
theorem dX9_relate_118 : decode cX9_relate 118 = .ok (.iload_n 1, 1) := by decide +kernel
theorem dX9_relate_119 : decode cX9_relate 119 = .ok (.ishl, 1) := by decide +kernel
theorem dX9_relate_120 : decode cX9_relate 120 = .ok (.ior, 1) := by decide +kernel
theorem dX9_relate_121 : decode cX9_relate 121 = .ok (.iastore, 1) := by decide +kernel
theorem dX9_relate_122 : decode cX9_relate 122 = .ok (.return_, 1) := by decide +kernel
def vb_X9_relate_98 (post : Unit → mj_M → Prop) (l0 : Nat) (l1 : Int32) (l2 : Int32) (M : mj_M) : Prop := mj_tag M l0 = 10 ∧ mj_tag M (mj_r M l0 4) = 101 ∧ vp_in l1 (mj_len M (mj_r M l0 4)) ∧ vp_in l2 (mj_len M (mj_r M l0 4)) ∧ post () (mj_wi (mj_wi M (mj_r M l0 4) (l1 : Int32).toNatClampNeg ((mj_i M (mj_r M l0 4) (l1 : Int32).toNatClampNeg) ||| (1 <<< (l2 &&& 31)))) (mj_r M l0 4) (l2 : Int32).toNatClampNeg ((mj_i (mj_wi M (mj_r M l0 4) (l1 : Int32).toNatClampNeg ((mj_i M (mj_r M l0 4) (l1 : Int32).toNatClampNeg) ||| (1 <<< (l2 &&& 31)))) (mj_r M l0 4) (l2 : Int32).toNatClampNeg) ||| (1 <<< (l1 &&& 31))))
def vb_X9_relate_74 (post : Unit → mj_M → Prop) (l0 : Nat) (l1 : Int32) (l2 : Int32) (l3 : Bool) (l4 : Bool) (M : mj_M) : Prop := mj_tag M l0 = 10 ∧ mj_tag M (mj_r M l0 0) = 101 ∧ vp_in l1 (mj_len M (mj_r M l0 0)) ∧ vp_in l2 (mj_len M (mj_r M l0 0)) ∧ if (mj_i M (mj_r M l0 0) (l1 : Int32).toNatClampNeg) = (mj_i M (mj_r M l0 0) (l2 : Int32).toNatClampNeg) then (vb_X9_relate_98 post l0 l1 l2 M) else (if l3 = true then (if l4 = true then (post () M) else (vb_X9_relate_98 post l0 l1 l2 M)) else (post () M))
def vb_X9_relate_56 (post : Unit → mj_M → Prop) (l0 : Nat) (l1 : Int32) (l2 : Int32) (l3 : Bool) (s0 : Bool) (M : mj_M) : Prop := if l3 = true then (mj_tag M l0 = 10 ∧ mj_tag M (mj_r M l0 5) = 101 ∧ vp_in l1 (mj_len M (mj_r M l0 5)) ∧ vb_X9_relate_74 post l0 l1 l2 l3 s0 (mj_wi M (mj_r M l0 5) (l1 : Int32).toNatClampNeg ((mj_i M (mj_r M l0 5) (l1 : Int32).toNatClampNeg) ||| (1 <<< (l2 &&& 31))))) else (vb_X9_relate_74 post l0 l1 l2 l3 s0 M)
def vb_X9_relate_55 (post : Unit → mj_M → Prop) (l0 : Nat) (l1 : Int32) (l2 : Int32) (l3 : Bool) (M : mj_M) : Prop := vb_X9_relate_56 post l0 l1 l2 l3 false M
def vb_X9_relate_20 (post : Unit → mj_M → Prop) (l0 : Nat) (l1 : Int32) (l2 : Int32) (s0 : Bool) (M : mj_M) : Prop := mj_tag M l0 = 10 ∧ mj_tag M (mj_r M l0 2) = 101 ∧ vp_in l2 (mj_len M (mj_r M l0 2)) ∧ vp_in l1 (mj_len M (mj_r M l0 2)) ∧ if (mj_i M (mj_r M l0 2) (l1 : Int32).toNatClampNeg) < (mj_i M (mj_r M l0 2) (l2 : Int32).toNatClampNeg) then (vb_X9_relate_55 post l0 l1 l2 s0 M) else (mj_tag M (mj_r M l0 3) = 101 ∧ vp_in l1 (mj_len M (mj_r M l0 3)) ∧ vp_in l2 (mj_len M (mj_r M l0 3)) ∧ if (mj_i M (mj_r M l0 3) (l2 : Int32).toNatClampNeg) < (mj_i M (mj_r M l0 3) (l1 : Int32).toNatClampNeg) then (vb_X9_relate_55 post l0 l1 l2 s0 M) else (vb_X9_relate_56 post l0 l1 l2 s0 true M))
def vc_X9_relate (l0 : Nat) (l1 : Int32) (l2 : Int32) (M : mj_M) (post : Unit → mj_M → Prop) : Prop := mj_tag M l0 = 10 ∧ mj_tag M (mj_r M l0 1) = 101 ∧ vp_in l1 (mj_len M (mj_r M l0 1)) ∧ mj_tag M (mj_r M l0 0) = 101 ∧ vp_in l2 (mj_len M (mj_r M l0 0)) ∧ if (mj_i M (mj_r M l0 1) (l1 : Int32).toNatClampNeg) = (mj_i M (mj_r M l0 0) (l2 : Int32).toNatClampNeg) then (vb_X9_relate_20 post l0 l1 l2 true M) else (vb_X9_relate_20 post l0 l1 l2 false M)
set_option maxHeartbeats 4000000 in
set_option maxRecDepth 100000 in
theorem xb_X9_relate_98 {g : mj_G} {post : Unit → mj_M → Prop} (hC : mj_C g yX9_relate cX9_relate 5 (none) rm_X9_relate) (hE : mj_E g mj_jV post 0 0) (l0 : Nat) (l1 : Int32) (l2 : Int32) (M : mj_M) (h : vb_X9_relate_98 post l0 l1 l2 M) : mj_X g 98 [(0, vR l0), (1, vI l1), (2, vI l2)] [] M 0 0 := by
  simp only [vb_X9_relate_98] at h
  refine mx_aload_n (j := 0) hC dX9_relate_98 rfl rfl ?_
  obtain ⟨ht1, h⟩ := h
  refine mx_get (v := vR (mj_r M l0 4)) hC tf_X9_24 ht1 rfl dX9_relate_99 ?_
  refine mx_iload_n (j := 1) hC dX9_relate_102 rfl rfl ?_
  refine mx_dup2 hC dX9_relate_103 rfl rfl ?_
  obtain ⟨ht2, h⟩ := h
  obtain ⟨hi3, h⟩ := h
  refine mx_iaload hC ht2 hi3 dX9_relate_104 ?_
  refine mx_iconst (v := 1) hC dX9_relate_105 (by decide) ?_
  refine mx_iload_n (j := 2) hC dX9_relate_106 rfl rfl ?_
  refine mx_ishl hC dX9_relate_107 ?_
  refine mx_ior hC dX9_relate_108 ?_
  refine mx_iastore hC ht2 hi3 dX9_relate_109 ?_
  refine mx_aload_n (j := 0) hC dX9_relate_110 rfl rfl ?_
  refine mx_get (v := vR (mj_r M l0 4)) hC tf_X9_24 ht1 rfl dX9_relate_111 ?_
  refine mx_iload_n (j := 2) hC dX9_relate_114 rfl rfl ?_
  refine mx_dup2 hC dX9_relate_115 rfl rfl ?_
  obtain ⟨hi4, h⟩ := h
  refine mx_iaload hC ht2 hi4 dX9_relate_116 ?_
  refine mx_iconst (v := 1) hC dX9_relate_117 (by decide) ?_
  refine mx_iload_n (j := 1) hC dX9_relate_118 rfl rfl ?_
  refine mx_ishl hC dX9_relate_119 ?_
  refine mx_ior hC dX9_relate_120 ?_
  refine mx_iastore hC ht2 hi4 dX9_relate_121 ?_
  exact mx_vret hC hE rfl dX9_relate_122 h
set_option maxHeartbeats 4000000 in
set_option maxRecDepth 100000 in
theorem xb_X9_relate_74 {g : mj_G} {post : Unit → mj_M → Prop} (hC : mj_C g yX9_relate cX9_relate 5 (none) rm_X9_relate) (hE : mj_E g mj_jV post 0 0) (l0 : Nat) (l1 : Int32) (l2 : Int32) (l3 : Bool) (l4 : Bool) (M : mj_M) (h : vb_X9_relate_74 post l0 l1 l2 l3 l4 M) : mj_X g 74 [(0, vR l0), (1, vI l1), (2, vI l2), (3, vI (mj_b l3)), (4, vI (mj_b l4))] [] M 0 0 := by
  simp only [vb_X9_relate_74] at h
  refine mx_aload_n (j := 0) hC dX9_relate_74 rfl rfl ?_
  obtain ⟨ht5, h⟩ := h
  refine mx_get (v := vR (mj_r M l0 0)) hC tf_X9_9 ht5 rfl dX9_relate_75 ?_
  refine mx_iload_n (j := 1) hC dX9_relate_78 rfl rfl ?_
  obtain ⟨ht6, h⟩ := h
  obtain ⟨hi7, h⟩ := h
  refine mx_iaload hC ht6 hi7 dX9_relate_79 ?_
  refine mx_aload_n (j := 0) hC dX9_relate_80 rfl rfl ?_
  refine mx_get (v := vR (mj_r M l0 0)) hC tf_X9_9 ht5 rfl dX9_relate_81 ?_
  refine mx_iload_n (j := 2) hC dX9_relate_84 rfl rfl ?_
  obtain ⟨hi8, h⟩ := h
  refine mx_iaload hC ht6 hi8 dX9_relate_85 ?_
  refine mx_icmpeq (tgt := 98) hC dX9_relate_86 (by decide) (fun hc9 => ?_) (fun hc9 => ?_)
  · replace h := mj_yy hc9 h
    refine mx_sub (L' := [(0, vR l0), (1, vI l1), (2, vI l2)]) [0, 1, 2] rfl ?_
    exact show mj_X g 98 [(0, vR l0), (1, vI l1), (2, vI l2)] [] M 0 0 from (xb_X9_relate_98 hC hE l0 l1 l2 M h)
  · replace h := mj_nn hc9 h
    refine mx_iload_n (j := 3) hC dX9_relate_89 rfl rfl ?_
    refine mx_ifeqB (tgt := 122) hC dX9_relate_90 (by decide) (fun hc10 => ?_) (fun hc10 => ?_)
    · replace h := mj_nn hc10 h
      exact mx_vret hC hE rfl dX9_relate_122 h
    · replace h := mj_yy hc10 h
      refine mx_iload (j := 4) hC dX9_relate_93 rfl ?_
      refine mx_ifneB (tgt := 122) hC dX9_relate_95 (by decide) (fun hc11 => ?_) (fun hc11 => ?_)
      · replace h := mj_yy hc11 h
        exact mx_vret hC hE rfl dX9_relate_122 h
      · replace h := mj_nn hc11 h
        refine mx_sub (L' := [(0, vR l0), (1, vI l1), (2, vI l2)]) [0, 1, 2] rfl ?_
        exact show mj_X g 98 [(0, vR l0), (1, vI l1), (2, vI l2)] [] M 0 0 from (xb_X9_relate_98 hC hE l0 l1 l2 M h)
set_option maxHeartbeats 4000000 in
set_option maxRecDepth 100000 in
theorem xb_X9_relate_56 {g : mj_G} {post : Unit → mj_M → Prop} (hC : mj_C g yX9_relate cX9_relate 5 (none) rm_X9_relate) (hE : mj_E g mj_jV post 0 0) (l0 : Nat) (l1 : Int32) (l2 : Int32) (l3 : Bool) (s0 : Bool) (M : mj_M) (h : vb_X9_relate_56 post l0 l1 l2 l3 s0 M) : mj_X g 56 [(0, vR l0), (1, vI l1), (2, vI l2), (3, vI (mj_b l3))] [vI (mj_b s0)] M 0 0 := by
  simp only [vb_X9_relate_56] at h
  refine mx_istore (L' := [(4, vI (mj_b s0)), (0, vR l0), (1, vI l1), (2, vI l2), (3, vI (mj_b l3))]) hC dX9_relate_56 (by decide) rfl ?_
  refine mx_iload_n (j := 4) hC dX9_relate_58 rfl rfl ?_
  refine mx_ifeqB (tgt := 74) hC dX9_relate_59 (by decide) (fun hc12 => ?_) (fun hc12 => ?_)
  · replace h := mj_nn hc12 h
    refine mx_sub (L' := [(0, vR l0), (1, vI l1), (2, vI l2), (3, vI (mj_b l3)), (4, vI (mj_b s0))]) [1, 2, 3, 4, 0] rfl ?_
    exact show mj_X g 74 [(0, vR l0), (1, vI l1), (2, vI l2), (3, vI (mj_b l3)), (4, vI (mj_b s0))] [] M 0 0 from (xb_X9_relate_74 hC hE l0 l1 l2 l3 s0 M h)
  · replace h := mj_yy hc12 h
    refine mx_aload_n (j := 1) hC dX9_relate_62 rfl rfl ?_
    obtain ⟨ht13, h⟩ := h
    refine mx_get (v := vR (mj_r M l0 5)) hC tf_X9_27 ht13 rfl dX9_relate_63 ?_
    refine mx_iload_n (j := 2) hC dX9_relate_66 rfl rfl ?_
    refine mx_dup2 hC dX9_relate_67 rfl rfl ?_
    obtain ⟨ht14, h⟩ := h
    obtain ⟨hi15, h⟩ := h
    refine mx_iaload hC ht14 hi15 dX9_relate_68 ?_
    refine mx_iconst (v := 1) hC dX9_relate_69 (by decide) ?_
    refine mx_iload_n (j := 3) hC dX9_relate_70 rfl rfl ?_
    refine mx_ishl hC dX9_relate_71 ?_
    refine mx_ior hC dX9_relate_72 ?_
    refine mx_iastore hC ht14 hi15 dX9_relate_73 ?_
    refine mx_sub (L' := [(0, vR l0), (1, vI l1), (2, vI l2), (3, vI (mj_b l3)), (4, vI (mj_b s0))]) [1, 2, 3, 4, 0] rfl ?_
    exact show mj_X g 74 [(0, vR l0), (1, vI l1), (2, vI l2), (3, vI (mj_b l3)), (4, vI (mj_b s0))] [] (mj_wi M (mj_r M l0 5) (l1 : Int32).toNatClampNeg ((mj_i M (mj_r M l0 5) (l1 : Int32).toNatClampNeg) ||| (1 <<< (l2 &&& 31)))) 0 0 from (xb_X9_relate_74 hC hE l0 l1 l2 l3 s0 (mj_wi M (mj_r M l0 5) (l1 : Int32).toNatClampNeg ((mj_i M (mj_r M l0 5) (l1 : Int32).toNatClampNeg) ||| (1 <<< (l2 &&& 31)))) h)
set_option maxHeartbeats 4000000 in
set_option maxRecDepth 100000 in
theorem xb_X9_relate_55 {g : mj_G} {post : Unit → mj_M → Prop} (hC : mj_C g yX9_relate cX9_relate 5 (none) rm_X9_relate) (hE : mj_E g mj_jV post 0 0) (l0 : Nat) (l1 : Int32) (l2 : Int32) (l3 : Bool) (M : mj_M) (h : vb_X9_relate_55 post l0 l1 l2 l3 M) : mj_X g 55 [(0, vR l0), (1, vI l1), (2, vI l2), (3, vI (mj_b l3))] [] M 0 0 := by
  simp only [vb_X9_relate_55] at h
  refine mx_iconst (v := 0) hC dX9_relate_55 (by decide) ?_
  refine mx_sub (L' := [(0, vR l0), (1, vI l1), (2, vI l2), (3, vI (mj_b l3))]) [0, 1, 2, 3] rfl ?_
  exact show mj_X g 56 [(0, vR l0), (1, vI l1), (2, vI l2), (3, vI (mj_b l3))] [vI (mj_b false)] M 0 0 from (xb_X9_relate_56 hC hE l0 l1 l2 l3 false M h)
set_option maxHeartbeats 4000000 in
set_option maxRecDepth 100000 in
theorem xb_X9_relate_20 {g : mj_G} {post : Unit → mj_M → Prop} (hC : mj_C g yX9_relate cX9_relate 5 (none) rm_X9_relate) (hE : mj_E g mj_jV post 0 0) (l0 : Nat) (l1 : Int32) (l2 : Int32) (s0 : Bool) (M : mj_M) (h : vb_X9_relate_20 post l0 l1 l2 s0 M) : mj_X g 20 [(0, vR l0), (1, vI l1), (2, vI l2)] [vI (mj_b s0)] M 0 0 := by
  simp only [vb_X9_relate_20] at h
  refine mx_istore_n (L' := [(3, vI (mj_b s0)), (0, vR l0), (1, vI l1), (2, vI l2)]) hC dX9_relate_20 rfl (by decide) rfl ?_
  refine mx_aload_n (j := 1) hC dX9_relate_21 rfl rfl ?_
  obtain ⟨ht16, h⟩ := h
  refine mx_get (v := vR (mj_r M l0 2)) hC tf_X9_18 ht16 rfl dX9_relate_22 ?_
  refine mx_iload_n (j := 3) hC dX9_relate_25 rfl rfl ?_
  obtain ⟨ht17, h⟩ := h
  obtain ⟨hi18, h⟩ := h
  refine mx_iaload hC ht17 hi18 dX9_relate_26 ?_
  refine mx_aload_n (j := 1) hC dX9_relate_27 rfl rfl ?_
  refine mx_get (v := vR (mj_r M l0 2)) hC tf_X9_18 ht16 rfl dX9_relate_28 ?_
  refine mx_iload_n (j := 2) hC dX9_relate_31 rfl rfl ?_
  obtain ⟨hi19, h⟩ := h
  refine mx_iaload hC ht17 hi19 dX9_relate_32 ?_
  refine mx_icmpgt (tgt := 55) hC dX9_relate_33 (by decide) (fun hc20 => ?_) (fun hc20 => ?_)
  · replace h := mj_yy hc20 h
    refine mx_sub (L' := [(0, vR l0), (1, vI l1), (2, vI l2), (3, vI (mj_b s0))]) [1, 2, 3, 0] rfl ?_
    exact show mj_X g 55 [(0, vR l0), (1, vI l1), (2, vI l2), (3, vI (mj_b s0))] [] M 0 0 from (xb_X9_relate_55 hC hE l0 l1 l2 s0 M h)
  · replace h := mj_nn hc20 h
    refine mx_aload_n (j := 1) hC dX9_relate_36 rfl rfl ?_
    refine mx_get (v := vR (mj_r M l0 3)) hC tf_X9_21 ht16 rfl dX9_relate_37 ?_
    refine mx_iload_n (j := 2) hC dX9_relate_40 rfl rfl ?_
    obtain ⟨ht21, h⟩ := h
    obtain ⟨hi22, h⟩ := h
    refine mx_iaload hC ht21 hi22 dX9_relate_41 ?_
    refine mx_aload_n (j := 1) hC dX9_relate_42 rfl rfl ?_
    refine mx_get (v := vR (mj_r M l0 3)) hC tf_X9_21 ht16 rfl dX9_relate_43 ?_
    refine mx_iload_n (j := 3) hC dX9_relate_46 rfl rfl ?_
    obtain ⟨hi23, h⟩ := h
    refine mx_iaload hC ht21 hi23 dX9_relate_47 ?_
    refine mx_icmpgt (tgt := 55) hC dX9_relate_48 (by decide) (fun hc24 => ?_) (fun hc24 => ?_)
    · replace h := mj_yy hc24 h
      refine mx_sub (L' := [(0, vR l0), (1, vI l1), (2, vI l2), (3, vI (mj_b s0))]) [1, 2, 3, 0] rfl ?_
      exact show mj_X g 55 [(0, vR l0), (1, vI l1), (2, vI l2), (3, vI (mj_b s0))] [] M 0 0 from (xb_X9_relate_55 hC hE l0 l1 l2 s0 M h)
    · replace h := mj_nn hc24 h
      refine mx_iconst (v := 1) hC dX9_relate_51 (by decide) ?_
      refine mx_goto (tgt := 56) hC dX9_relate_52 (by decide) ?_
      refine mx_sub (L' := [(0, vR l0), (1, vI l1), (2, vI l2), (3, vI (mj_b s0))]) [1, 2, 3, 0] rfl ?_
      exact show mj_X g 56 [(0, vR l0), (1, vI l1), (2, vI l2), (3, vI (mj_b s0))] [vI (mj_b true)] M 0 0 from (xb_X9_relate_56 hC hE l0 l1 l2 s0 true M h)
set_option maxHeartbeats 4000000 in
set_option maxRecDepth 100000 in
theorem ct_X9_relate {l : Launch} {base : Nat} {D : va_G} {A : ClassId × ClassId × ClassId} (l0 : Nat) (l1 : Int32) (l2 : Int32) (M : mj_M) (post : Unit → mj_M → Prop) (h : vc_X9_relate l0 l1 l2 M post) : mj_Met l base D A mj_jV yX9_relate cX9_relate 5 (none) rm_X9_relate 0 0 [vR l0, vI l1, vI l2] M post := by
  refine mj_entry (by decide +kernel) (Nat.le_of_ble_eq_true rfl) (fun g hC hE h1 h2 h3 h4 => ?_)
  show mj_X g 0 [(0, vR l0), (1, vI l1), (2, vI l2)] [] M 0 0
  simp only [vc_X9_relate] at h
  refine mx_aload_n (j := 0) hC dX9_relate_0 rfl rfl ?_
  obtain ⟨ht25, h⟩ := h
  refine mx_get (v := vR (mj_r M l0 1)) hC tf_X9_15 ht25 rfl dX9_relate_1 ?_
  refine mx_iload_n (j := 1) hC dX9_relate_4 rfl rfl ?_
  obtain ⟨ht26, h⟩ := h
  obtain ⟨hi27, h⟩ := h
  refine mx_iaload hC ht26 hi27 dX9_relate_5 ?_
  refine mx_aload_n (j := 0) hC dX9_relate_6 rfl rfl ?_
  refine mx_get (v := vR (mj_r M l0 0)) hC tf_X9_9 ht25 rfl dX9_relate_7 ?_
  refine mx_iload_n (j := 2) hC dX9_relate_10 rfl rfl ?_
  obtain ⟨ht28, h⟩ := h
  obtain ⟨hi29, h⟩ := h
  refine mx_iaload hC ht28 hi29 dX9_relate_11 ?_
  refine mx_icmpne (tgt := 19) hC dX9_relate_12 (by decide) (fun hc30 => ?_) (fun hc30 => ?_)
  · replace h := mj_nn hc30 h
    refine mx_iconst (v := 0) hC dX9_relate_19 (by decide) ?_
    refine mx_sub (L' := [(0, vR l0), (1, vI l1), (2, vI l2)]) [0, 1, 2] rfl ?_
    exact show mj_X g 20 [(0, vR l0), (1, vI l1), (2, vI l2)] [vI (mj_b false)] M 0 0 from (xb_X9_relate_20 hC hE l0 l1 l2 false M h)
  · replace h := mj_yy hc30 h
    refine mx_iconst (v := 1) hC dX9_relate_15 (by decide) ?_
    refine mx_goto (tgt := 20) hC dX9_relate_16 (by decide) ?_
    refine mx_sub (L' := [(0, vR l0), (1, vI l1), (2, vI l2)]) [0, 1, 2] rfl ?_
    exact show mj_X g 20 [(0, vR l0), (1, vI l1), (2, vI l2)] [vI (mj_b true)] M 0 0 from (xb_X9_relate_20 hC hE l0 l1 l2 true M h)
theorem tw241 : (Jvm.Cond.fieldLink "LeaseLand$Register" (34 : Nat) "LeaseLand$Register" "count" "I") ∈ mj_tbl := mj_w 294 (by decide +kernel) (by decide +kernel)
theorem tf_X9_34 : mj_F 9 6 .int false "LeaseLand$Register" 34 := ⟨_, tk9, by decide, rfl, rfl, rfl, tw241⟩
theorem tw1168 : (Jvm.Cond.methodLink "LeaseLand$Register" (37 : Nat) ({ cls := "LeaseLand$Register", name := "relate", desc := "(II)V" } : Jvm.MethodName)) ∈ mj_tbl := mj_w 1221 (by decide +kernel) (by decide +kernel)
theorem tw1171 : (Jvm.Cond.code ({ cls := "LeaseLand$Register", name := "relate", desc := "(II)V" } : Jvm.MethodName) prog_11_method_3_code (5 : Nat) (Option.none : Option Jvm.ClassFile.FieldType)) ∈ mj_tbl := mj_w 1224 (by decide +kernel) (by decide +kernel)
theorem tw10 : (Jvm.Cond.initialized "LeaseLand$Register") ∈ mj_tbl := mj_w 63 (by decide +kernel) (by decide +kernel)
theorem tw1169 : (Jvm.Cond.instanceMethod ({ cls := "LeaseLand$Register", name := "relate", desc := "(II)V" } : Jvm.MethodName)) ∈ mj_tbl := mj_w 1222 (by decide +kernel) (by decide +kernel)
theorem tw1170 : (Jvm.Cond.selects "LeaseLand$Register" ({ cls := "LeaseLand$Register", name := "relate", desc := "(II)V" } : Jvm.MethodName) ({ cls := "LeaseLand$Register", name := "relate", desc := "(II)V" } : Jvm.MethodName)) ∈ mj_tbl := mj_w 1223 (by decide +kernel) (by decide +kernel)
theorem ty_X9_relate : mj_YV 9 yX9_relate cX9_relate 5 (none) 2 := ⟨⟨tw1171, tw10, by decide +kernel, by decide +kernel, by decide +kernel⟩, tw1169, tw1170, _, rfl, rfl⟩
def rm_X9_add : Room := { frames := 1, cells := 0, slots := 0, locals := 24 }
theorem dX9_add_0 : decode cX9_add 0 = .ok (.aload_n 0, 1) := by decide +kernel
theorem dX9_add_1 : decode cX9_add 1 = .ok (.getfield 34, 3) := by decide +kernel
theorem dX9_add_4 : decode cX9_add 4 = .ok (.bipush 12, 2) := by decide +kernel
theorem dX9_add_6 : decode cX9_add 6 = .ok (.if_icmp .lt 6, 3) := by decide +kernel
theorem dX9_add_9 : decode cX9_add 9 = .ok (.bipush (-4), 2) := by decide +kernel
theorem dX9_add_11 : decode cX9_add 11 = .ok (.ireturn, 1) := by decide +kernel
theorem dX9_add_12 : decode cX9_add 12 = .ok (.aload_n 0, 1) := by decide +kernel
theorem dX9_add_13 : decode cX9_add 13 = .ok (.getfield 34, 3) := by decide +kernel
theorem dX9_add_16 : decode cX9_add 16 = .ok (.istore 5, 2) := by decide +kernel
theorem dX9_add_18 : decode cX9_add 18 = .ok (.aload_n 0, 1) := by decide +kernel
theorem dX9_add_19 : decode cX9_add 19 = .ok (.getfield 9, 3) := by decide +kernel
theorem dX9_add_22 : decode cX9_add 22 = .ok (.iload 5, 2) := by decide +kernel
theorem dX9_add_24 : decode cX9_add 24 = .ok (.iload_n 1, 1) := by decide +kernel
theorem dX9_add_25 : decode cX9_add 25 = .ok (.iastore, 1) := by decide +kernel
theorem dX9_add_26 : decode cX9_add 26 = .ok (.aload_n 0, 1) := by decide +kernel
theorem dX9_add_27 : decode cX9_add 27 = .ok (.getfield 15, 3) := by decide +kernel
theorem dX9_add_30 : decode cX9_add 30 = .ok (.iload 5, 2) := by decide +kernel
theorem dX9_add_32 : decode cX9_add 32 = .ok (.iload_n 2, 1) := by decide +kernel
theorem dX9_add_33 : decode cX9_add 33 = .ok (.iastore, 1) := by decide +kernel
theorem dX9_add_34 : decode cX9_add 34 = .ok (.aload_n 0, 1) := by decide +kernel
theorem dX9_add_35 : decode cX9_add 35 = .ok (.getfield 18, 3) := by decide +kernel
theorem dX9_add_38 : decode cX9_add 38 = .ok (.iload 5, 2) := by decide +kernel
theorem dX9_add_40 : decode cX9_add 40 = .ok (.iload_n 3, 1) := by decide +kernel
theorem dX9_add_41 : decode cX9_add 41 = .ok (.iastore, 1) := by decide +kernel
theorem dX9_add_42 : decode cX9_add 42 = .ok (.aload_n 0, 1) := by decide +kernel
theorem dX9_add_43 : decode cX9_add 43 = .ok (.getfield 21, 3) := by decide +kernel
theorem dX9_add_46 : decode cX9_add 46 = .ok (.iload 5, 2) := by decide +kernel
theorem dX9_add_48 : decode cX9_add 48 = .ok (.iload 4, 2) := by decide +kernel
theorem dX9_add_50 : decode cX9_add 50 = .ok (.iastore, 1) := by decide +kernel
theorem dX9_add_51 : decode cX9_add 51 = .ok (.aload_n 0, 1) := by decide +kernel
theorem dX9_add_52 : decode cX9_add 52 = .ok (.dup, 1) := by decide +kernel
theorem dX9_add_53 : decode cX9_add 53 = .ok (.getfield 34, 3) := by decide +kernel
theorem dX9_add_56 : decode cX9_add 56 = .ok (.iconst 1, 1) := by decide +kernel
theorem dX9_add_57 : decode cX9_add 57 = .ok (.iadd, 1) := by decide +kernel
theorem dX9_add_58 : decode cX9_add 58 = .ok (.putfield 34, 3) := by decide +kernel
theorem dX9_add_61 : decode cX9_add 61 = .ok (.aload_n 0, 1) := by decide +kernel
theorem dX9_add_62 : decode cX9_add 62 = .ok (.bipush (-6), 2) := by decide +kernel
theorem dX9_add_64 : decode cX9_add 64 = .ok (.putfield 30, 3) := by decide +kernel
theorem dX9_add_67 : decode cX9_add 67 = .ok (.iconst 0, 1) := by decide +kernel
theorem dX9_add_68 : decode cX9_add 68 = .ok (.istore 6, 2) := by decide +kernel
theorem dX9_add_70 : decode cX9_add 70 = .ok (.iload 6, 2) := by decide +kernel
theorem dX9_add_72 : decode cX9_add 72 = .ok (.iload 5, 2) := by decide +kernel
theorem dX9_add_74 : decode cX9_add 74 = .ok (.if_icmp .ge 25, 3) := by decide +kernel
theorem dX9_add_77 : decode cX9_add 77 = .ok (.aload_n 0, 1) := by decide +kernel
theorem dX9_add_78 : decode cX9_add 78 = .ok (.iload 5, 2) := by decide +kernel
theorem dX9_add_80 : decode cX9_add 80 = .ok (.iload 6, 2) := by decide +kernel
theorem dX9_add_82 : decode cX9_add 82 = .ok (.invokevirtual 37, 3) := by decide +kernel
theorem dX9_add_85 : decode cX9_add 85 = .ok (.aload_n 0, 1) := by decide +kernel
theorem dX9_add_86 : decode cX9_add 86 = .ok (.iload 6, 2) := by decide +kernel
theorem dX9_add_88 : decode cX9_add 88 = .ok (.iload 5, 2) := by decide +kernel
theorem dX9_add_90 : decode cX9_add 90 = .ok (.invokevirtual 37, 3) := by decide +kernel
theorem dX9_add_93 : decode cX9_add 93 = .ok (.iinc 6 1, 3) := by decide +kernel
theorem dX9_add_96 : decode cX9_add 96 = .ok (.goto (-26), 3) := by decide +kernel
theorem dX9_add_99 : decode cX9_add 99 = .ok (.iload 5, 2) := by decide +kernel
theorem dX9_add_101 : decode cX9_add 101 = .ok (.ireturn, 1) := by decide +kernel
def vb_X9_add_70 (post : Int32 → mj_M → Prop) : Nat → Nat → Int32 → Int32 → mj_M → Prop
  | 0 => fun _ _ _ _ => False
  | f + 1 => fun l0 l5 l6 M => if l5 ≤ l6 then (post l5 M) else (mj_tag M l0 = 10 ∧ vc_X9_relate l0 l5 l6 M (fun _ M3 => mj_tag M3 l0 = 10 ∧ vc_X9_relate l0 l6 l5 M3 (fun _ M5 => vb_X9_add_70 post f l0 l5 (l6 + 1) M5)))
def vc_X9_add (l0 : Nat) (l1 : Int32) (l2 : Int32) (l3 : Int32) (l4 : Int32) (M : mj_M) (post : Int32 → mj_M → Prop) : Prop := mj_tag M l0 = 10 ∧ if (mj_i M l0 6) < 12 then (mj_tag M (mj_r M l0 0) = 101 ∧ vp_in (mj_i M l0 6) (mj_len M (mj_r M l0 0)) ∧ mj_tag M (mj_r M l0 1) = 101 ∧ vp_in (mj_i M l0 6) (mj_len M (mj_r M l0 1)) ∧ mj_tag M (mj_r M l0 2) = 101 ∧ vp_in (mj_i M l0 6) (mj_len M (mj_r M l0 2)) ∧ mj_tag M (mj_r M l0 3) = 101 ∧ vp_in (mj_i M l0 6) (mj_len M (mj_r M l0 3)) ∧ ∃ fe, vb_X9_add_70 post fe l0 (mj_i M l0 6) 0 (mj_wi (mj_wi (mj_wi (mj_wi (mj_wi (mj_wi M (mj_r M l0 0) (mj_i M l0 6 : Int32).toNatClampNeg l1) (mj_r M l0 1) (mj_i M l0 6 : Int32).toNatClampNeg l2) (mj_r M l0 2) (mj_i M l0 6 : Int32).toNatClampNeg l3) (mj_r M l0 3) (mj_i M l0 6 : Int32).toNatClampNeg l4) l0 6 ((mj_i (mj_wi (mj_wi (mj_wi (mj_wi M (mj_r M l0 0) (mj_i M l0 6 : Int32).toNatClampNeg l1) (mj_r M l0 1) (mj_i M l0 6 : Int32).toNatClampNeg l2) (mj_r M l0 2) (mj_i M l0 6 : Int32).toNatClampNeg l3) (mj_r M l0 3) (mj_i M l0 6 : Int32).toNatClampNeg l4) l0 6) + 1)) l0 7 ((-6)))) else (post ((-4)) M)
set_option maxHeartbeats 4000000 in
set_option maxRecDepth 100000 in
theorem xb_X9_add_70 {g : mj_G} {post : Int32 → mj_M → Prop} (hC : mj_C g yX9_add cX9_add 7 (some .int) rm_X9_add) (hE : mj_E g mj_jI post 0 0) : ∀ (f : Nat) (l0 : Nat) (l5 : Int32) (l6 : Int32) (M : mj_M), vb_X9_add_70 post f l0 l5 l6 M → mj_X g 70 [(0, vR l0), (5, vI l5), (6, vI l6)] [] M 0 0 := by
  intro f
  induction f with
  | zero => exact fun _ _ _ _ h => absurd h (fun z => z)
  | succ f ih =>
    intro l0 l5 l6 M h
    simp only [vb_X9_add_70] at h
    refine mx_iload (j := 2) hC dX9_add_70 rfl ?_
    refine mx_iload (j := 1) hC dX9_add_72 rfl ?_
    refine mx_icmpge (tgt := 99) hC dX9_add_74 (by decide) (fun hc1 => ?_) (fun hc1 => ?_)
    · replace h := mj_yy hc1 h
      refine mx_iload (j := 1) hC dX9_add_99 rfl ?_
      exact mx_iret hC hE rfl dX9_add_101 h
    · replace h := mj_nn hc1 h
      refine mx_aload_n (j := 0) hC dX9_add_77 rfl rfl ?_
      refine mx_iload (j := 1) hC dX9_add_78 rfl ?_
      refine mx_iload (j := 2) hC dX9_add_80 rfl ?_
      obtain ⟨ht2, h⟩ := h
      refine mx_callV (inj := mj_jV) (As := [vI l5, vI l6]) (st := []) hC (ct_X9_relate l0 l5 l6 M _ h) ty_X9_relate tw1168 ht2 rfl (Nat.le_of_ble_eq_true rfl) ⟨rfl, rfl, ⟨by decide, by decide⟩, by decide, by decide⟩ dX9_add_82 (fun _ M3 h => ?_)
      show mj_X g 85 [(0, vR l0), (5, vI l5), (6, vI l6)] [] M3 0 0
      refine mx_aload_n (j := 0) hC dX9_add_85 rfl rfl ?_
      refine mx_iload (j := 2) hC dX9_add_86 rfl ?_
      refine mx_iload (j := 1) hC dX9_add_88 rfl ?_
      obtain ⟨ht4, h⟩ := h
      refine mx_callV (inj := mj_jV) (As := [vI l6, vI l5]) (st := []) hC (ct_X9_relate l0 l6 l5 M3 _ h) ty_X9_relate tw1168 ht4 rfl (Nat.le_of_ble_eq_true rfl) ⟨rfl, rfl, ⟨by decide, by decide⟩, by decide, by decide⟩ dX9_add_90 (fun _ M5 h => ?_)
      show mj_X g 93 [(0, vR l0), (5, vI l5), (6, vI l6)] [] M5 0 0
      refine mx_iinc (j := 2) (v := l6 + 1) (L' := [(6, vI (l6 + 1)), (0, vR l0), (5, vI l5)]) hC dX9_add_93 rfl rfl (by decide) rfl ?_
      refine mx_goto (tgt := 70) hC dX9_add_96 (by decide) ?_
      refine mx_sub (L' := [(0, vR l0), (5, vI l5), (6, vI (l6 + 1))]) [1, 2, 0] rfl ?_
      exact show mj_X g 70 [(0, vR l0), (5, vI l5), (6, vI (l6 + 1))] [] M5 0 0 from (ih l0 l5 (l6 + 1) M5 h)
set_option maxHeartbeats 4000000 in
set_option maxRecDepth 100000 in
theorem ct_X9_add {l : Launch} {base : Nat} {D : va_G} {A : ClassId × ClassId × ClassId} (l0 : Nat) (l1 : Int32) (l2 : Int32) (l3 : Int32) (l4 : Int32) (M : mj_M) (post : Int32 → mj_M → Prop) (h : vc_X9_add l0 l1 l2 l3 l4 M post) : mj_Met l base D A mj_jI yX9_add cX9_add 7 (some .int) rm_X9_add 0 0 [vR l0, vI l1, vI l2, vI l3, vI l4] M post := by
  refine mj_entry (by decide +kernel) (Nat.le_of_ble_eq_true rfl) (fun g hC hE h1 h2 h3 h4 => ?_)
  show mj_X g 0 [(0, vR l0), (1, vI l1), (2, vI l2), (3, vI l3), (4, vI l4)] [] M 0 0
  simp only [vc_X9_add] at h
  refine mx_aload_n (j := 0) hC dX9_add_0 rfl rfl ?_
  obtain ⟨ht6, h⟩ := h
  refine mx_get (v := vI (mj_i M l0 6)) hC tf_X9_34 ht6 rfl dX9_add_1 ?_
  refine mx_bipush (v := 12) hC dX9_add_4 (by decide) ?_
  refine mx_icmplt (tgt := 12) hC dX9_add_6 (by decide) (fun hc7 => ?_) (fun hc7 => ?_)
  · replace h := mj_yy hc7 h
    refine mx_aload_n (j := 0) hC dX9_add_12 rfl rfl ?_
    refine mx_get (v := vI (mj_i M l0 6)) hC tf_X9_34 ht6 rfl dX9_add_13 ?_
    refine mx_istore (L' := [(5, vI (mj_i M l0 6)), (0, vR l0), (1, vI l1), (2, vI l2), (3, vI l3), (4, vI l4)]) hC dX9_add_16 (by decide) rfl ?_
    refine mx_aload_n (j := 1) hC dX9_add_18 rfl rfl ?_
    refine mx_get (v := vR (mj_r M l0 0)) hC tf_X9_9 ht6 rfl dX9_add_19 ?_
    refine mx_iload (j := 0) hC dX9_add_22 rfl ?_
    refine mx_iload_n (j := 2) hC dX9_add_24 rfl rfl ?_
    obtain ⟨ht8, h⟩ := h
    obtain ⟨hi9, h⟩ := h
    refine mx_iastore hC ht8 hi9 dX9_add_25 ?_
    refine mx_aload_n (j := 1) hC dX9_add_26 rfl rfl ?_
    refine mx_get (v := vR (mj_r M l0 1)) hC tf_X9_15 ht6 rfl dX9_add_27 ?_
    refine mx_iload (j := 0) hC dX9_add_30 rfl ?_
    refine mx_iload_n (j := 3) hC dX9_add_32 rfl rfl ?_
    obtain ⟨ht10, h⟩ := h
    obtain ⟨hi11, h⟩ := h
    refine mx_iastore hC ht10 hi11 dX9_add_33 ?_
    refine mx_aload_n (j := 1) hC dX9_add_34 rfl rfl ?_
    refine mx_get (v := vR (mj_r M l0 2)) hC tf_X9_18 ht6 rfl dX9_add_35 ?_
    refine mx_iload (j := 0) hC dX9_add_38 rfl ?_
    refine mx_iload_n (j := 4) hC dX9_add_40 rfl rfl ?_
    obtain ⟨ht12, h⟩ := h
    obtain ⟨hi13, h⟩ := h
    refine mx_iastore hC ht12 hi13 dX9_add_41 ?_
    refine mx_aload_n (j := 1) hC dX9_add_42 rfl rfl ?_
    refine mx_get (v := vR (mj_r M l0 3)) hC tf_X9_21 ht6 rfl dX9_add_43 ?_
    refine mx_iload (j := 0) hC dX9_add_46 rfl ?_
    refine mx_iload (j := 5) hC dX9_add_48 rfl ?_
    obtain ⟨ht14, h⟩ := h
    obtain ⟨hi15, h⟩ := h
    refine mx_iastore hC ht14 hi15 dX9_add_50 ?_
    refine mx_aload_n (j := 1) hC dX9_add_51 rfl rfl ?_
    refine mx_dup hC dX9_add_52 rfl ?_
    refine mx_get (v := vI (mj_i (mj_wi (mj_wi (mj_wi (mj_wi M (mj_r M l0 0) (mj_i M l0 6 : Int32).toNatClampNeg l1) (mj_r M l0 1) (mj_i M l0 6 : Int32).toNatClampNeg l2) (mj_r M l0 2) (mj_i M l0 6 : Int32).toNatClampNeg l3) (mj_r M l0 3) (mj_i M l0 6 : Int32).toNatClampNeg l4) l0 6)) hC tf_X9_34 ht6 rfl dX9_add_53 ?_
    refine mx_iconst (v := 1) hC dX9_add_56 (by decide) ?_
    refine mx_iadd hC dX9_add_57 ?_
    refine mx_put (v := vI ((mj_i (mj_wi (mj_wi (mj_wi (mj_wi M (mj_r M l0 0) (mj_i M l0 6 : Int32).toNatClampNeg l1) (mj_r M l0 1) (mj_i M l0 6 : Int32).toNatClampNeg l2) (mj_r M l0 2) (mj_i M l0 6 : Int32).toNatClampNeg l3) (mj_r M l0 3) (mj_i M l0 6 : Int32).toNatClampNeg l4) l0 6) + 1)) (M1 := mj_wi (mj_wi (mj_wi (mj_wi (mj_wi M (mj_r M l0 0) (mj_i M l0 6 : Int32).toNatClampNeg l1) (mj_r M l0 1) (mj_i M l0 6 : Int32).toNatClampNeg l2) (mj_r M l0 2) (mj_i M l0 6 : Int32).toNatClampNeg l3) (mj_r M l0 3) (mj_i M l0 6 : Int32).toNatClampNeg l4) l0 6 ((mj_i (mj_wi (mj_wi (mj_wi (mj_wi M (mj_r M l0 0) (mj_i M l0 6 : Int32).toNatClampNeg l1) (mj_r M l0 1) (mj_i M l0 6 : Int32).toNatClampNeg l2) (mj_r M l0 2) (mj_i M l0 6 : Int32).toNatClampNeg l3) (mj_r M l0 3) (mj_i M l0 6 : Int32).toNatClampNeg l4) l0 6) + 1)) hC tf_X9_34 ht6 (Or.inl rfl) ⟨rfl, rfl⟩ (mj_off_wi _ _ _ _) mj_put_wi dX9_add_58 ?_
    refine mx_aload_n (j := 1) hC dX9_add_61 rfl rfl ?_
    refine mx_bipush (v := (-6)) hC dX9_add_62 (by decide) ?_
    refine mx_put (v := vI ((-6))) (M1 := mj_wi (mj_wi (mj_wi (mj_wi (mj_wi (mj_wi M (mj_r M l0 0) (mj_i M l0 6 : Int32).toNatClampNeg l1) (mj_r M l0 1) (mj_i M l0 6 : Int32).toNatClampNeg l2) (mj_r M l0 2) (mj_i M l0 6 : Int32).toNatClampNeg l3) (mj_r M l0 3) (mj_i M l0 6 : Int32).toNatClampNeg l4) l0 6 ((mj_i (mj_wi (mj_wi (mj_wi (mj_wi M (mj_r M l0 0) (mj_i M l0 6 : Int32).toNatClampNeg l1) (mj_r M l0 1) (mj_i M l0 6 : Int32).toNatClampNeg l2) (mj_r M l0 2) (mj_i M l0 6 : Int32).toNatClampNeg l3) (mj_r M l0 3) (mj_i M l0 6 : Int32).toNatClampNeg l4) l0 6) + 1)) l0 7 ((-6))) hC tf_X9_30 ht6 (Or.inl rfl) ⟨rfl, rfl⟩ (mj_off_wi _ _ _ _) mj_put_wi dX9_add_64 ?_
    refine mx_iconst (v := 0) hC dX9_add_67 (by decide) ?_
    refine mx_istore (L' := [(6, vI 0), (5, vI (mj_i M l0 6)), (0, vR l0), (1, vI l1), (2, vI l2), (3, vI l3), (4, vI l4)]) hC dX9_add_68 (by decide) rfl ?_
    refine mx_sub (L' := [(0, vR l0), (5, vI (mj_i M l0 6)), (6, vI 0)]) [2, 1, 0] rfl ?_
    obtain ⟨fe, h⟩ := h
    exact show mj_X g 70 [(0, vR l0), (5, vI (mj_i M l0 6)), (6, vI 0)] [] (mj_wi (mj_wi (mj_wi (mj_wi (mj_wi (mj_wi M (mj_r M l0 0) (mj_i M l0 6 : Int32).toNatClampNeg l1) (mj_r M l0 1) (mj_i M l0 6 : Int32).toNatClampNeg l2) (mj_r M l0 2) (mj_i M l0 6 : Int32).toNatClampNeg l3) (mj_r M l0 3) (mj_i M l0 6 : Int32).toNatClampNeg l4) l0 6 ((mj_i (mj_wi (mj_wi (mj_wi (mj_wi M (mj_r M l0 0) (mj_i M l0 6 : Int32).toNatClampNeg l1) (mj_r M l0 1) (mj_i M l0 6 : Int32).toNatClampNeg l2) (mj_r M l0 2) (mj_i M l0 6 : Int32).toNatClampNeg l3) (mj_r M l0 3) (mj_i M l0 6 : Int32).toNatClampNeg l4) l0 6) + 1)) l0 7 ((-6))) 0 0 from (xb_X9_add_70 hC hE fe l0 (mj_i M l0 6) 0 (mj_wi (mj_wi (mj_wi (mj_wi (mj_wi (mj_wi M (mj_r M l0 0) (mj_i M l0 6 : Int32).toNatClampNeg l1) (mj_r M l0 1) (mj_i M l0 6 : Int32).toNatClampNeg l2) (mj_r M l0 2) (mj_i M l0 6 : Int32).toNatClampNeg l3) (mj_r M l0 3) (mj_i M l0 6 : Int32).toNatClampNeg l4) l0 6 ((mj_i (mj_wi (mj_wi (mj_wi (mj_wi M (mj_r M l0 0) (mj_i M l0 6 : Int32).toNatClampNeg l1) (mj_r M l0 1) (mj_i M l0 6 : Int32).toNatClampNeg l2) (mj_r M l0 2) (mj_i M l0 6 : Int32).toNatClampNeg l3) (mj_r M l0 3) (mj_i M l0 6 : Int32).toNatClampNeg l4) l0 6) + 1)) l0 7 ((-6))) h)
  · replace h := mj_nn hc7 h
    refine mx_bipush (v := (-4)) hC dX9_add_9 (by decide) ?_
    exact mx_iret hC hE rfl dX9_add_11 h
def rm_X9_all : Room := { frames := 0, cells := 0, slots := 0, locals := 0 }
theorem dX9_all_0 : decode cX9_all 0 = .ok (.iconst 1, 1) := by decide +kernel
theorem dX9_all_1 : decode cX9_all 1 = .ok (.aload_n 0, 1) := by decide +kernel
theorem dX9_all_2 : decode cX9_all 2 = .ok (.getfield 34, 3) := by decide +kernel
theorem dX9_all_5 : decode cX9_all 5 = .ok (.ishl, 1) := by decide +kernel
theorem dX9_all_6 : decode cX9_all 6 = .ok (.iconst 1, 1) := by decide +kernel
theorem dX9_all_7 : decode cX9_all 7 = .ok (.isub, 1) := by decide +kernel
theorem dX9_all_8 : decode cX9_all 8 = .ok (.ireturn, 1) := by decide +kernel
def vc_X9_all (l0 : Nat) (M : mj_M) (post : Int32 → mj_M → Prop) : Prop := mj_tag M l0 = 10 ∧ post ((1 <<< ((mj_i M l0 6) &&& 31)) - 1) M
set_option maxHeartbeats 4000000 in
set_option maxRecDepth 100000 in
theorem ct_X9_all {l : Launch} {base : Nat} {D : va_G} {A : ClassId × ClassId × ClassId} (l0 : Nat) (M : mj_M) (post : Int32 → mj_M → Prop) (h : vc_X9_all l0 M post) : mj_Met l base D A mj_jI yX9_all cX9_all 1 (some .int) rm_X9_all 0 0 [vR l0] M post := by
  refine mj_entry (by decide +kernel) (Nat.le_of_ble_eq_true rfl) (fun g hC hE h1 h2 h3 h4 => ?_)
  show mj_X g 0 [(0, vR l0)] [] M 0 0
  simp only [vc_X9_all] at h
  refine mx_iconst (v := 1) hC dX9_all_0 (by decide) ?_
  refine mx_aload_n (j := 0) hC dX9_all_1 rfl rfl ?_
  obtain ⟨ht1, h⟩ := h
  refine mx_get (v := vI (mj_i M l0 6)) hC tf_X9_34 ht1 rfl dX9_all_2 ?_
  refine mx_ishl hC dX9_all_5 ?_
  refine mx_iconst (v := 1) hC dX9_all_6 (by decide) ?_
  refine mx_isub hC dX9_all_7 ?_
  exact mx_iret hC hE rfl dX9_all_8 h

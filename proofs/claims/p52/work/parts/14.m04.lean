/-! methods 4. By program (wip/gen) out of the bytecode: vc_KEY: what must hold of a call; ct_KEY: then the machine does it. -/
theorem tw242 : (Jvm.Cond.fieldLink "LeaseLand" (10 : Nat) "LeaseLand" "land" "LLeaseLand$Land;") ∈ mj_tbl := mj_w 248 (by decide +kernel) (by decide +kernel)
theorem tk11 : mj_KC 11 (RX11, TX11, 8, tyX11) := ⟨rfl, fun w hw => List.mem_filter.mpr ⟨(goodIn_r (big := lw_tbl) (u_ws RX11 TX11 8) [256, 258, 260, 262, 264, 266, 268, 270] (by decide +kernel) (by decide +kernel) w hw).1, List.all_eq_true.mp (show (u_ws RX11 TX11 8).all goodWord = true by decide +kernel) w hw⟩, tyX11_ok, nmX11, by decide⟩
theorem tf_X11_10 : mj_F 11 0 (.object "LeaseLand$Land") true "LeaseLand" 10 := ⟨_, tk11, by decide, rfl, rfl, rfl, tw242⟩
theorem tw243 : (Jvm.Cond.fieldLink "LeaseLand" (19 : Nat) "LeaseLand" "acts" "LLeaseLand$Acts;") ∈ mj_tbl := mj_w 249 (by decide +kernel) (by decide +kernel)
theorem tf_X11_19 : mj_F 11 1 (.object "LeaseLand$Acts") true "LeaseLand" 19 := ⟨_, tk11, by decide, rfl, rfl, rfl, tw243⟩
theorem tw244 : (Jvm.Cond.fieldLink "LeaseLand" (26 : Nat) "LeaseLand" "reading" "LLeaseLand$Reading;") ∈ mj_tbl := mj_w 250 (by decide +kernel) (by decide +kernel)
theorem tf_X11_26 : mj_F 11 2 (.object "LeaseLand$Reading") true "LeaseLand" 26 := ⟨_, tk11, by decide, rfl, rfl, rfl, tw244⟩
theorem tw245 : (Jvm.Cond.fieldLink "LeaseLand" (33 : Nat) "LeaseLand" "notices" "LLeaseLand$Notices;") ∈ mj_tbl := mj_w 251 (by decide +kernel) (by decide +kernel)
theorem tf_X11_33 : mj_F 11 3 (.object "LeaseLand$Notices") true "LeaseLand" 33 := ⟨_, tk11, by decide, rfl, rfl, rfl, tw245⟩
theorem tw246 : (Jvm.Cond.fieldLink "LeaseLand" (40 : Nat) "LeaseLand" "market" "LLeaseLand$Market;") ∈ mj_tbl := mj_w 252 (by decide +kernel) (by decide +kernel)
theorem tf_X11_40 : mj_F 11 4 (.object "LeaseLand$Market") true "LeaseLand" 40 := ⟨_, tk11, by decide, rfl, rfl, rfl, tw246⟩
theorem tw247 : (Jvm.Cond.fieldLink "LeaseLand" (47 : Nat) "LeaseLand" "sales" "LLeaseLand$Sales;") ∈ mj_tbl := mj_w 253 (by decide +kernel) (by decide +kernel)
theorem tf_X11_47 : mj_F 11 5 (.object "LeaseLand$Sales") true "LeaseLand" 47 := ⟨_, tk11, by decide, rfl, rfl, rfl, tw247⟩
theorem tw248 : (Jvm.Cond.fieldLink "LeaseLand" (54 : Nat) "LeaseLand" "register" "LLeaseLand$Register;") ∈ mj_tbl := mj_w 254 (by decide +kernel) (by decide +kernel)
theorem tf_X11_54 : mj_F 11 6 (.object "LeaseLand$Register") true "LeaseLand" 54 := ⟨_, tk11, by decide, rfl, rfl, rfl, tw248⟩
theorem tw249 : (Jvm.Cond.fieldLink "LeaseLand" (58 : Nat) "LeaseLand" "joined" "[I") ∈ mj_tbl := mj_w 255 (by decide +kernel) (by decide +kernel)
theorem tf_X11_58 : mj_F 11 7 (.array .int) true "LeaseLand" 58 := ⟨_, tk11, by decide, rfl, rfl, rfl, tw249⟩
theorem tn101 : (Jvm.Cond.methodLinkNest "LeaseLand" (25 : Nat) ({ cls := "LeaseLand$Reading", name := "<init>", desc := "()V" } : Jvm.MethodName) "LeaseLand") ∈ mj_nest := List.mem_filter.mpr ⟨List.mem_of_getElem? (i := 101) (by decide +kernel), rfl⟩
theorem tn132 : (Jvm.Cond.methodLinkNest "LeaseLand" (32 : Nat) ({ cls := "LeaseLand$Notices", name := "<init>", desc := "()V" } : Jvm.MethodName) "LeaseLand") ∈ mj_nest := List.mem_filter.mpr ⟨List.mem_of_getElem? (i := 132) (by decide +kernel), rfl⟩
theorem tn149 : (Jvm.Cond.methodLinkNest "LeaseLand" (39 : Nat) ({ cls := "LeaseLand$Market", name := "<init>", desc := "()V" } : Jvm.MethodName) "LeaseLand") ∈ mj_nest := List.mem_filter.mpr ⟨List.mem_of_getElem? (i := 149) (by decide +kernel), rfl⟩
theorem tn189 : (Jvm.Cond.methodLinkNest "LeaseLand" (46 : Nat) ({ cls := "LeaseLand$Sales", name := "<init>", desc := "()V" } : Jvm.MethodName) "LeaseLand") ∈ mj_nest := List.mem_filter.mpr ⟨List.mem_of_getElem? (i := 189) (by decide +kernel), rfl⟩
theorem tn214 : (Jvm.Cond.methodLinkNest "LeaseLand" (53 : Nat) ({ cls := "LeaseLand$Register", name := "<init>", desc := "()V" } : Jvm.MethodName) "LeaseLand") ∈ mj_nest := List.mem_filter.mpr ⟨List.mem_of_getElem? (i := 214) (by decide +kernel), rfl⟩
theorem tn62 : (Jvm.Cond.methodLinkNest "LeaseLand" (18 : Nat) ({ cls := "LeaseLand$Acts", name := "<init>", desc := "()V" } : Jvm.MethodName) "LeaseLand") ∈ mj_nest := List.mem_filter.mpr ⟨List.mem_of_getElem? (i := 62) (by decide +kernel), rfl⟩
theorem tw10 : (Jvm.Cond.initialized "LeaseLand$Register") ∈ mj_tbl := mj_w 16 (by decide +kernel) (by decide +kernel)
theorem tw100 : (Jvm.Cond.instantiable "LeaseLand$Reading" (8 : Nat)) ∈ mj_tbl := mj_w 106 (by decide +kernel) (by decide +kernel)
theorem tw130 : (Jvm.Cond.classLink "LeaseLand" (30 : Nat) "LeaseLand$Notices") ∈ mj_tbl := mj_w 136 (by decide +kernel) (by decide +kernel)
theorem tw131 : (Jvm.Cond.instantiable "LeaseLand$Notices" (3 : Nat)) ∈ mj_tbl := mj_w 137 (by decide +kernel) (by decide +kernel)
theorem tw147 : (Jvm.Cond.classLink "LeaseLand" (37 : Nat) "LeaseLand$Market") ∈ mj_tbl := mj_w 153 (by decide +kernel) (by decide +kernel)
theorem tw148 : (Jvm.Cond.instantiable "LeaseLand$Market" (10 : Nat)) ∈ mj_tbl := mj_w 154 (by decide +kernel) (by decide +kernel)
theorem tw187 : (Jvm.Cond.classLink "LeaseLand" (44 : Nat) "LeaseLand$Sales") ∈ mj_tbl := mj_w 193 (by decide +kernel) (by decide +kernel)
theorem tw188 : (Jvm.Cond.instantiable "LeaseLand$Sales" (8 : Nat)) ∈ mj_tbl := mj_w 194 (by decide +kernel) (by decide +kernel)
theorem tw212 : (Jvm.Cond.classLink "LeaseLand" (51 : Nat) "LeaseLand$Register") ∈ mj_tbl := mj_w 218 (by decide +kernel) (by decide +kernel)
theorem tw213 : (Jvm.Cond.instantiable "LeaseLand$Register" (8 : Nat)) ∈ mj_tbl := mj_w 219 (by decide +kernel) (by decide +kernel)
theorem tw27 : (Jvm.Cond.methodLink "LeaseLand" (1 : Nat) ({ cls := "java/lang/Object", name := "<init>", desc := "()V" } : Jvm.MethodName)) ∈ mj_tbl := mj_w 33 (by decide +kernel) (by decide +kernel)
theorem tw30 : (Jvm.Cond.classLink "LeaseLand" (7 : Nat) "LeaseLand$Land") ∈ mj_tbl := mj_w 36 (by decide +kernel) (by decide +kernel)
theorem tw31 : (Jvm.Cond.instantiable "LeaseLand$Land" (6 : Nat)) ∈ mj_tbl := mj_w 37 (by decide +kernel) (by decide +kernel)
theorem tw32 : (Jvm.Cond.methodLink "LeaseLand" (9 : Nat) ({ cls := "LeaseLand$Land", name := "<init>", desc := "()V" } : Jvm.MethodName)) ∈ mj_tbl := mj_w 38 (by decide +kernel) (by decide +kernel)
theorem tw4 : (Jvm.Cond.initialized "LeaseLand$Acts") ∈ mj_tbl := mj_w 10 (by decide +kernel) (by decide +kernel)
theorem tw60 : (Jvm.Cond.classLink "LeaseLand" (16 : Nat) "LeaseLand$Acts") ∈ mj_tbl := mj_w 66 (by decide +kernel) (by decide +kernel)
theorem tw61 : (Jvm.Cond.instantiable "LeaseLand$Acts" (5 : Nat)) ∈ mj_tbl := mj_w 67 (by decide +kernel) (by decide +kernel)
theorem tw7 : (Jvm.Cond.initialized "LeaseLand$Notices") ∈ mj_tbl := mj_w 13 (by decide +kernel) (by decide +kernel)
theorem tw9 : (Jvm.Cond.initialized "LeaseLand$Sales") ∈ mj_tbl := mj_w 15 (by decide +kernel) (by decide +kernel)
theorem tw99 : (Jvm.Cond.classLink "LeaseLand" (23 : Nat) "LeaseLand$Reading") ∈ mj_tbl := mj_w 105 (by decide +kernel) (by decide +kernel)
theorem tw191 : (Jvm.Cond.code ({ cls := "LeaseLand$Sales", name := "<init>", desc := "()V" } : Jvm.MethodName) prog_12_method_1_code (1 : Nat) (Option.none : Option Jvm.ClassFile.FieldType)) ∈ mj_tbl := mj_w 197 (by decide +kernel) (by decide +kernel)
theorem tw190 : (Jvm.Cond.instanceMethod ({ cls := "LeaseLand$Sales", name := "<init>", desc := "()V" } : Jvm.MethodName)) ∈ mj_tbl := mj_w 196 (by decide +kernel) (by decide +kernel)
theorem ty_X10_init : mj_YI yX10_init cX10_init 1 0 := ⟨⟨tw191, tw9, by decide +kernel, by decide +kernel, by decide +kernel⟩, tw190, rfl⟩
theorem tw64 : (Jvm.Cond.code ({ cls := "LeaseLand$Acts", name := "<init>", desc := "()V" } : Jvm.MethodName) prog_3_method_1_code (1 : Nat) (Option.none : Option Jvm.ClassFile.FieldType)) ∈ mj_tbl := mj_w 70 (by decide +kernel) (by decide +kernel)
theorem tw63 : (Jvm.Cond.instanceMethod ({ cls := "LeaseLand$Acts", name := "<init>", desc := "()V" } : Jvm.MethodName)) ∈ mj_tbl := mj_w 69 (by decide +kernel) (by decide +kernel)
theorem ty_X1_init : mj_YI yX1_init cX1_init 1 0 := ⟨⟨tw64, tw4, by decide +kernel, by decide +kernel, by decide +kernel⟩, tw63, rfl⟩
theorem tw34 : (Jvm.Cond.code ({ cls := "LeaseLand$Land", name := "<init>", desc := "()V" } : Jvm.MethodName) prog_6_method_1_code (1 : Nat) (Option.none : Option Jvm.ClassFile.FieldType)) ∈ mj_tbl := mj_w 40 (by decide +kernel) (by decide +kernel)
theorem tw33 : (Jvm.Cond.instanceMethod ({ cls := "LeaseLand$Land", name := "<init>", desc := "()V" } : Jvm.MethodName)) ∈ mj_tbl := mj_w 39 (by decide +kernel) (by decide +kernel)
theorem ty_X4_init : mj_YI yX4_init cX4_init 1 0 := ⟨⟨tw34, tw2, by decide +kernel, by decide +kernel, by decide +kernel⟩, tw33, rfl⟩
theorem tw151 : (Jvm.Cond.code ({ cls := "LeaseLand$Market", name := "<init>", desc := "()V" } : Jvm.MethodName) prog_7_method_1_code (1 : Nat) (Option.none : Option Jvm.ClassFile.FieldType)) ∈ mj_tbl := mj_w 157 (by decide +kernel) (by decide +kernel)
theorem tw150 : (Jvm.Cond.instanceMethod ({ cls := "LeaseLand$Market", name := "<init>", desc := "()V" } : Jvm.MethodName)) ∈ mj_tbl := mj_w 156 (by decide +kernel) (by decide +kernel)
theorem ty_X5_init : mj_YI yX5_init cX5_init 1 0 := ⟨⟨tw151, tw8, by decide +kernel, by decide +kernel, by decide +kernel⟩, tw150, rfl⟩
theorem tw134 : (Jvm.Cond.code ({ cls := "LeaseLand$Notices", name := "<init>", desc := "()V" } : Jvm.MethodName) prog_9_method_1_code (1 : Nat) (Option.none : Option Jvm.ClassFile.FieldType)) ∈ mj_tbl := mj_w 140 (by decide +kernel) (by decide +kernel)
theorem tw133 : (Jvm.Cond.instanceMethod ({ cls := "LeaseLand$Notices", name := "<init>", desc := "()V" } : Jvm.MethodName)) ∈ mj_tbl := mj_w 139 (by decide +kernel) (by decide +kernel)
theorem ty_X7_init : mj_YI yX7_init cX7_init 1 0 := ⟨⟨tw134, tw7, by decide +kernel, by decide +kernel, by decide +kernel⟩, tw133, rfl⟩
theorem tw103 : (Jvm.Cond.code ({ cls := "LeaseLand$Reading", name := "<init>", desc := "()V" } : Jvm.MethodName) prog_10_method_1_code (1 : Nat) (Option.none : Option Jvm.ClassFile.FieldType)) ∈ mj_tbl := mj_w 109 (by decide +kernel) (by decide +kernel)
theorem tw102 : (Jvm.Cond.instanceMethod ({ cls := "LeaseLand$Reading", name := "<init>", desc := "()V" } : Jvm.MethodName)) ∈ mj_tbl := mj_w 108 (by decide +kernel) (by decide +kernel)
theorem ty_X8_init : mj_YI yX8_init cX8_init 1 0 := ⟨⟨tw103, tw6, by decide +kernel, by decide +kernel, by decide +kernel⟩, tw102, rfl⟩
theorem tw216 : (Jvm.Cond.code ({ cls := "LeaseLand$Register", name := "<init>", desc := "()V" } : Jvm.MethodName) prog_11_method_1_code (1 : Nat) (Option.none : Option Jvm.ClassFile.FieldType)) ∈ mj_tbl := mj_w 222 (by decide +kernel) (by decide +kernel)
theorem tw215 : (Jvm.Cond.instanceMethod ({ cls := "LeaseLand$Register", name := "<init>", desc := "()V" } : Jvm.MethodName)) ∈ mj_tbl := mj_w 221 (by decide +kernel) (by decide +kernel)
theorem ty_X9_init : mj_YI yX9_init cX9_init 1 0 := ⟨⟨tw216, tw10, by decide +kernel, by decide +kernel, by decide +kernel⟩, tw215, rfl⟩
def rm_X11_init : Room := { frames := 3, cells := 23, slots := 275, locals := 60 }
theorem dX11_init_0 : decode cX11_init 0 = .ok (.aload_n 0, 1) := by decide +kernel
theorem dX11_init_1 : decode cX11_init 1 = .ok (.invokespecial 1, 3) := by decide +kernel
theorem dX11_init_4 : decode cX11_init 4 = .ok (.aload_n 0, 1) := by decide +kernel
theorem dX11_init_5 : decode cX11_init 5 = .ok (.new 7, 3) := by decide +kernel
theorem dX11_init_8 : decode cX11_init 8 = .ok (.dup, 1) := by decide +kernel
theorem dX11_init_9 : decode cX11_init 9 = .ok (.invokespecial 9, 3) := by decide +kernel
theorem dX11_init_12 : decode cX11_init 12 = .ok (.putfield 10, 3) := by decide +kernel
theorem dX11_init_15 : decode cX11_init 15 = .ok (.aload_n 0, 1) := by decide +kernel
theorem dX11_init_16 : decode cX11_init 16 = .ok (.new 16, 3) := by decide +kernel
theorem dX11_init_19 : decode cX11_init 19 = .ok (.dup, 1) := by decide +kernel
theorem dX11_init_20 : decode cX11_init 20 = .ok (.invokespecial 18, 3) := by decide +kernel
theorem dX11_init_23 : decode cX11_init 23 = .ok (.putfield 19, 3) := by decide +kernel
theorem dX11_init_26 : decode cX11_init 26 = .ok (.aload_n 0, 1) := by decide +kernel
theorem dX11_init_27 : decode cX11_init 27 = .ok (.new 23, 3) := by decide +kernel
theorem dX11_init_30 : decode cX11_init 30 = .ok (.dup, 1) := by decide +kernel
theorem dX11_init_31 : decode cX11_init 31 = .ok (.invokespecial 25, 3) := by decide +kernel
theorem dX11_init_34 : decode cX11_init 34 = .ok (.putfield 26, 3) := by decide +kernel
theorem dX11_init_37 : decode cX11_init 37 = .ok (.aload_n 0, 1) := by decide +kernel
theorem dX11_init_38 : decode cX11_init 38 = .ok (.new 30, 3) := by decide +kernel
theorem dX11_init_41 : decode cX11_init 41 = .ok (.dup, 1) := by decide +kernel
theorem dX11_init_42 : decode cX11_init 42 = .ok (.invokespecial 32, 3) := by decide +kernel
theorem dX11_init_45 : decode cX11_init 45 = .ok (.putfield 33, 3) := by decide +kernel
theorem dX11_init_48 : decode cX11_init 48 = .ok (.aload_n 0, 1) := by decide +kernel
theorem dX11_init_49 : decode cX11_init 49 = .ok (.new 37, 3) := by decide +kernel
theorem dX11_init_52 : decode cX11_init 52 = .ok (.dup, 1) := by decide +kernel
theorem dX11_init_53 : decode cX11_init 53 = .ok (.invokespecial 39, 3) := by decide +kernel
theorem dX11_init_56 : decode cX11_init 56 = .ok (.putfield 40, 3) := by decide +kernel
theorem dX11_init_59 : decode cX11_init 59 = .ok (.aload_n 0, 1) := by decide +kernel
theorem dX11_init_60 : decode cX11_init 60 = .ok (.new 44, 3) := by decide +kernel
theorem dX11_init_63 : decode cX11_init 63 = .ok (.dup, 1) := by decide +kernel
theorem dX11_init_64 : decode cX11_init 64 = .ok (.invokespecial 46, 3) := by decide +kernel
theorem dX11_init_67 : decode cX11_init 67 = .ok (.putfield 47, 3) := by decide +kernel
theorem dX11_init_70 : decode cX11_init 70 = .ok (.aload_n 0, 1) := by decide +kernel
theorem dX11_init_71 : decode cX11_init 71 = .ok (.new 51, 3) := by decide +kernel
theorem dX11_init_74 : decode cX11_init 74 = .ok (.dup, 1) := by decide +kernel
theorem dX11_init_75 : decode cX11_init 75 = .ok (.invokespecial 53, 3) := by decide +kernel
theorem dX11_init_78 : decode cX11_init 78 = .ok (.putfield 54, 3) := by decide +kernel
theorem dX11_init_81 : decode cX11_init 81 = .ok (.aload_n 0, 1) := by decide +kernel
theorem dX11_init_82 : decode cX11_init 82 = .ok (.bipush 10, 2) := by decide +kernel
theorem dX11_init_84 : decode cX11_init 84 = .ok (.newarray .int, 2) := by decide +kernel
theorem dX11_init_86 : decode cX11_init 86 = .ok (.putfield 58, 3) := by decide +kernel
theorem dX11_init_89 : decode cX11_init 89 = .ok (.return_, 1) := by decide +kernel
def vc_X11_init (l0 : Nat) (M : mj_M) (post : Unit → mj_M → Prop) : Prop := (¬ l0 = 0) ∧ ∀ M2 : mj_M, M2 = mj_new M 4 → (¬ (mj_nx M) = 0) ∧ vc_X4_init (mj_nx M) M2 (fun _ M5 => mj_tag M5 l0 = 12 ∧ ∀ M7 : mj_M, M7 = mj_new (mj_wr M5 l0 0 (mj_nx M)) 1 → (¬ (mj_nx M5) = 0) ∧ vc_X1_init (mj_nx M5) M7 (fun _ M10 => mj_tag M10 l0 = 12 ∧ ∀ M12 : mj_M, M12 = mj_new (mj_wr M10 l0 1 (mj_nx M5)) 8 → (¬ (mj_nx M10) = 0) ∧ vc_X8_init (mj_nx M10) M12 (fun _ M15 => mj_tag M15 l0 = 12 ∧ ∀ M17 : mj_M, M17 = mj_new (mj_wr M15 l0 2 (mj_nx M10)) 7 → (¬ (mj_nx M15) = 0) ∧ vc_X7_init (mj_nx M15) M17 (fun _ M20 => mj_tag M20 l0 = 12 ∧ ∀ M22 : mj_M, M22 = mj_new (mj_wr M20 l0 3 (mj_nx M15)) 5 → (¬ (mj_nx M20) = 0) ∧ vc_X5_init (mj_nx M20) M22 (fun _ M25 => mj_tag M25 l0 = 12 ∧ ∀ M27 : mj_M, M27 = mj_new (mj_wr M25 l0 4 (mj_nx M20)) 10 → (¬ (mj_nx M25) = 0) ∧ vc_X10_init (mj_nx M25) M27 (fun _ M30 => mj_tag M30 l0 = 12 ∧ ∀ M32 : mj_M, M32 = mj_new (mj_wr M30 l0 5 (mj_nx M25)) 9 → (¬ (mj_nx M30) = 0) ∧ vc_X9_init (mj_nx M30) M32 (fun _ M35 => mj_tag M35 l0 = 12 ∧ ∀ M37 : mj_M, M37 = mj_newa (mj_wr M35 l0 6 (mj_nx M30)) 101 10 → mj_tag M37 l0 = 12 ∧ post () (mj_wr M37 l0 7 (mj_nx M35)))))))))
set_option maxHeartbeats 4000000 in
set_option maxRecDepth 100000 in
theorem ct_X11_init {l : Launch} {base : Nat} {D : va_G} {A : mj_AT} (l0 : Nat) (M : mj_M) (post : Unit → mj_M → Prop) (h : vc_X11_init l0 M post) : mj_Met l base D A mj_jV yX11_init cX11_init 1 (none) rm_X11_init 23 275 [vR l0] M post := by
  refine mj_entry (by decide +kernel) (Nat.le_of_ble_eq_true rfl) (fun g hC hE h1 h2 h3 h4 => ?_)
  show mj_X g 0 [(0, vR l0)] [] M 0 0
  simp only [vc_X11_init] at h
  refine mx_aload_n (j := 0) hC dX11_init_0 rfl rfl ?_
  obtain ⟨hn1, h⟩ := h
  refine mx_oinit hC tw27 tw_oi tw_oc hn1 (Nat.le_of_ble_eq_true rfl) ⟨by decide, by decide⟩ dX11_init_1 ?_
  refine mx_aload_n (j := 0) hC dX11_init_4 rfl rfl ?_
  refine mx_new (k' := 1) (n' := 6) hC tk4 tw30 tw31 tw2 ⟨rfl, rfl, by decide, by decide⟩ dX11_init_5 ?_
  obtain ⟨M2, eM2⟩ : ∃ z : mj_M, z = mj_new M 4 := ⟨_, rfl⟩
  replace h := h M2 eM2
  have ht3 : mj_tag M2 (mj_nx M) = 5 := by rw [eM2]; exact mj_u1_at _
  refine mx_setM eM2.symm ?_
  refine mx_dup hC dX11_init_8 rfl ?_
  obtain ⟨hn4, h⟩ := h
  refine mx_callI (As := []) (st := [vR (mj_nx M), vR l0]) hC (ct_X4_init (mj_nx M) M2 _ h) ty_X4_init tw32 hn4 rfl (Nat.le_of_ble_eq_true rfl) ⟨rfl, rfl, ⟨by decide, by decide⟩, by decide, by decide⟩ dX11_init_9 (fun _ M5 h => ?_)
  show mj_X g 12 [(0, vR l0)] [vR (mj_nx M), vR l0] M5 3 28
  obtain ⟨ht6, h⟩ := h
  refine mx_put (v := vR (mj_nx M)) (M1 := mj_wr M5 l0 0 (mj_nx M)) hC tf_X11_10 ht6 (Or.inr ⟨rfl, rfl⟩) (mj_fitR (mj_nx M) _) (mj_off_wr _ _ _ _) mj_put_wr dX11_init_12 ?_
  refine mx_aload_n (j := 0) hC dX11_init_15 rfl rfl ?_
  refine mx_new (k' := 4) (n' := 33) hC tk1 tw60 tw61 tw4 ⟨rfl, rfl, by decide, by decide⟩ dX11_init_16 ?_
  obtain ⟨M7, eM7⟩ : ∃ z : mj_M, z = mj_new (mj_wr M5 l0 0 (mj_nx M)) 1 := ⟨_, rfl⟩
  replace h := h M7 eM7
  have ht8 : mj_tag M7 (mj_nx M5) = 2 := by rw [eM7]; exact mj_u1_at _
  refine mx_setM eM7.symm ?_
  refine mx_dup hC dX11_init_19 rfl ?_
  obtain ⟨hn9, h⟩ := h
  refine mx_callIN (As := []) (st := [vR (mj_nx M5), vR l0]) hC (ct_X1_init (mj_nx M5) M7 _ h) ty_X1_init tn62 hn9 rfl (Nat.le_of_ble_eq_true rfl) ⟨rfl, rfl, ⟨by decide, by decide⟩, by decide, by decide⟩ dX11_init_20 (fun _ M10 h => ?_)
  show mj_X g 23 [(0, vR l0)] [vR (mj_nx M5), vR l0] M10 6 84
  obtain ⟨ht11, h⟩ := h
  refine mx_put (v := vR (mj_nx M5)) (M1 := mj_wr M10 l0 1 (mj_nx M5)) hC tf_X11_19 ht11 (Or.inr ⟨rfl, rfl⟩) (mj_fitR (mj_nx M5) _) (mj_off_wr _ _ _ _) mj_put_wr dX11_init_23 ?_
  refine mx_aload_n (j := 0) hC dX11_init_26 rfl rfl ?_
  refine mx_new (k' := 7) (n' := 92) hC tk8 tw99 tw100 tw6 ⟨rfl, rfl, by decide, by decide⟩ dX11_init_27 ?_
  obtain ⟨M12, eM12⟩ : ∃ z : mj_M, z = mj_new (mj_wr M10 l0 1 (mj_nx M5)) 8 := ⟨_, rfl⟩
  replace h := h M12 eM12
  have ht13 : mj_tag M12 (mj_nx M10) = 9 := by rw [eM12]; exact mj_u1_at _
  refine mx_setM eM12.symm ?_
  refine mx_dup hC dX11_init_30 rfl ?_
  obtain ⟨hn14, h⟩ := h
  refine mx_callIN (As := []) (st := [vR (mj_nx M10), vR l0]) hC (ct_X8_init (mj_nx M10) M12 _ h) ty_X8_init tn101 hn14 rfl (Nat.le_of_ble_eq_true rfl) ⟨rfl, rfl, ⟨by decide, by decide⟩, by decide, by decide⟩ dX11_init_31 (fun _ M15 h => ?_)
  show mj_X g 34 [(0, vR l0)] [vR (mj_nx M10), vR l0] M15 7 92
  obtain ⟨ht16, h⟩ := h
  refine mx_put (v := vR (mj_nx M10)) (M1 := mj_wr M15 l0 2 (mj_nx M10)) hC tf_X11_26 ht16 (Or.inr ⟨rfl, rfl⟩) (mj_fitR (mj_nx M10) _) (mj_off_wr _ _ _ _) mj_put_wr dX11_init_34 ?_
  refine mx_aload_n (j := 0) hC dX11_init_37 rfl rfl ?_
  refine mx_new (k' := 8) (n' := 95) hC tk7 tw130 tw131 tw7 ⟨rfl, rfl, by decide, by decide⟩ dX11_init_38 ?_
  obtain ⟨M17, eM17⟩ : ∃ z : mj_M, z = mj_new (mj_wr M15 l0 2 (mj_nx M10)) 7 := ⟨_, rfl⟩
  replace h := h M17 eM17
  have ht18 : mj_tag M17 (mj_nx M15) = 8 := by rw [eM17]; exact mj_u1_at _
  refine mx_setM eM17.symm ?_
  refine mx_dup hC dX11_init_41 rfl ?_
  obtain ⟨hn19, h⟩ := h
  refine mx_callIN (As := []) (st := [vR (mj_nx M15), vR l0]) hC (ct_X7_init (mj_nx M15) M17 _ h) ty_X7_init tn132 hn19 rfl (Nat.le_of_ble_eq_true rfl) ⟨rfl, rfl, ⟨by decide, by decide⟩, by decide, by decide⟩ dX11_init_42 (fun _ M20 h => ?_)
  show mj_X g 45 [(0, vR l0)] [vR (mj_nx M15), vR l0] M20 8 95
  obtain ⟨ht21, h⟩ := h
  refine mx_put (v := vR (mj_nx M15)) (M1 := mj_wr M20 l0 3 (mj_nx M15)) hC tf_X11_33 ht21 (Or.inr ⟨rfl, rfl⟩) (mj_fitR (mj_nx M15) _) (mj_off_wr _ _ _ _) mj_put_wr dX11_init_45 ?_
  refine mx_aload_n (j := 0) hC dX11_init_48 rfl rfl ?_
  refine mx_new (k' := 9) (n' := 105) hC tk5 tw147 tw148 tw8 ⟨rfl, rfl, by decide, by decide⟩ dX11_init_49 ?_
  obtain ⟨M22, eM22⟩ : ∃ z : mj_M, z = mj_new (mj_wr M20 l0 3 (mj_nx M15)) 5 := ⟨_, rfl⟩
  replace h := h M22 eM22
  have ht23 : mj_tag M22 (mj_nx M20) = 6 := by rw [eM22]; exact mj_u1_at _
  refine mx_setM eM22.symm ?_
  refine mx_dup hC dX11_init_52 rfl ?_
  obtain ⟨hn24, h⟩ := h
  refine mx_callIN (As := []) (st := [vR (mj_nx M20), vR l0]) hC (ct_X5_init (mj_nx M20) M22 _ h) ty_X5_init tn149 hn24 rfl (Nat.le_of_ble_eq_true rfl) ⟨rfl, rfl, ⟨by decide, by decide⟩, by decide, by decide⟩ dX11_init_53 (fun _ M25 h => ?_)
  show mj_X g 56 [(0, vR l0)] [vR (mj_nx M20), vR l0] M25 12 137
  obtain ⟨ht26, h⟩ := h
  refine mx_put (v := vR (mj_nx M20)) (M1 := mj_wr M25 l0 4 (mj_nx M20)) hC tf_X11_40 ht26 (Or.inr ⟨rfl, rfl⟩) (mj_fitR (mj_nx M20) _) (mj_off_wr _ _ _ _) mj_put_wr dX11_init_56 ?_
  refine mx_aload_n (j := 0) hC dX11_init_59 rfl rfl ?_
  refine mx_new (k' := 13) (n' := 145) hC tk10 tw187 tw188 tw9 ⟨rfl, rfl, by decide, by decide⟩ dX11_init_60 ?_
  obtain ⟨M27, eM27⟩ : ∃ z : mj_M, z = mj_new (mj_wr M25 l0 4 (mj_nx M20)) 10 := ⟨_, rfl⟩
  replace h := h M27 eM27
  have ht28 : mj_tag M27 (mj_nx M25) = 11 := by rw [eM27]; exact mj_u1_at _
  refine mx_setM eM27.symm ?_
  refine mx_dup hC dX11_init_63 rfl ?_
  obtain ⟨hn29, h⟩ := h
  refine mx_callIN (As := []) (st := [vR (mj_nx M25), vR l0]) hC (ct_X10_init (mj_nx M25) M27 _ h) ty_X10_init tn189 hn29 rfl (Nat.le_of_ble_eq_true rfl) ⟨rfl, rfl, ⟨by decide, by decide⟩, by decide, by decide⟩ dX11_init_64 (fun _ M30 h => ?_)
  show mj_X g 67 [(0, vR l0)] [vR (mj_nx M25), vR l0] M30 15 185
  obtain ⟨ht31, h⟩ := h
  refine mx_put (v := vR (mj_nx M25)) (M1 := mj_wr M30 l0 5 (mj_nx M25)) hC tf_X11_47 ht31 (Or.inr ⟨rfl, rfl⟩) (mj_fitR (mj_nx M25) _) (mj_off_wr _ _ _ _) mj_put_wr dX11_init_67 ?_
  refine mx_aload_n (j := 0) hC dX11_init_70 rfl rfl ?_
  refine mx_new (k' := 16) (n' := 193) hC tk9 tw212 tw213 tw10 ⟨rfl, rfl, by decide, by decide⟩ dX11_init_71 ?_
  obtain ⟨M32, eM32⟩ : ∃ z : mj_M, z = mj_new (mj_wr M30 l0 5 (mj_nx M25)) 9 := ⟨_, rfl⟩
  replace h := h M32 eM32
  have ht33 : mj_tag M32 (mj_nx M30) = 10 := by rw [eM32]; exact mj_u1_at _
  refine mx_setM eM32.symm ?_
  refine mx_dup hC dX11_init_74 rfl ?_
  obtain ⟨hn34, h⟩ := h
  refine mx_callIN (As := []) (st := [vR (mj_nx M30), vR l0]) hC (ct_X9_init (mj_nx M30) M32 _ h) ty_X9_init tn214 hn34 rfl (Nat.le_of_ble_eq_true rfl) ⟨rfl, rfl, ⟨by decide, by decide⟩, by decide, by decide⟩ dX11_init_75 (fun _ M35 h => ?_)
  show mj_X g 78 [(0, vR l0)] [vR (mj_nx M30), vR l0] M35 22 265
  obtain ⟨ht36, h⟩ := h
  refine mx_put (v := vR (mj_nx M30)) (M1 := mj_wr M35 l0 6 (mj_nx M30)) hC tf_X11_54 ht36 (Or.inr ⟨rfl, rfl⟩) (mj_fitR (mj_nx M30) _) (mj_off_wr _ _ _ _) mj_put_wr dX11_init_78 ?_
  refine mx_aload_n (j := 0) hC dX11_init_81 rfl rfl ?_
  refine mx_bipush (v := 10) hC dX11_init_82 (by decide) ?_
  refine mx_newi (N := 10) (k' := 23) (n' := 275) hC tw59 (by decide) (by decide) (by decide) ⟨rfl, by decide, by decide, by decide⟩ dX11_init_84 ?_
  obtain ⟨M37, eM37⟩ : ∃ z : mj_M, z = mj_newa (mj_wr M35 l0 6 (mj_nx M30)) 101 10 := ⟨_, rfl⟩
  replace h := h M37 eM37
  have ht38 : mj_tag M37 (mj_nx M35) = 101 := by rw [eM37]; exact mj_u1_at _
  refine mx_setM eM37.symm ?_
  obtain ⟨ht39, h⟩ := h
  refine mx_put (v := vR (mj_nx M35)) (M1 := mj_wr M37 l0 7 (mj_nx M35)) hC tf_X11_58 ht39 (Or.inr ⟨rfl, rfl⟩) (mj_fitA (mj_nx M35) _) (mj_off_wr _ _ _ _) mj_put_wa dX11_init_86 ?_
  exact mx_vret hC hE rfl dX11_init_89 h
theorem tw274 : (Jvm.Cond.constant "LeaseLand" (85 : Nat) (73000 : Int32)) ∈ mj_tbl := mj_w 280 (by decide +kernel) (by decide +kernel)
def rm_X11_isDay : Room := { frames := 0, cells := 0, slots := 0, locals := 0 }
theorem dX11_isDay_0 : decode cX11_isDay 0 = .ok (.iload_n 0, 1) := by decide +kernel
theorem dX11_isDay_1 : decode cX11_isDay 1 = .ok (.ifCond .lt 13, 3) := by decide +kernel
theorem dX11_isDay_4 : decode cX11_isDay 4 = .ok (.iload_n 0, 1) := by decide +kernel
theorem dX11_isDay_5 : decode cX11_isDay 5 = .ok (.ldc 85, 2) := by decide +kernel
theorem dX11_isDay_7 : decode cX11_isDay 7 = .ok (.if_icmp .gt 7, 3) := by decide +kernel
theorem dX11_isDay_10 : decode cX11_isDay 10 = .ok (.iconst 1, 1) := by decide +kernel
theorem dX11_isDay_11 : decode cX11_isDay 11 = .ok (.goto 4, 3) := by decide +kernel
theorem dX11_isDay_14 : decode cX11_isDay 14 = .ok (.iconst 0, 1) := by decide +kernel
theorem dX11_isDay_15 : decode cX11_isDay 15 = .ok (.ireturn, 1) := by decide +kernel
def vc_X11_isDay (l0 : Int32) (M : mj_M) (post : Bool → mj_M → Prop) : Prop := if l0 < 0 then (post false M) else (if 73000 < l0 then (post false M) else (post true M))
set_option maxHeartbeats 4000000 in
set_option maxRecDepth 100000 in
theorem ct_X11_isDay {l : Launch} {base : Nat} {D : va_G} {A : mj_AT} (l0 : Int32) (M : mj_M) (post : Bool → mj_M → Prop) (h : vc_X11_isDay l0 M post) : mj_Met l base D A mj_jB yX11_isDay cX11_isDay 1 (some .boolean) rm_X11_isDay 0 0 [vI l0] M post := by
  refine mj_entry (by decide +kernel) (Nat.le_of_ble_eq_true rfl) (fun g hC hE h1 h2 h3 h4 => ?_)
  show mj_X g 0 [(0, vI l0)] [] M 0 0
  simp only [vc_X11_isDay] at h
  refine mx_iload_n (j := 0) hC dX11_isDay_0 rfl rfl ?_
  refine mx_iflt (tgt := 14) hC dX11_isDay_1 (by decide) (fun hc1 => ?_) (fun hc1 => ?_)
  · replace h := mj_yy hc1 h
    refine mx_iconst (v := 0) hC dX11_isDay_14 (by decide) ?_
    exact mx_zret (b := false) hC hE rfl dX11_isDay_15 h
  · replace h := mj_nn hc1 h
    refine mx_iload_n (j := 0) hC dX11_isDay_4 rfl rfl ?_
    refine mx_ldc (v := 73000) hC dX11_isDay_5 tw274 ?_
    refine mx_icmpgt (tgt := 14) hC dX11_isDay_7 (by decide) (fun hc2 => ?_) (fun hc2 => ?_)
    · replace h := mj_yy hc2 h
      refine mx_iconst (v := 0) hC dX11_isDay_14 (by decide) ?_
      exact mx_zret (b := false) hC hE rfl dX11_isDay_15 h
    · replace h := mj_nn hc2 h
      refine mx_iconst (v := 1) hC dX11_isDay_10 (by decide) ?_
      refine mx_goto (tgt := 15) hC dX11_isDay_11 (by decide) ?_
      exact mx_zret (b := true) hC hE rfl dX11_isDay_15 h
theorem tw39 : (Jvm.Cond.fieldLink "LeaseLand" (66 : Nat) "LeaseLand$Land" "today" "I") ∈ mj_tbl := mj_w 45 (by decide +kernel) (by decide +kernel)
theorem tf_X11_66 : mj_F 4 0 .int false "LeaseLand" 66 := ⟨_, tk4, by decide, rfl, rfl, rfl, tw39⟩
theorem tw271 : (Jvm.Cond.methodLink "LeaseLand" (62 : Nat) ({ cls := "LeaseLand", name := "isDay", desc := "(I)Z" } : Jvm.MethodName)) ∈ mj_tbl := mj_w 277 (by decide +kernel) (by decide +kernel)
theorem tw273 : (Jvm.Cond.code ({ cls := "LeaseLand", name := "isDay", desc := "(I)Z" } : Jvm.MethodName) prog_1_method_57_code (1 : Nat) (Option.some Jvm.ClassFile.FieldType.boolean)) ∈ mj_tbl := mj_w 279 (by decide +kernel) (by decide +kernel)
theorem tw272 : (Jvm.Cond.static ({ cls := "LeaseLand", name := "isDay", desc := "(I)Z" } : Jvm.MethodName)) ∈ mj_tbl := mj_w 278 (by decide +kernel) (by decide +kernel)
theorem ty_X11_isDay : mj_YS yX11_isDay cX11_isDay 1 (some .boolean) 1 := ⟨⟨tw273, tw1, by decide +kernel, by decide +kernel, by decide +kernel⟩, tw272⟩
def rm_X11_today : Room := { frames := 1, cells := 0, slots := 0, locals := 20 }
theorem dX11_today_0 : decode cX11_today 0 = .ok (.iload_n 1, 1) := by decide +kernel
theorem dX11_today_1 : decode cX11_today 1 = .ok (.invokestatic 62, 3) := by decide +kernel
theorem dX11_today_4 : decode cX11_today 4 = .ok (.ifCond .eq 14, 3) := by decide +kernel
theorem dX11_today_7 : decode cX11_today 7 = .ok (.iload_n 1, 1) := by decide +kernel
theorem dX11_today_8 : decode cX11_today 8 = .ok (.aload_n 0, 1) := by decide +kernel
theorem dX11_today_9 : decode cX11_today 9 = .ok (.getfield 10, 3) := by decide +kernel
theorem dX11_today_12 : decode cX11_today 12 = .ok (.getfield 66, 3) := by decide +kernel
theorem dX11_today_15 : decode cX11_today 15 = .ok (.if_icmp .ge 6, 3) := by decide +kernel
theorem dX11_today_18 : decode cX11_today 18 = .ok (.bipush (-2), 2) := by decide +kernel
theorem dX11_today_20 : decode cX11_today 20 = .ok (.ireturn, 1) := by decide +kernel
theorem dX11_today_21 : decode cX11_today 21 = .ok (.aload_n 0, 1) := by decide +kernel
theorem dX11_today_22 : decode cX11_today 22 = .ok (.getfield 10, 3) := by decide +kernel
theorem dX11_today_25 : decode cX11_today 25 = .ok (.getfield 66, 3) := by decide +kernel
theorem dX11_today_28 : decode cX11_today 28 = .ok (.istore_n 2, 1) := by decide +kernel
theorem dX11_today_29 : decode cX11_today 29 = .ok (.aload_n 0, 1) := by decide +kernel
theorem dX11_today_30 : decode cX11_today 30 = .ok (.getfield 10, 3) := by decide +kernel
theorem dX11_today_33 : decode cX11_today 33 = .ok (.iload_n 1, 1) := by decide +kernel
theorem dX11_today_34 : decode cX11_today 34 = .ok (.putfield 66, 3) := by decide +kernel
theorem dX11_today_37 : decode cX11_today 37 = .ok (.iload_n 2, 1) := by decide +kernel
theorem dX11_today_38 : decode cX11_today 38 = .ok (.ireturn, 1) := by decide +kernel
def vc_X11_today (l0 : Nat) (l1 : Int32) (M : mj_M) (post : Int32 → mj_M → Prop) : Prop := vc_X11_isDay l1 M (fun r1 M2 => if r1 = true then (mj_tag M2 l0 = 12 ∧ mj_tag M2 (mj_r M2 l0 0) = 5 ∧ if (mj_i M2 (mj_r M2 l0 0) 0) ≤ l1 then (post (mj_i M2 (mj_r M2 l0 0) 0) (mj_wi M2 (mj_r M2 l0 0) 0 l1)) else (post ((-2)) M2)) else (post ((-2)) M2))
set_option maxHeartbeats 4000000 in
set_option maxRecDepth 100000 in
theorem ct_X11_today {l : Launch} {base : Nat} {D : va_G} {A : mj_AT} (l0 : Nat) (l1 : Int32) (M : mj_M) (post : Int32 → mj_M → Prop) (h : vc_X11_today l0 l1 M post) : mj_Met l base D A mj_jI yX11_today cX11_today 3 (some .int) rm_X11_today 0 0 [vR l0, vI l1] M post := by
  refine mj_entry (by decide +kernel) (Nat.le_of_ble_eq_true rfl) (fun g hC hE h1 h2 h3 h4 => ?_)
  show mj_X g 0 [(0, vR l0), (1, vI l1)] [] M 0 0
  simp only [vc_X11_today] at h
  refine mx_iload_n (j := 1) hC dX11_today_0 rfl rfl ?_
  refine mx_callS (inj := mj_jB) (As := [vI l1]) (st := []) hC (ct_X11_isDay l1 M _ h) ty_X11_isDay tw271 rfl (Nat.le_of_ble_eq_true rfl) ⟨rfl, rfl, ⟨by decide, by decide⟩, by decide, by decide⟩ dX11_today_1 (fun r1 M2 h => ?_)
  show mj_X g 4 [(0, vR l0), (1, vI l1)] [vI (mj_b r1)] M2 0 0
  refine mx_ifeqB (tgt := 18) hC dX11_today_4 (by decide) (fun hc3 => ?_) (fun hc3 => ?_)
  · replace h := mj_nn hc3 h
    refine mx_bipush (v := (-2)) hC dX11_today_18 (by decide) ?_
    exact mx_iret hC hE rfl dX11_today_20 h
  · replace h := mj_yy hc3 h
    refine mx_iload_n (j := 1) hC dX11_today_7 rfl rfl ?_
    refine mx_aload_n (j := 0) hC dX11_today_8 rfl rfl ?_
    obtain ⟨ht4, h⟩ := h
    refine mx_get (v := vR (mj_r M2 l0 0)) hC tf_X11_10 ht4 rfl dX11_today_9 ?_
    obtain ⟨ht5, h⟩ := h
    refine mx_get (v := vI (mj_i M2 (mj_r M2 l0 0) 0)) hC tf_X11_66 ht5 rfl dX11_today_12 ?_
    refine mx_icmpge (tgt := 21) hC dX11_today_15 (by decide) (fun hc6 => ?_) (fun hc6 => ?_)
    · replace h := mj_yy hc6 h
      refine mx_aload_n (j := 0) hC dX11_today_21 rfl rfl ?_
      refine mx_get (v := vR (mj_r M2 l0 0)) hC tf_X11_10 ht4 rfl dX11_today_22 ?_
      refine mx_get (v := vI (mj_i M2 (mj_r M2 l0 0) 0)) hC tf_X11_66 ht5 rfl dX11_today_25 ?_
      refine mx_istore_n (L' := [(2, vI (mj_i M2 (mj_r M2 l0 0) 0)), (0, vR l0), (1, vI l1)]) hC dX11_today_28 rfl (by decide) rfl ?_
      refine mx_aload_n (j := 1) hC dX11_today_29 rfl rfl ?_
      refine mx_get (v := vR (mj_r M2 l0 0)) hC tf_X11_10 ht4 rfl dX11_today_30 ?_
      refine mx_iload_n (j := 2) hC dX11_today_33 rfl rfl ?_
      refine mx_put (v := vI l1) (M1 := mj_wi M2 (mj_r M2 l0 0) 0 l1) hC tf_X11_66 ht5 (Or.inl rfl) ⟨rfl, rfl⟩ (mj_off_wi _ _ _ _) mj_put_wi dX11_today_34 ?_
      refine mx_iload_n (j := 0) hC dX11_today_37 rfl rfl ?_
      exact mx_iret hC hE rfl dX11_today_38 h
    · replace h := mj_nn hc6 h
      refine mx_bipush (v := (-2)) hC dX11_today_18 (by decide) ?_
      exact mx_iret hC hE rfl dX11_today_20 h
def rm_X11_isPerson : Room := { frames := 0, cells := 0, slots := 0, locals := 0 }
theorem dX11_isPerson_0 : decode cX11_isPerson 0 = .ok (.iload_n 0, 1) := by decide +kernel
theorem dX11_isPerson_1 : decode cX11_isPerson 1 = .ok (.ifCond .lt 13, 3) := by decide +kernel
theorem dX11_isPerson_4 : decode cX11_isPerson 4 = .ok (.iload_n 0, 1) := by decide +kernel
theorem dX11_isPerson_5 : decode cX11_isPerson 5 = .ok (.bipush 10, 2) := by decide +kernel
theorem dX11_isPerson_7 : decode cX11_isPerson 7 = .ok (.if_icmp .ge 7, 3) := by decide +kernel
theorem dX11_isPerson_10 : decode cX11_isPerson 10 = .ok (.iconst 1, 1) := by decide +kernel
theorem dX11_isPerson_11 : decode cX11_isPerson 11 = .ok (.goto 4, 3) := by decide +kernel
theorem dX11_isPerson_14 : decode cX11_isPerson 14 = .ok (.iconst 0, 1) := by decide +kernel
theorem dX11_isPerson_15 : decode cX11_isPerson 15 = .ok (.ireturn, 1) := by decide +kernel
def vc_X11_isPerson (l0 : Int32) (M : mj_M) (post : Bool → mj_M → Prop) : Prop := if l0 < 0 then (post false M) else (if 10 ≤ l0 then (post false M) else (post true M))
set_option maxHeartbeats 4000000 in
set_option maxRecDepth 100000 in
theorem ct_X11_isPerson {l : Launch} {base : Nat} {D : va_G} {A : mj_AT} (l0 : Int32) (M : mj_M) (post : Bool → mj_M → Prop) (h : vc_X11_isPerson l0 M post) : mj_Met l base D A mj_jB yX11_isPerson cX11_isPerson 1 (some .boolean) rm_X11_isPerson 0 0 [vI l0] M post := by
  refine mj_entry (by decide +kernel) (Nat.le_of_ble_eq_true rfl) (fun g hC hE h1 h2 h3 h4 => ?_)
  show mj_X g 0 [(0, vI l0)] [] M 0 0
  simp only [vc_X11_isPerson] at h
  refine mx_iload_n (j := 0) hC dX11_isPerson_0 rfl rfl ?_
  refine mx_iflt (tgt := 14) hC dX11_isPerson_1 (by decide) (fun hc1 => ?_) (fun hc1 => ?_)
  · replace h := mj_yy hc1 h
    refine mx_iconst (v := 0) hC dX11_isPerson_14 (by decide) ?_
    exact mx_zret (b := false) hC hE rfl dX11_isPerson_15 h
  · replace h := mj_nn hc1 h
    refine mx_iload_n (j := 0) hC dX11_isPerson_4 rfl rfl ?_
    refine mx_bipush (v := 10) hC dX11_isPerson_5 (by decide) ?_
    refine mx_icmpge (tgt := 14) hC dX11_isPerson_7 (by decide) (fun hc2 => ?_) (fun hc2 => ?_)
    · replace h := mj_yy hc2 h
      refine mx_iconst (v := 0) hC dX11_isPerson_14 (by decide) ?_
      exact mx_zret (b := false) hC hE rfl dX11_isPerson_15 h
    · replace h := mj_nn hc2 h
      refine mx_iconst (v := 1) hC dX11_isPerson_10 (by decide) ?_
      refine mx_goto (tgt := 15) hC dX11_isPerson_11 (by decide) ?_
      exact mx_zret (b := true) hC hE rfl dX11_isPerson_15 h
def rm_X11_isFloors : Room := { frames := 0, cells := 0, slots := 0, locals := 0 }
theorem dX11_isFloors_0 : decode cX11_isFloors 0 = .ok (.iload_n 0, 1) := by decide +kernel
theorem dX11_isFloors_1 : decode cX11_isFloors 1 = .ok (.ifCond .le 14, 3) := by decide +kernel
theorem dX11_isFloors_4 : decode cX11_isFloors 4 = .ok (.iload_n 0, 1) := by decide +kernel
theorem dX11_isFloors_5 : decode cX11_isFloors 5 = .ok (.sipush 4096, 3) := by decide +kernel
theorem dX11_isFloors_8 : decode cX11_isFloors 8 = .ok (.if_icmp .ge 7, 3) := by decide +kernel
theorem dX11_isFloors_11 : decode cX11_isFloors 11 = .ok (.iconst 1, 1) := by decide +kernel
theorem dX11_isFloors_12 : decode cX11_isFloors 12 = .ok (.goto 4, 3) := by decide +kernel
theorem dX11_isFloors_15 : decode cX11_isFloors 15 = .ok (.iconst 0, 1) := by decide +kernel
theorem dX11_isFloors_16 : decode cX11_isFloors 16 = .ok (.ireturn, 1) := by decide +kernel
def vc_X11_isFloors (l0 : Int32) (M : mj_M) (post : Bool → mj_M → Prop) : Prop := if l0 ≤ 0 then (post false M) else (if 4096 ≤ l0 then (post false M) else (post true M))
set_option maxHeartbeats 4000000 in
set_option maxRecDepth 100000 in
theorem ct_X11_isFloors {l : Launch} {base : Nat} {D : va_G} {A : mj_AT} (l0 : Int32) (M : mj_M) (post : Bool → mj_M → Prop) (h : vc_X11_isFloors l0 M post) : mj_Met l base D A mj_jB yX11_isFloors cX11_isFloors 1 (some .boolean) rm_X11_isFloors 0 0 [vI l0] M post := by
  refine mj_entry (by decide +kernel) (Nat.le_of_ble_eq_true rfl) (fun g hC hE h1 h2 h3 h4 => ?_)
  show mj_X g 0 [(0, vI l0)] [] M 0 0
  simp only [vc_X11_isFloors] at h
  refine mx_iload_n (j := 0) hC dX11_isFloors_0 rfl rfl ?_
  refine mx_ifle (tgt := 15) hC dX11_isFloors_1 (by decide) (fun hc1 => ?_) (fun hc1 => ?_)
  · replace h := mj_yy hc1 h
    refine mx_iconst (v := 0) hC dX11_isFloors_15 (by decide) ?_
    exact mx_zret (b := false) hC hE rfl dX11_isFloors_16 h
  · replace h := mj_nn hc1 h
    refine mx_iload_n (j := 0) hC dX11_isFloors_4 rfl rfl ?_
    refine mx_sipush (v := 4096) hC dX11_isFloors_5 (by decide) ?_
    refine mx_icmpge (tgt := 15) hC dX11_isFloors_8 (by decide) (fun hc2 => ?_) (fun hc2 => ?_)
    · replace h := mj_yy hc2 h
      refine mx_iconst (v := 0) hC dX11_isFloors_15 (by decide) ?_
      exact mx_zret (b := false) hC hE rfl dX11_isFloors_16 h
    · replace h := mj_nn hc2 h
      refine mx_iconst (v := 1) hC dX11_isFloors_11 (by decide) ?_
      refine mx_goto (tgt := 16) hC dX11_isFloors_12 (by decide) ?_
      exact mx_zret (b := true) hC hE rfl dX11_isFloors_16 h
theorem tw279 : (Jvm.Cond.methodLink "LeaseLand" (70 : Nat) ({ cls := "LeaseLand", name := "isPerson", desc := "(I)Z" } : Jvm.MethodName)) ∈ mj_tbl := mj_w 285 (by decide +kernel) (by decide +kernel)
theorem tw282 : (Jvm.Cond.methodLink "LeaseLand" (73 : Nat) ({ cls := "LeaseLand", name := "isFloors", desc := "(I)Z" } : Jvm.MethodName)) ∈ mj_tbl := mj_w 288 (by decide +kernel) (by decide +kernel)
theorem tw285 : (Jvm.Cond.methodLink "LeaseLand" (76 : Nat) ({ cls := "LeaseLand$Land", name := "isFull", desc := "()Z" } : Jvm.MethodName)) ∈ mj_tbl := mj_w 291 (by decide +kernel) (by decide +kernel)
theorem tw289 : (Jvm.Cond.methodLink "LeaseLand" (80 : Nat) ({ cls := "LeaseLand$Land", name := "isOwned", desc := "(I)Z" } : Jvm.MethodName)) ∈ mj_tbl := mj_w 295 (by decide +kernel) (by decide +kernel)
theorem tw293 : (Jvm.Cond.classLink "LeaseLand" (83 : Nat) "LeaseLand$Holding") ∈ mj_tbl := mj_w 299 (by decide +kernel) (by decide +kernel)
theorem tw294 : (Jvm.Cond.instantiable "LeaseLand$Holding" (15 : Nat)) ∈ mj_tbl := mj_w 300 (by decide +kernel) (by decide +kernel)
theorem tw295 : (Jvm.Cond.methodLink "LeaseLand" (86 : Nat) ({ cls := "LeaseLand$Holding", name := "<init>", desc := "(LLeaseLand$Holding;IIIII)V" } : Jvm.MethodName)) ∈ mj_tbl := mj_w 301 (by decide +kernel) (by decide +kernel)
theorem tw369 : (Jvm.Cond.methodLink "LeaseLand" (89 : Nat) ({ cls := "LeaseLand$Land", name := "add", desc := "(LLeaseLand$Holding;)I" } : Jvm.MethodName)) ∈ mj_tbl := mj_w 375 (by decide +kernel) (by decide +kernel)
theorem tw284 : (Jvm.Cond.code ({ cls := "LeaseLand", name := "isFloors", desc := "(I)Z" } : Jvm.MethodName) prog_1_method_61_code (1 : Nat) (Option.some Jvm.ClassFile.FieldType.boolean)) ∈ mj_tbl := mj_w 290 (by decide +kernel) (by decide +kernel)
theorem tw283 : (Jvm.Cond.static ({ cls := "LeaseLand", name := "isFloors", desc := "(I)Z" } : Jvm.MethodName)) ∈ mj_tbl := mj_w 289 (by decide +kernel) (by decide +kernel)
theorem ty_X11_isFloors : mj_YS yX11_isFloors cX11_isFloors 1 (some .boolean) 1 := ⟨⟨tw284, tw1, by decide +kernel, by decide +kernel, by decide +kernel⟩, tw283⟩
theorem tw281 : (Jvm.Cond.code ({ cls := "LeaseLand", name := "isPerson", desc := "(I)Z" } : Jvm.MethodName) prog_1_method_62_code (1 : Nat) (Option.some Jvm.ClassFile.FieldType.boolean)) ∈ mj_tbl := mj_w 287 (by decide +kernel) (by decide +kernel)
theorem tw280 : (Jvm.Cond.static ({ cls := "LeaseLand", name := "isPerson", desc := "(I)Z" } : Jvm.MethodName)) ∈ mj_tbl := mj_w 286 (by decide +kernel) (by decide +kernel)
theorem ty_X11_isPerson : mj_YS yX11_isPerson cX11_isPerson 1 (some .boolean) 1 := ⟨⟨tw281, tw1, by decide +kernel, by decide +kernel, by decide +kernel⟩, tw280⟩
theorem tw297 : (Jvm.Cond.code ({ cls := "LeaseLand$Holding", name := "<init>", desc := "(LLeaseLand$Holding;IIIII)V" } : Jvm.MethodName) prog_5_method_1_code (7 : Nat) (Option.none : Option Jvm.ClassFile.FieldType)) ∈ mj_tbl := mj_w 303 (by decide +kernel) (by decide +kernel)
theorem tw296 : (Jvm.Cond.instanceMethod ({ cls := "LeaseLand$Holding", name := "<init>", desc := "(LLeaseLand$Holding;IIIII)V" } : Jvm.MethodName)) ∈ mj_tbl := mj_w 302 (by decide +kernel) (by decide +kernel)
theorem ty_X3_init : mj_YI yX3_init cX3_init 7 6 := ⟨⟨tw297, tw11, by decide +kernel, by decide +kernel, by decide +kernel⟩, tw296, rfl⟩
theorem tw372 : (Jvm.Cond.code ({ cls := "LeaseLand$Land", name := "add", desc := "(LLeaseLand$Holding;)I" } : Jvm.MethodName) prog_6_method_7_code (2 : Nat) (Option.some Jvm.ClassFile.FieldType.int)) ∈ mj_tbl := mj_w 378 (by decide +kernel) (by decide +kernel)
theorem tw370 : (Jvm.Cond.instanceMethod ({ cls := "LeaseLand$Land", name := "add", desc := "(LLeaseLand$Holding;)I" } : Jvm.MethodName)) ∈ mj_tbl := mj_w 376 (by decide +kernel) (by decide +kernel)
theorem tw371 : (Jvm.Cond.selects "LeaseLand$Land" ({ cls := "LeaseLand$Land", name := "add", desc := "(LLeaseLand$Holding;)I" } : Jvm.MethodName) ({ cls := "LeaseLand$Land", name := "add", desc := "(LLeaseLand$Holding;)I" } : Jvm.MethodName)) ∈ mj_tbl := mj_w 377 (by decide +kernel) (by decide +kernel)
theorem ty_X4_add : mj_YV 4 yX4_add cX4_add 2 (some .int) 1 := ⟨⟨tw372, tw2, by decide +kernel, by decide +kernel, by decide +kernel⟩, tw370, tw371, _, rfl, rfl⟩
theorem tw288 : (Jvm.Cond.code ({ cls := "LeaseLand$Land", name := "isFull", desc := "()Z" } : Jvm.MethodName) prog_6_method_2_code (1 : Nat) (Option.some Jvm.ClassFile.FieldType.boolean)) ∈ mj_tbl := mj_w 294 (by decide +kernel) (by decide +kernel)
theorem tw286 : (Jvm.Cond.instanceMethod ({ cls := "LeaseLand$Land", name := "isFull", desc := "()Z" } : Jvm.MethodName)) ∈ mj_tbl := mj_w 292 (by decide +kernel) (by decide +kernel)
theorem tw287 : (Jvm.Cond.selects "LeaseLand$Land" ({ cls := "LeaseLand$Land", name := "isFull", desc := "()Z" } : Jvm.MethodName) ({ cls := "LeaseLand$Land", name := "isFull", desc := "()Z" } : Jvm.MethodName)) ∈ mj_tbl := mj_w 293 (by decide +kernel) (by decide +kernel)
theorem ty_X4_isFull : mj_YV 4 yX4_isFull cX4_isFull 1 (some .boolean) 0 := ⟨⟨tw288, tw2, by decide +kernel, by decide +kernel, by decide +kernel⟩, tw286, tw287, _, rfl, rfl⟩
theorem tw292 : (Jvm.Cond.code ({ cls := "LeaseLand$Land", name := "isOwned", desc := "(I)Z" } : Jvm.MethodName) prog_6_method_8_code (3 : Nat) (Option.some Jvm.ClassFile.FieldType.boolean)) ∈ mj_tbl := mj_w 298 (by decide +kernel) (by decide +kernel)
theorem tw290 : (Jvm.Cond.instanceMethod ({ cls := "LeaseLand$Land", name := "isOwned", desc := "(I)Z" } : Jvm.MethodName)) ∈ mj_tbl := mj_w 296 (by decide +kernel) (by decide +kernel)
theorem tw291 : (Jvm.Cond.selects "LeaseLand$Land" ({ cls := "LeaseLand$Land", name := "isOwned", desc := "(I)Z" } : Jvm.MethodName) ({ cls := "LeaseLand$Land", name := "isOwned", desc := "(I)Z" } : Jvm.MethodName)) ∈ mj_tbl := mj_w 297 (by decide +kernel) (by decide +kernel)
theorem ty_X4_isOwned : mj_YV 4 yX4_isOwned cX4_isOwned 3 (some .boolean) 1 := ⟨⟨tw292, tw2, by decide +kernel, by decide +kernel, by decide +kernel⟩, tw290, tw291, _, rfl, rfl⟩
def rm_X11_whole : Room := { frames := 2, cells := 1, slots := 15, locals := 46 }
theorem dX11_whole_0 : decode cX11_whole 0 = .ok (.iload_n 2, 1) := by decide +kernel
theorem dX11_whole_1 : decode cX11_whole 1 = .ok (.invokestatic 70, 3) := by decide +kernel
theorem dX11_whole_4 : decode cX11_whole 4 = .ok (.ifCond .ne 5, 3) := by decide +kernel
theorem dX11_whole_7 : decode cX11_whole 7 = .ok (.iconst (-1), 1) := by decide +kernel
theorem dX11_whole_8 : decode cX11_whole 8 = .ok (.ireturn, 1) := by decide +kernel
theorem dX11_whole_9 : decode cX11_whole 9 = .ok (.iload_n 1, 1) := by decide +kernel
theorem dX11_whole_10 : decode cX11_whole 10 = .ok (.invokestatic 73, 3) := by decide +kernel
theorem dX11_whole_13 : decode cX11_whole 13 = .ok (.ifCond .ne 6, 3) := by decide +kernel
theorem dX11_whole_16 : decode cX11_whole 16 = .ok (.bipush (-2), 2) := by decide +kernel
theorem dX11_whole_18 : decode cX11_whole 18 = .ok (.ireturn, 1) := by decide +kernel
theorem dX11_whole_19 : decode cX11_whole 19 = .ok (.aload_n 0, 1) := by decide +kernel
theorem dX11_whole_20 : decode cX11_whole 20 = .ok (.getfield 10, 3) := by decide +kernel
theorem dX11_whole_23 : decode cX11_whole 23 = .ok (.invokevirtual 76, 3) := by decide +kernel
theorem dX11_whole_26 : decode cX11_whole 26 = .ok (.ifCond .eq 6, 3) := by decide +kernel
theorem dX11_whole_29 : decode cX11_whole 29 = .ok (.bipush (-4), 2) := by decide +kernel
theorem dX11_whole_31 : decode cX11_whole 31 = .ok (.ireturn, 1) := by decide +kernel
theorem dX11_whole_32 : decode cX11_whole 32 = .ok (.aload_n 0, 1) := by decide +kernel
theorem dX11_whole_33 : decode cX11_whole 33 = .ok (.getfield 10, 3) := by decide +kernel
theorem dX11_whole_36 : decode cX11_whole 36 = .ok (.iload_n 1, 1) := by decide +kernel
theorem dX11_whole_37 : decode cX11_whole 37 = .ok (.invokevirtual 80, 3) := by decide +kernel
theorem dX11_whole_40 : decode cX11_whole 40 = .ok (.ifCond .eq 6, 3) := by decide +kernel
theorem dX11_whole_43 : decode cX11_whole 43 = .ok (.bipush (-5), 2) := by decide +kernel
theorem dX11_whole_45 : decode cX11_whole 45 = .ok (.ireturn, 1) := by decide +kernel
theorem dX11_whole_46 : decode cX11_whole 46 = .ok (.aload_n 0, 1) := by decide +kernel
theorem dX11_whole_47 : decode cX11_whole 47 = .ok (.getfield 10, 3) := by decide +kernel
theorem dX11_whole_50 : decode cX11_whole 50 = .ok (.new 83, 3) := by decide +kernel
theorem dX11_whole_53 : decode cX11_whole 53 = .ok (.dup, 1) := by decide +kernel
theorem dX11_whole_54 : decode cX11_whole 54 = .ok (.aconst_null, 1) := by decide +kernel
theorem dX11_whole_55 : decode cX11_whole 55 = .ok (.iload_n 1, 1) := by decide +kernel
theorem dX11_whole_56 : decode cX11_whole 56 = .ok (.iconst 0, 1) := by decide +kernel
theorem dX11_whole_57 : decode cX11_whole 57 = .ok (.ldc 85, 2) := by decide +kernel
theorem dX11_whole_59 : decode cX11_whole 59 = .ok (.iload_n 2, 1) := by decide +kernel
theorem dX11_whole_60 : decode cX11_whole 60 = .ok (.aload_n 0, 1) := by decide +kernel
theorem dX11_whole_61 : decode cX11_whole 61 = .ok (.getfield 10, 3) := by decide +kernel
theorem dX11_whole_64 : decode cX11_whole 64 = .ok (.getfield 66, 3) := by decide +kernel
theorem dX11_whole_67 : decode cX11_whole 67 = .ok (.invokespecial 86, 3) := by decide +kernel
theorem dX11_whole_70 : decode cX11_whole 70 = .ok (.invokevirtual 89, 3) := by decide +kernel
theorem dX11_whole_73 : decode cX11_whole 73 = .ok (.ireturn, 1) := by decide +kernel
def vc_X11_whole (l0 : Nat) (l1 : Int32) (l2 : Int32) (M : mj_M) (post : Int32 → mj_M → Prop) : Prop := vc_X11_isPerson l2 M (fun r1 M2 => if r1 = true then (vc_X11_isFloors l1 M2 (fun r4 M5 => if r4 = true then (mj_tag M5 l0 = 12 ∧ mj_tag M5 (mj_r M5 l0 0) = 5 ∧ vc_X4_isFull (mj_r M5 l0 0) M5 (fun r9 M10 => if r9 = true then (post ((-4)) M10) else (mj_tag M10 l0 = 12 ∧ mj_tag M10 (mj_r M10 l0 0) = 5 ∧ vc_X4_isOwned (mj_r M10 l0 0) l1 M10 (fun r14 M15 => if r14 = true then (post ((-5)) M15) else (mj_tag M15 l0 = 12 ∧ ∀ M18 : mj_M, M18 = mj_new M15 3 → mj_tag M18 l0 = 12 ∧ mj_tag M18 (mj_r M18 l0 0) = 5 ∧ (¬ (mj_nx M15) = 0) ∧ vc_X3_init (mj_nx M15) 0 l1 0 73000 l2 (mj_i M18 (mj_r M18 l0 0) 0) M18 (fun _ M23 => mj_tag M23 (mj_r M15 l0 0) = 5 ∧ vc_X4_add (mj_r M15 l0 0) (mj_nx M15) M23 (fun r25 M26 => post r25 M26))))))) else (post ((-2)) M5))) else (post ((-1)) M2))
set_option maxHeartbeats 4000000 in
set_option maxRecDepth 100000 in
theorem ct_X11_whole {l : Launch} {base : Nat} {D : va_G} {A : mj_AT} (l0 : Nat) (l1 : Int32) (l2 : Int32) (M : mj_M) (post : Int32 → mj_M → Prop) (h : vc_X11_whole l0 l1 l2 M post) : mj_Met l base D A mj_jI yX11_whole cX11_whole 3 (some .int) rm_X11_whole 1 15 [vR l0, vI l1, vI l2] M post := by
  refine mj_entry (by decide +kernel) (Nat.le_of_ble_eq_true rfl) (fun g hC hE h1 h2 h3 h4 => ?_)
  show mj_X g 0 [(0, vR l0), (1, vI l1), (2, vI l2)] [] M 0 0
  simp only [vc_X11_whole] at h
  refine mx_iload_n (j := 2) hC dX11_whole_0 rfl rfl ?_
  refine mx_callS (inj := mj_jB) (As := [vI l2]) (st := []) hC (ct_X11_isPerson l2 M _ h) ty_X11_isPerson tw279 rfl (Nat.le_of_ble_eq_true rfl) ⟨rfl, rfl, ⟨by decide, by decide⟩, by decide, by decide⟩ dX11_whole_1 (fun r1 M2 h => ?_)
  show mj_X g 4 [(0, vR l0), (1, vI l1), (2, vI l2)] [vI (mj_b r1)] M2 0 0
  refine mx_ifneB (tgt := 9) hC dX11_whole_4 (by decide) (fun hc3 => ?_) (fun hc3 => ?_)
  · replace h := mj_yy hc3 h
    refine mx_iload_n (j := 1) hC dX11_whole_9 rfl rfl ?_
    refine mx_callS (inj := mj_jB) (As := [vI l1]) (st := []) hC (ct_X11_isFloors l1 M2 _ h) ty_X11_isFloors tw282 rfl (Nat.le_of_ble_eq_true rfl) ⟨rfl, rfl, ⟨by decide, by decide⟩, by decide, by decide⟩ dX11_whole_10 (fun r4 M5 h => ?_)
    show mj_X g 13 [(0, vR l0), (1, vI l1), (2, vI l2)] [vI (mj_b r4)] M5 0 0
    refine mx_ifneB (tgt := 19) hC dX11_whole_13 (by decide) (fun hc6 => ?_) (fun hc6 => ?_)
    · replace h := mj_yy hc6 h
      refine mx_aload_n (j := 0) hC dX11_whole_19 rfl rfl ?_
      obtain ⟨ht7, h⟩ := h
      refine mx_get (v := vR (mj_r M5 l0 0)) hC tf_X11_10 ht7 rfl dX11_whole_20 ?_
      obtain ⟨ht8, h⟩ := h
      refine mx_callV (inj := mj_jB) (As := []) (st := []) hC (ct_X4_isFull (mj_r M5 l0 0) M5 _ h) ty_X4_isFull tw285 ht8 rfl (Nat.le_of_ble_eq_true rfl) ⟨rfl, rfl, ⟨by decide, by decide⟩, by decide, by decide⟩ dX11_whole_23 (fun r9 M10 h => ?_)
      show mj_X g 26 [(0, vR l0), (1, vI l1), (2, vI l2)] [vI (mj_b r9)] M10 0 0
      refine mx_ifeqB (tgt := 32) hC dX11_whole_26 (by decide) (fun hc11 => ?_) (fun hc11 => ?_)
      · replace h := mj_nn hc11 h
        refine mx_aload_n (j := 0) hC dX11_whole_32 rfl rfl ?_
        obtain ⟨ht12, h⟩ := h
        refine mx_get (v := vR (mj_r M10 l0 0)) hC tf_X11_10 ht12 rfl dX11_whole_33 ?_
        refine mx_iload_n (j := 1) hC dX11_whole_36 rfl rfl ?_
        obtain ⟨ht13, h⟩ := h
        refine mx_callV (inj := mj_jB) (As := [vI l1]) (st := []) hC (ct_X4_isOwned (mj_r M10 l0 0) l1 M10 _ h) ty_X4_isOwned tw289 ht13 rfl (Nat.le_of_ble_eq_true rfl) ⟨rfl, rfl, ⟨by decide, by decide⟩, by decide, by decide⟩ dX11_whole_37 (fun r14 M15 h => ?_)
        show mj_X g 40 [(0, vR l0), (1, vI l1), (2, vI l2)] [vI (mj_b r14)] M15 0 0
        refine mx_ifeqB (tgt := 46) hC dX11_whole_40 (by decide) (fun hc16 => ?_) (fun hc16 => ?_)
        · replace h := mj_nn hc16 h
          refine mx_aload_n (j := 0) hC dX11_whole_46 rfl rfl ?_
          obtain ⟨ht17, h⟩ := h
          refine mx_get (v := vR (mj_r M15 l0 0)) hC tf_X11_10 ht17 rfl dX11_whole_47 ?_
          refine mx_new (k' := 1) (n' := 15) hC tk3 tw293 tw294 tw11 ⟨rfl, rfl, by decide, by decide⟩ dX11_whole_50 ?_
          obtain ⟨M18, eM18⟩ : ∃ z : mj_M, z = mj_new M15 3 := ⟨_, rfl⟩
          replace h := h M18 eM18
          have ht19 : mj_tag M18 (mj_nx M15) = 4 := by rw [eM18]; exact mj_u1_at _
          refine mx_setM eM18.symm ?_
          refine mx_dup hC dX11_whole_53 rfl ?_
          refine mx_null hC dX11_whole_54 ?_
          refine mx_iload_n (j := 1) hC dX11_whole_55 rfl rfl ?_
          refine mx_iconst (v := 0) hC dX11_whole_56 (by decide) ?_
          refine mx_ldc (v := 73000) hC dX11_whole_57 tw274 ?_
          refine mx_iload_n (j := 2) hC dX11_whole_59 rfl rfl ?_
          refine mx_aload_n (j := 0) hC dX11_whole_60 rfl rfl ?_
          obtain ⟨ht20, h⟩ := h
          refine mx_get (v := vR (mj_r M18 l0 0)) hC tf_X11_10 ht20 rfl dX11_whole_61 ?_
          obtain ⟨ht21, h⟩ := h
          refine mx_get (v := vI (mj_i M18 (mj_r M18 l0 0) 0)) hC tf_X11_66 ht21 rfl dX11_whole_64 ?_
          obtain ⟨hn22, h⟩ := h
          refine mx_callI (As := [vR 0, vI l1, vI 0, vI 73000, vI l2, vI (mj_i M18 (mj_r M18 l0 0) 0)]) (st := [vR (mj_nx M15), vR (mj_r M15 l0 0)]) hC (ct_X3_init (mj_nx M15) 0 l1 0 73000 l2 (mj_i M18 (mj_r M18 l0 0) 0) M18 _ h) ty_X3_init tw295 hn22 rfl (Nat.le_of_ble_eq_true rfl) ⟨rfl, rfl, ⟨by decide, by decide⟩, by decide, by decide⟩ dX11_whole_67 (fun _ M23 h => ?_)
          show mj_X g 70 [(0, vR l0), (1, vI l1), (2, vI l2)] [vR (mj_nx M15), vR (mj_r M15 l0 0)] M23 1 15
          obtain ⟨ht24, h⟩ := h
          refine mx_callV (inj := mj_jI) (As := [vR (mj_nx M15)]) (st := []) hC (ct_X4_add (mj_r M15 l0 0) (mj_nx M15) M23 _ h) ty_X4_add tw369 ht24 rfl (Nat.le_of_ble_eq_true rfl) ⟨rfl, rfl, ⟨by decide, by decide⟩, by decide, by decide⟩ dX11_whole_70 (fun r25 M26 h => ?_)
          show mj_X g 73 [(0, vR l0), (1, vI l1), (2, vI l2)] [vI r25] M26 1 15
          exact mx_iret hC hE rfl dX11_whole_73 h
        · replace h := mj_yy hc16 h
          refine mx_bipush (v := (-5)) hC dX11_whole_43 (by decide) ?_
          refine mx_widen (k' := 1) (n' := 15) (by decide) (by decide) ?_
          exact mx_iret hC hE rfl dX11_whole_45 h
      · replace h := mj_yy hc11 h
        refine mx_bipush (v := (-4)) hC dX11_whole_29 (by decide) ?_
        refine mx_widen (k' := 1) (n' := 15) (by decide) (by decide) ?_
        exact mx_iret hC hE rfl dX11_whole_31 h
    · replace h := mj_nn hc6 h
      refine mx_bipush (v := (-2)) hC dX11_whole_16 (by decide) ?_
      refine mx_widen (k' := 1) (n' := 15) (by decide) (by decide) ?_
      exact mx_iret hC hE rfl dX11_whole_18 h
  · replace h := mj_nn hc3 h
    refine mx_iconst (v := (-1)) hC dX11_whole_7 (by decide) ?_
    refine mx_widen (k' := 1) (n' := 15) (by decide) (by decide) ?_
    exact mx_iret hC hE rfl dX11_whole_8 h
def rm_X11_refusalOfGrant : Room := { frames := 1, cells := 0, slots := 0, locals := 20 }
theorem dX11_refusalOfGrant_0 : decode cX11_refusalOfGrant 0 = .ok (.aload_n 1, 1) := by decide +kernel
theorem dX11_refusalOfGrant_1 : decode cX11_refusalOfGrant 1 = .ok (.ifnull 11, 3) := by decide +kernel
theorem dX11_refusalOfGrant_4 : decode cX11_refusalOfGrant 4 = .ok (.iload 5, 2) := by decide +kernel
theorem dX11_refusalOfGrant_6 : decode cX11_refusalOfGrant 6 = .ok (.invokestatic 70, 3) := by decide +kernel
theorem dX11_refusalOfGrant_9 : decode cX11_refusalOfGrant 9 = .ok (.ifCond .ne 5, 3) := by decide +kernel
theorem dX11_refusalOfGrant_12 : decode cX11_refusalOfGrant 12 = .ok (.iconst (-1), 1) := by decide +kernel
theorem dX11_refusalOfGrant_13 : decode cX11_refusalOfGrant 13 = .ok (.ireturn, 1) := by decide +kernel
theorem dX11_refusalOfGrant_14 : decode cX11_refusalOfGrant 14 = .ok (.iload_n 2, 1) := by decide +kernel
theorem dX11_refusalOfGrant_15 : decode cX11_refusalOfGrant 15 = .ok (.invokestatic 73, 3) := by decide +kernel
theorem dX11_refusalOfGrant_18 : decode cX11_refusalOfGrant 18 = .ok (.ifCond .eq 27, 3) := by decide +kernel
theorem dX11_refusalOfGrant_21 : decode cX11_refusalOfGrant 21 = .ok (.iload_n 3, 1) := by decide +kernel
theorem dX11_refusalOfGrant_22 : decode cX11_refusalOfGrant 22 = .ok (.aload_n 0, 1) := by decide +kernel
theorem dX11_refusalOfGrant_23 : decode cX11_refusalOfGrant 23 = .ok (.getfield 10, 3) := by decide +kernel
theorem dX11_refusalOfGrant_26 : decode cX11_refusalOfGrant 26 = .ok (.getfield 66, 3) := by decide +kernel
theorem dX11_refusalOfGrant_29 : decode cX11_refusalOfGrant 29 = .ok (.if_icmp .lt 16, 3) := by decide +kernel
theorem dX11_refusalOfGrant_32 : decode cX11_refusalOfGrant 32 = .ok (.iload_n 3, 1) := by decide +kernel
theorem dX11_refusalOfGrant_33 : decode cX11_refusalOfGrant 33 = .ok (.iload 4, 2) := by decide +kernel
theorem dX11_refusalOfGrant_35 : decode cX11_refusalOfGrant 35 = .ok (.if_icmp .ge 10, 3) := by decide +kernel
theorem dX11_refusalOfGrant_38 : decode cX11_refusalOfGrant 38 = .ok (.iload 4, 2) := by decide +kernel
theorem dX11_refusalOfGrant_40 : decode cX11_refusalOfGrant 40 = .ok (.ldc 85, 2) := by decide +kernel
theorem dX11_refusalOfGrant_42 : decode cX11_refusalOfGrant 42 = .ok (.if_icmp .le 6, 3) := by decide +kernel
theorem dX11_refusalOfGrant_45 : decode cX11_refusalOfGrant 45 = .ok (.bipush (-2), 2) := by decide +kernel
theorem dX11_refusalOfGrant_47 : decode cX11_refusalOfGrant 47 = .ok (.ireturn, 1) := by decide +kernel
theorem dX11_refusalOfGrant_48 : decode cX11_refusalOfGrant 48 = .ok (.aload_n 0, 1) := by decide +kernel
theorem dX11_refusalOfGrant_49 : decode cX11_refusalOfGrant 49 = .ok (.getfield 10, 3) := by decide +kernel
theorem dX11_refusalOfGrant_52 : decode cX11_refusalOfGrant 52 = .ok (.invokevirtual 76, 3) := by decide +kernel
theorem dX11_refusalOfGrant_55 : decode cX11_refusalOfGrant 55 = .ok (.ifCond .eq 8, 3) := by decide +kernel
theorem dX11_refusalOfGrant_58 : decode cX11_refusalOfGrant 58 = .ok (.bipush (-4), 2) := by decide +kernel
theorem dX11_refusalOfGrant_60 : decode cX11_refusalOfGrant 60 = .ok (.goto 4, 3) := by decide +kernel
theorem dX11_refusalOfGrant_63 : decode cX11_refusalOfGrant 63 = .ok (.iconst 0, 1) := by decide +kernel
theorem dX11_refusalOfGrant_64 : decode cX11_refusalOfGrant 64 = .ok (.ireturn, 1) := by decide +kernel
def vc_X11_refusalOfGrant (l0 : Nat) (l1 : Nat) (l2 : Int32) (l3 : Int32) (l4 : Int32) (l5 : Int32) (M : mj_M) (post : Int32 → mj_M → Prop) : Prop := if l1 = 0 then (post ((-1)) M) else (vc_X11_isPerson l5 M (fun r2 M3 => if r2 = true then (vc_X11_isFloors l2 M3 (fun r5 M6 => if r5 = true then (mj_tag M6 l0 = 12 ∧ mj_tag M6 (mj_r M6 l0 0) = 5 ∧ if l3 < (mj_i M6 (mj_r M6 l0 0) 0) then (post ((-2)) M6) else (if l4 ≤ l3 then (post ((-2)) M6) else (if l4 ≤ 73000 then (vc_X4_isFull (mj_r M6 l0 0) M6 (fun r13 M14 => if r13 = true then (post ((-4)) M14) else (post 0 M14))) else (post ((-2)) M6)))) else (post ((-2)) M6))) else (post ((-1)) M3)))
set_option maxHeartbeats 4000000 in
set_option maxRecDepth 100000 in
theorem ct_X11_refusalOfGrant {l : Launch} {base : Nat} {D : va_G} {A : mj_AT} (l0 : Nat) (l1 : Nat) (l2 : Int32) (l3 : Int32) (l4 : Int32) (l5 : Int32) (M : mj_M) (post : Int32 → mj_M → Prop) (h : vc_X11_refusalOfGrant l0 l1 l2 l3 l4 l5 M post) : mj_Met l base D A mj_jI yX11_refusalOfGrant cX11_refusalOfGrant 6 (some .int) rm_X11_refusalOfGrant 0 0 [vR l0, vR l1, vI l2, vI l3, vI l4, vI l5] M post := by
  refine mj_entry (by decide +kernel) (Nat.le_of_ble_eq_true rfl) (fun g hC hE h1 h2 h3 h4 => ?_)
  show mj_X g 0 [(0, vR l0), (1, vR l1), (2, vI l2), (3, vI l3), (4, vI l4), (5, vI l5)] [] M 0 0
  simp only [vc_X11_refusalOfGrant] at h
  refine mx_aload_n (j := 1) hC dX11_refusalOfGrant_0 rfl rfl ?_
  refine mx_ifnull (tgt := 12) hC dX11_refusalOfGrant_1 (by decide) (fun hc1 => ?_) (fun hc1 => ?_)
  · replace h := mj_yy hc1 h
    refine mx_iconst (v := (-1)) hC dX11_refusalOfGrant_12 (by decide) ?_
    exact mx_iret hC hE rfl dX11_refusalOfGrant_13 h
  · replace h := mj_nn hc1 h
    refine mx_iload (j := 5) hC dX11_refusalOfGrant_4 rfl ?_
    refine mx_callS (inj := mj_jB) (As := [vI l5]) (st := []) hC (ct_X11_isPerson l5 M _ h) ty_X11_isPerson tw279 rfl (Nat.le_of_ble_eq_true rfl) ⟨rfl, rfl, ⟨by decide, by decide⟩, by decide, by decide⟩ dX11_refusalOfGrant_6 (fun r2 M3 h => ?_)
    show mj_X g 9 [(0, vR l0), (1, vR l1), (2, vI l2), (3, vI l3), (4, vI l4), (5, vI l5)] [vI (mj_b r2)] M3 0 0
    refine mx_ifneB (tgt := 14) hC dX11_refusalOfGrant_9 (by decide) (fun hc4 => ?_) (fun hc4 => ?_)
    · replace h := mj_yy hc4 h
      refine mx_iload_n (j := 2) hC dX11_refusalOfGrant_14 rfl rfl ?_
      refine mx_callS (inj := mj_jB) (As := [vI l2]) (st := []) hC (ct_X11_isFloors l2 M3 _ h) ty_X11_isFloors tw282 rfl (Nat.le_of_ble_eq_true rfl) ⟨rfl, rfl, ⟨by decide, by decide⟩, by decide, by decide⟩ dX11_refusalOfGrant_15 (fun r5 M6 h => ?_)
      show mj_X g 18 [(0, vR l0), (1, vR l1), (2, vI l2), (3, vI l3), (4, vI l4), (5, vI l5)] [vI (mj_b r5)] M6 0 0
      refine mx_ifeqB (tgt := 45) hC dX11_refusalOfGrant_18 (by decide) (fun hc7 => ?_) (fun hc7 => ?_)
      · replace h := mj_nn hc7 h
        refine mx_bipush (v := (-2)) hC dX11_refusalOfGrant_45 (by decide) ?_
        exact mx_iret hC hE rfl dX11_refusalOfGrant_47 h
      · replace h := mj_yy hc7 h
        refine mx_iload_n (j := 3) hC dX11_refusalOfGrant_21 rfl rfl ?_
        refine mx_aload_n (j := 0) hC dX11_refusalOfGrant_22 rfl rfl ?_
        obtain ⟨ht8, h⟩ := h
        refine mx_get (v := vR (mj_r M6 l0 0)) hC tf_X11_10 ht8 rfl dX11_refusalOfGrant_23 ?_
        obtain ⟨ht9, h⟩ := h
        refine mx_get (v := vI (mj_i M6 (mj_r M6 l0 0) 0)) hC tf_X11_66 ht9 rfl dX11_refusalOfGrant_26 ?_
        refine mx_icmplt (tgt := 45) hC dX11_refusalOfGrant_29 (by decide) (fun hc10 => ?_) (fun hc10 => ?_)
        · replace h := mj_yy hc10 h
          refine mx_bipush (v := (-2)) hC dX11_refusalOfGrant_45 (by decide) ?_
          exact mx_iret hC hE rfl dX11_refusalOfGrant_47 h
        · replace h := mj_nn hc10 h
          refine mx_iload_n (j := 3) hC dX11_refusalOfGrant_32 rfl rfl ?_
          refine mx_iload (j := 4) hC dX11_refusalOfGrant_33 rfl ?_
          refine mx_icmpge (tgt := 45) hC dX11_refusalOfGrant_35 (by decide) (fun hc11 => ?_) (fun hc11 => ?_)
          · replace h := mj_yy hc11 h
            refine mx_bipush (v := (-2)) hC dX11_refusalOfGrant_45 (by decide) ?_
            exact mx_iret hC hE rfl dX11_refusalOfGrant_47 h
          · replace h := mj_nn hc11 h
            refine mx_iload (j := 4) hC dX11_refusalOfGrant_38 rfl ?_
            refine mx_ldc (v := 73000) hC dX11_refusalOfGrant_40 tw274 ?_
            refine mx_icmple (tgt := 48) hC dX11_refusalOfGrant_42 (by decide) (fun hc12 => ?_) (fun hc12 => ?_)
            · replace h := mj_yy hc12 h
              refine mx_aload_n (j := 0) hC dX11_refusalOfGrant_48 rfl rfl ?_
              refine mx_get (v := vR (mj_r M6 l0 0)) hC tf_X11_10 ht8 rfl dX11_refusalOfGrant_49 ?_
              refine mx_callV (inj := mj_jB) (As := []) (st := []) hC (ct_X4_isFull (mj_r M6 l0 0) M6 _ h) ty_X4_isFull tw285 ht9 rfl (Nat.le_of_ble_eq_true rfl) ⟨rfl, rfl, ⟨by decide, by decide⟩, by decide, by decide⟩ dX11_refusalOfGrant_52 (fun r13 M14 h => ?_)
              show mj_X g 55 [(0, vR l0), (1, vR l1), (2, vI l2), (3, vI l3), (4, vI l4), (5, vI l5)] [vI (mj_b r13)] M14 0 0
              refine mx_ifeqB (tgt := 63) hC dX11_refusalOfGrant_55 (by decide) (fun hc15 => ?_) (fun hc15 => ?_)
              · replace h := mj_nn hc15 h
                refine mx_iconst (v := 0) hC dX11_refusalOfGrant_63 (by decide) ?_
                exact mx_iret hC hE rfl dX11_refusalOfGrant_64 h
              · replace h := mj_yy hc15 h
                refine mx_bipush (v := (-4)) hC dX11_refusalOfGrant_58 (by decide) ?_
                refine mx_goto (tgt := 64) hC dX11_refusalOfGrant_60 (by decide) ?_
                exact mx_iret hC hE rfl dX11_refusalOfGrant_64 h
            · replace h := mj_nn hc12 h
              refine mx_bipush (v := (-2)) hC dX11_refusalOfGrant_45 (by decide) ?_
              exact mx_iret hC hE rfl dX11_refusalOfGrant_47 h
    · replace h := mj_nn hc4 h
      refine mx_iconst (v := (-1)) hC dX11_refusalOfGrant_12 (by decide) ?_
      exact mx_iret hC hE rfl dX11_refusalOfGrant_13 h
theorem tw377 : (Jvm.Cond.methodLink "LeaseLand" (93 : Nat) ({ cls := "LeaseLand$Land", name := "find", desc := "(I)LLeaseLand$Holding;" } : Jvm.MethodName)) ∈ mj_tbl := mj_w 383 (by decide +kernel) (by decide +kernel)
theorem tw381 : (Jvm.Cond.methodLink "LeaseLand" (97 : Nat) ({ cls := "LeaseLand", name := "refusalOfGrant", desc := "(LLeaseLand$Holding;IIII)I" } : Jvm.MethodName)) ∈ mj_tbl := mj_w 387 (by decide +kernel) (by decide +kernel)
theorem tw385 : (Jvm.Cond.methodLink "LeaseLand" (101 : Nat) ({ cls := "LeaseLand$Land", name := "canGrant", desc := "(LLeaseLand$Holding;III)Z" } : Jvm.MethodName)) ∈ mj_tbl := mj_w 391 (by decide +kernel) (by decide +kernel)
theorem tw384 : (Jvm.Cond.code ({ cls := "LeaseLand", name := "refusalOfGrant", desc := "(LLeaseLand$Holding;IIII)I" } : Jvm.MethodName) prog_1_method_6_code (6 : Nat) (Option.some Jvm.ClassFile.FieldType.int)) ∈ mj_tbl := mj_w 390 (by decide +kernel) (by decide +kernel)
theorem tw383 : (Jvm.Cond.instanceMethod ({ cls := "LeaseLand", name := "refusalOfGrant", desc := "(LLeaseLand$Holding;IIII)I" } : Jvm.MethodName)) ∈ mj_tbl := mj_w 389 (by decide +kernel) (by decide +kernel)
theorem ty_X11_refusalOfGrant : mj_YV 11 yX11_refusalOfGrant cX11_refusalOfGrant 6 (some .int) 5 := ⟨⟨tw384, tw1, by decide +kernel, by decide +kernel, by decide +kernel⟩, tw383, mj_w 0 (by decide +kernel) (by decide +kernel), _, rfl, rfl⟩
theorem tw388 : (Jvm.Cond.code ({ cls := "LeaseLand$Land", name := "canGrant", desc := "(LLeaseLand$Holding;III)Z" } : Jvm.MethodName) prog_6_method_11_code (5 : Nat) (Option.some Jvm.ClassFile.FieldType.boolean)) ∈ mj_tbl := mj_w 394 (by decide +kernel) (by decide +kernel)
theorem tw386 : (Jvm.Cond.instanceMethod ({ cls := "LeaseLand$Land", name := "canGrant", desc := "(LLeaseLand$Holding;III)Z" } : Jvm.MethodName)) ∈ mj_tbl := mj_w 392 (by decide +kernel) (by decide +kernel)
theorem tw387 : (Jvm.Cond.selects "LeaseLand$Land" ({ cls := "LeaseLand$Land", name := "canGrant", desc := "(LLeaseLand$Holding;III)Z" } : Jvm.MethodName) ({ cls := "LeaseLand$Land", name := "canGrant", desc := "(LLeaseLand$Holding;III)Z" } : Jvm.MethodName)) ∈ mj_tbl := mj_w 393 (by decide +kernel) (by decide +kernel)
theorem ty_X4_canGrant : mj_YV 4 yX4_canGrant cX4_canGrant 5 (some .boolean) 4 := ⟨⟨tw388, tw2, by decide +kernel, by decide +kernel, by decide +kernel⟩, tw386, tw387, _, rfl, rfl⟩
def rm_X11_lease : Room := { frames := 4, cells := 1, slots := 15, locals := 94 }
theorem dX11_lease_0 : decode cX11_lease 0 = .ok (.aload_n 0, 1) := by decide +kernel
theorem dX11_lease_1 : decode cX11_lease 1 = .ok (.getfield 10, 3) := by decide +kernel
theorem dX11_lease_4 : decode cX11_lease 4 = .ok (.iload_n 1, 1) := by decide +kernel
theorem dX11_lease_5 : decode cX11_lease 5 = .ok (.invokevirtual 93, 3) := by decide +kernel
theorem dX11_lease_8 : decode cX11_lease 8 = .ok (.astore 6, 2) := by decide +kernel
theorem dX11_lease_10 : decode cX11_lease 10 = .ok (.aload_n 0, 1) := by decide +kernel
theorem dX11_lease_11 : decode cX11_lease 11 = .ok (.aload 6, 2) := by decide +kernel
theorem dX11_lease_13 : decode cX11_lease 13 = .ok (.iload_n 2, 1) := by decide +kernel
theorem dX11_lease_14 : decode cX11_lease 14 = .ok (.iload_n 3, 1) := by decide +kernel
theorem dX11_lease_15 : decode cX11_lease 15 = .ok (.iload 4, 2) := by decide +kernel
theorem dX11_lease_17 : decode cX11_lease 17 = .ok (.iload 5, 2) := by decide +kernel
theorem dX11_lease_19 : decode cX11_lease 19 = .ok (.invokevirtual 97, 3) := by decide +kernel
theorem dX11_lease_22 : decode cX11_lease 22 = .ok (.istore 7, 2) := by decide +kernel
theorem dX11_lease_24 : decode cX11_lease 24 = .ok (.iload 7, 2) := by decide +kernel
theorem dX11_lease_26 : decode cX11_lease 26 = .ok (.ifCond .eq 6, 3) := by decide +kernel
theorem dX11_lease_29 : decode cX11_lease 29 = .ok (.iload 7, 2) := by decide +kernel
theorem dX11_lease_31 : decode cX11_lease 31 = .ok (.ireturn, 1) := by decide +kernel
theorem dX11_lease_32 : decode cX11_lease 32 = .ok (.aload_n 0, 1) := by decide +kernel
theorem dX11_lease_33 : decode cX11_lease 33 = .ok (.getfield 10, 3) := by decide +kernel
theorem dX11_lease_36 : decode cX11_lease 36 = .ok (.aload 6, 2) := by decide +kernel
theorem dX11_lease_38 : decode cX11_lease 38 = .ok (.iload_n 2, 1) := by decide +kernel
theorem dX11_lease_39 : decode cX11_lease 39 = .ok (.iload_n 3, 1) := by decide +kernel
theorem dX11_lease_40 : decode cX11_lease 40 = .ok (.iload 4, 2) := by decide +kernel
theorem dX11_lease_42 : decode cX11_lease 42 = .ok (.invokevirtual 101, 3) := by decide +kernel
theorem dX11_lease_45 : decode cX11_lease 45 = .ok (.ifCond .ne 6, 3) := by decide +kernel
theorem dX11_lease_48 : decode cX11_lease 48 = .ok (.bipush (-5), 2) := by decide +kernel
theorem dX11_lease_50 : decode cX11_lease 50 = .ok (.ireturn, 1) := by decide +kernel
theorem dX11_lease_51 : decode cX11_lease 51 = .ok (.aload_n 0, 1) := by decide +kernel
theorem dX11_lease_52 : decode cX11_lease 52 = .ok (.getfield 10, 3) := by decide +kernel
theorem dX11_lease_55 : decode cX11_lease 55 = .ok (.new 83, 3) := by decide +kernel
theorem dX11_lease_58 : decode cX11_lease 58 = .ok (.dup, 1) := by decide +kernel
theorem dX11_lease_59 : decode cX11_lease 59 = .ok (.aload 6, 2) := by decide +kernel
theorem dX11_lease_61 : decode cX11_lease 61 = .ok (.iload_n 2, 1) := by decide +kernel
theorem dX11_lease_62 : decode cX11_lease 62 = .ok (.iload_n 3, 1) := by decide +kernel
theorem dX11_lease_63 : decode cX11_lease 63 = .ok (.iload 4, 2) := by decide +kernel
theorem dX11_lease_65 : decode cX11_lease 65 = .ok (.iload 5, 2) := by decide +kernel
theorem dX11_lease_67 : decode cX11_lease 67 = .ok (.iload_n 3, 1) := by decide +kernel
theorem dX11_lease_68 : decode cX11_lease 68 = .ok (.invokespecial 86, 3) := by decide +kernel
theorem dX11_lease_71 : decode cX11_lease 71 = .ok (.invokevirtual 89, 3) := by decide +kernel
theorem dX11_lease_74 : decode cX11_lease 74 = .ok (.ireturn, 1) := by decide +kernel
def vc_X11_lease (l0 : Nat) (l1 : Int32) (l2 : Int32) (l3 : Int32) (l4 : Int32) (l5 : Int32) (M : mj_M) (post : Int32 → mj_M → Prop) : Prop := mj_tag M l0 = 12 ∧ mj_tag M (mj_r M l0 0) = 5 ∧ vc_X4_find (mj_r M l0 0) l1 M (fun r3 M4 => mj_tag M4 l0 = 12 ∧ vc_X11_refusalOfGrant l0 r3 l2 l3 l4 l5 M4 (fun r6 M7 => if r6 = 0 then (mj_tag M7 l0 = 12 ∧ mj_tag M7 (mj_r M7 l0 0) = 5 ∧ vc_X4_canGrant (mj_r M7 l0 0) r3 l2 l3 l4 M7 (fun r11 M12 => if r11 = true then (mj_tag M12 l0 = 12 ∧ ∀ M15 : mj_M, M15 = mj_new M12 3 → (¬ (mj_nx M12) = 0) ∧ vc_X3_init (mj_nx M12) r3 l2 l3 l4 l5 l3 M15 (fun _ M18 => mj_tag M18 (mj_r M12 l0 0) = 5 ∧ vc_X4_add (mj_r M12 l0 0) (mj_nx M12) M18 (fun r20 M21 => post r20 M21))) else (post ((-5)) M12))) else (post r6 M7)))
set_option maxHeartbeats 4000000 in
set_option maxRecDepth 100000 in
theorem ct_X11_lease {l : Launch} {base : Nat} {D : va_G} {A : mj_AT} (l0 : Nat) (l1 : Int32) (l2 : Int32) (l3 : Int32) (l4 : Int32) (l5 : Int32) (M : mj_M) (post : Int32 → mj_M → Prop) (h : vc_X11_lease l0 l1 l2 l3 l4 l5 M post) : mj_Met l base D A mj_jI yX11_lease cX11_lease 8 (some .int) rm_X11_lease 1 15 [vR l0, vI l1, vI l2, vI l3, vI l4, vI l5] M post := by
  refine mj_entry (by decide +kernel) (Nat.le_of_ble_eq_true rfl) (fun g hC hE h1 h2 h3 h4 => ?_)
  show mj_X g 0 [(0, vR l0), (1, vI l1), (2, vI l2), (3, vI l3), (4, vI l4), (5, vI l5)] [] M 0 0
  simp only [vc_X11_lease] at h
  refine mx_aload_n (j := 0) hC dX11_lease_0 rfl rfl ?_
  obtain ⟨ht1, h⟩ := h
  refine mx_get (v := vR (mj_r M l0 0)) hC tf_X11_10 ht1 rfl dX11_lease_1 ?_
  refine mx_iload_n (j := 1) hC dX11_lease_4 rfl rfl ?_
  obtain ⟨ht2, h⟩ := h
  refine mx_callV (inj := mj_jR) (As := [vI l1]) (st := []) hC (ct_X4_find (mj_r M l0 0) l1 M _ h) ty_X4_find tw377 ht2 rfl (Nat.le_of_ble_eq_true rfl) ⟨rfl, rfl, ⟨by decide, by decide⟩, by decide, by decide⟩ dX11_lease_5 (fun r3 M4 h => ?_)
  show mj_X g 8 [(0, vR l0), (1, vI l1), (2, vI l2), (3, vI l3), (4, vI l4), (5, vI l5)] [vR r3] M4 0 0
  refine mx_astore (L' := [(6, vR r3), (0, vR l0), (1, vI l1), (2, vI l2), (3, vI l3), (4, vI l4), (5, vI l5)]) hC dX11_lease_8 (by decide) rfl ?_
  refine mx_aload_n (j := 1) hC dX11_lease_10 rfl rfl ?_
  refine mx_aload (j := 0) hC dX11_lease_11 rfl ?_
  refine mx_iload_n (j := 3) hC dX11_lease_13 rfl rfl ?_
  refine mx_iload_n (j := 4) hC dX11_lease_14 rfl rfl ?_
  refine mx_iload (j := 5) hC dX11_lease_15 rfl ?_
  refine mx_iload (j := 6) hC dX11_lease_17 rfl ?_
  obtain ⟨ht5, h⟩ := h
  refine mx_callV (inj := mj_jI) (As := [vR r3, vI l2, vI l3, vI l4, vI l5]) (st := []) hC (ct_X11_refusalOfGrant l0 r3 l2 l3 l4 l5 M4 _ h) ty_X11_refusalOfGrant tw381 ht5 rfl (Nat.le_of_ble_eq_true rfl) ⟨rfl, rfl, ⟨by decide, by decide⟩, by decide, by decide⟩ dX11_lease_19 (fun r6 M7 h => ?_)
  show mj_X g 22 [(6, vR r3), (0, vR l0), (1, vI l1), (2, vI l2), (3, vI l3), (4, vI l4), (5, vI l5)] [vI r6] M7 0 0
  refine mx_istore (L' := [(7, vI r6), (6, vR r3), (0, vR l0), (1, vI l1), (2, vI l2), (3, vI l3), (4, vI l4), (5, vI l5)]) hC dX11_lease_22 (by decide) rfl ?_
  refine mx_iload (j := 0) hC dX11_lease_24 rfl ?_
  refine mx_ifeq (tgt := 32) hC dX11_lease_26 (by decide) (fun hc8 => ?_) (fun hc8 => ?_)
  · replace h := mj_yy hc8 h
    refine mx_aload_n (j := 2) hC dX11_lease_32 rfl rfl ?_
    obtain ⟨ht9, h⟩ := h
    refine mx_get (v := vR (mj_r M7 l0 0)) hC tf_X11_10 ht9 rfl dX11_lease_33 ?_
    refine mx_aload (j := 1) hC dX11_lease_36 rfl ?_
    refine mx_iload_n (j := 4) hC dX11_lease_38 rfl rfl ?_
    refine mx_iload_n (j := 5) hC dX11_lease_39 rfl rfl ?_
    refine mx_iload (j := 6) hC dX11_lease_40 rfl ?_
    obtain ⟨ht10, h⟩ := h
    refine mx_callV (inj := mj_jB) (As := [vR r3, vI l2, vI l3, vI l4]) (st := []) hC (ct_X4_canGrant (mj_r M7 l0 0) r3 l2 l3 l4 M7 _ h) ty_X4_canGrant tw385 ht10 rfl (Nat.le_of_ble_eq_true rfl) ⟨rfl, rfl, ⟨by decide, by decide⟩, by decide, by decide⟩ dX11_lease_42 (fun r11 M12 h => ?_)
    show mj_X g 45 [(7, vI r6), (6, vR r3), (0, vR l0), (1, vI l1), (2, vI l2), (3, vI l3), (4, vI l4), (5, vI l5)] [vI (mj_b r11)] M12 0 0
    refine mx_ifneB (tgt := 51) hC dX11_lease_45 (by decide) (fun hc13 => ?_) (fun hc13 => ?_)
    · replace h := mj_yy hc13 h
      refine mx_aload_n (j := 2) hC dX11_lease_51 rfl rfl ?_
      obtain ⟨ht14, h⟩ := h
      refine mx_get (v := vR (mj_r M12 l0 0)) hC tf_X11_10 ht14 rfl dX11_lease_52 ?_
      refine mx_new (k' := 1) (n' := 15) hC tk3 tw293 tw294 tw11 ⟨rfl, rfl, by decide, by decide⟩ dX11_lease_55 ?_
      obtain ⟨M15, eM15⟩ : ∃ z : mj_M, z = mj_new M12 3 := ⟨_, rfl⟩
      replace h := h M15 eM15
      have ht16 : mj_tag M15 (mj_nx M12) = 4 := by rw [eM15]; exact mj_u1_at _
      refine mx_setM eM15.symm ?_
      refine mx_dup hC dX11_lease_58 rfl ?_
      refine mx_aload (j := 1) hC dX11_lease_59 rfl ?_
      refine mx_iload_n (j := 4) hC dX11_lease_61 rfl rfl ?_
      refine mx_iload_n (j := 5) hC dX11_lease_62 rfl rfl ?_
      refine mx_iload (j := 6) hC dX11_lease_63 rfl ?_
      refine mx_iload (j := 7) hC dX11_lease_65 rfl ?_
      refine mx_iload_n (j := 5) hC dX11_lease_67 rfl rfl ?_
      obtain ⟨hn17, h⟩ := h
      refine mx_callI (As := [vR r3, vI l2, vI l3, vI l4, vI l5, vI l3]) (st := [vR (mj_nx M12), vR (mj_r M12 l0 0)]) hC (ct_X3_init (mj_nx M12) r3 l2 l3 l4 l5 l3 M15 _ h) ty_X3_init tw295 hn17 rfl (Nat.le_of_ble_eq_true rfl) ⟨rfl, rfl, ⟨by decide, by decide⟩, by decide, by decide⟩ dX11_lease_68 (fun _ M18 h => ?_)
      show mj_X g 71 [(7, vI r6), (6, vR r3), (0, vR l0), (1, vI l1), (2, vI l2), (3, vI l3), (4, vI l4), (5, vI l5)] [vR (mj_nx M12), vR (mj_r M12 l0 0)] M18 1 15
      obtain ⟨ht19, h⟩ := h
      refine mx_callV (inj := mj_jI) (As := [vR (mj_nx M12)]) (st := []) hC (ct_X4_add (mj_r M12 l0 0) (mj_nx M12) M18 _ h) ty_X4_add tw369 ht19 rfl (Nat.le_of_ble_eq_true rfl) ⟨rfl, rfl, ⟨by decide, by decide⟩, by decide, by decide⟩ dX11_lease_71 (fun r20 M21 h => ?_)
      show mj_X g 74 [(7, vI r6), (6, vR r3), (0, vR l0), (1, vI l1), (2, vI l2), (3, vI l3), (4, vI l4), (5, vI l5)] [vI r20] M21 1 15
      exact mx_iret hC hE rfl dX11_lease_74 h
    · replace h := mj_nn hc13 h
      refine mx_bipush (v := (-5)) hC dX11_lease_48 (by decide) ?_
      refine mx_widen (k' := 1) (n' := 15) (by decide) (by decide) ?_
      exact mx_iret hC hE rfl dX11_lease_50 h
  · replace h := mj_nn hc8 h
    refine mx_iload (j := 0) hC dX11_lease_29 rfl ?_
    refine mx_widen (k' := 1) (n' := 15) (by decide) (by decide) ?_
    exact mx_iret hC hE rfl dX11_lease_31 h
theorem tw323 : (Jvm.Cond.fieldLink "LeaseLand" (115 : Nat) "LeaseLand$Holding" "person" "I") ∈ mj_tbl := mj_w 329 (by decide +kernel) (by decide +kernel)
theorem tf_X11_115 : mj_F 3 8 .int false "LeaseLand" 115 := ⟨_, tk3, by decide, rfl, rfl, rfl, tw323⟩
theorem tw326 : (Jvm.Cond.fieldLink "LeaseLand" (118 : Nat) "LeaseLand$Holding" "since" "I") ∈ mj_tbl := mj_w 332 (by decide +kernel) (by decide +kernel)
theorem tf_X11_118 : mj_F 3 9 .int false "LeaseLand" 118 := ⟨_, tk3, by decide, rfl, rfl, rfl, tw326⟩
theorem tw305 : (Jvm.Cond.fieldLink "LeaseLand" (132 : Nat) "LeaseLand$Holding" "out" "LLeaseLand$Holding;") ∈ mj_tbl := mj_w 311 (by decide +kernel) (by decide +kernel)
theorem tf_X11_132 : mj_F 3 2 (.object "LeaseLand$Holding") false "LeaseLand" 132 := ⟨_, tk3, by decide, rfl, rfl, rfl, tw305⟩
theorem tw300 : (Jvm.Cond.fieldLink "LeaseLand" (144 : Nat) "LeaseLand$Holding" "number" "I") ∈ mj_tbl := mj_w 306 (by decide +kernel) (by decide +kernel)
theorem tf_X11_144 : mj_F 3 0 .int false "LeaseLand" 144 := ⟨_, tk3, by decide, rfl, rfl, rfl, tw300⟩
theorem tw309 : (Jvm.Cond.fieldLink "LeaseLand" (147 : Nat) "LeaseLand$Holding" "floors" "I") ∈ mj_tbl := mj_w 315 (by decide +kernel) (by decide +kernel)
theorem tf_X11_147 : mj_F 3 3 .int false "LeaseLand" 147 := ⟨_, tk3, by decide, rfl, rfl, rfl, tw309⟩
theorem tw311 : (Jvm.Cond.fieldLink "LeaseLand" (150 : Nat) "LeaseLand$Holding" "from" "I") ∈ mj_tbl := mj_w 317 (by decide +kernel) (by decide +kernel)
theorem tf_X11_150 : mj_F 3 4 .int true "LeaseLand" 150 := ⟨_, tk3, by decide, rfl, rfl, rfl, tw311⟩
theorem tw314 : (Jvm.Cond.fieldLink "LeaseLand" (153 : Nat) "LeaseLand$Holding" "to" "I") ∈ mj_tbl := mj_w 320 (by decide +kernel) (by decide +kernel)
theorem tf_X11_153 : mj_F 3 5 .int false "LeaseLand" 153 := ⟨_, tk3, by decide, rfl, rfl, rfl, tw314⟩
theorem tw317 : (Jvm.Cond.fieldLink "LeaseLand" (160 : Nat) "LeaseLand$Holding" "way" "I") ∈ mj_tbl := mj_w 323 (by decide +kernel) (by decide +kernel)
theorem tf_X11_160 : mj_F 3 6 .int false "LeaseLand" 160 := ⟨_, tk3, by decide, rfl, rfl, rfl, tw317⟩
theorem tw329 : (Jvm.Cond.fieldLink "LeaseLand" (163 : Nat) "LeaseLand$Holding" "amount" "I") ∈ mj_tbl := mj_w 335 (by decide +kernel) (by decide +kernel)
theorem tf_X11_163 : mj_F 3 10 .int false "LeaseLand" 163 := ⟨_, tk3, by decide, rfl, rfl, rfl, tw329⟩
theorem tw332 : (Jvm.Cond.fieldLink "LeaseLand" (166 : Nat) "LeaseLand$Holding" "doubles" "I") ∈ mj_tbl := mj_w 338 (by decide +kernel) (by decide +kernel)
theorem tf_X11_166 : mj_F 3 11 .int false "LeaseLand" 166 := ⟨_, tk3, by decide, rfl, rfl, rfl, tw332⟩
theorem tw334 : (Jvm.Cond.fieldLink "LeaseLand" (169 : Nat) "LeaseLand$Holding" "breach" "I") ∈ mj_tbl := mj_w 340 (by decide +kernel) (by decide +kernel)
theorem tf_X11_169 : mj_F 3 12 .int false "LeaseLand" 169 := ⟨_, tk3, by decide, rfl, rfl, rfl, tw334⟩
theorem tw419 : (Jvm.Cond.methodLink "LeaseLand" (156 : Nat) ({ cls := "LeaseLand$Holding", name := "until", desc := "()I" } : Jvm.MethodName)) ∈ mj_tbl := mj_w 425 (by decide +kernel) (by decide +kernel)
theorem tw420 : (Jvm.Cond.methodLink "LeaseLand" (172 : Nat) ({ cls := "LeaseLand$Land", name := "countOutOf", desc := "(LLeaseLand$Holding;)I" } : Jvm.MethodName)) ∈ mj_tbl := mj_w 426 (by decide +kernel) (by decide +kernel)
theorem tw423 : (Jvm.Cond.code ({ cls := "LeaseLand$Land", name := "countOutOf", desc := "(LLeaseLand$Holding;)I" } : Jvm.MethodName) prog_6_method_29_code (4 : Nat) (Option.some Jvm.ClassFile.FieldType.int)) ∈ mj_tbl := mj_w 429 (by decide +kernel) (by decide +kernel)
theorem tw421 : (Jvm.Cond.instanceMethod ({ cls := "LeaseLand$Land", name := "countOutOf", desc := "(LLeaseLand$Holding;)I" } : Jvm.MethodName)) ∈ mj_tbl := mj_w 427 (by decide +kernel) (by decide +kernel)
theorem tw422 : (Jvm.Cond.selects "LeaseLand$Land" ({ cls := "LeaseLand$Land", name := "countOutOf", desc := "(LLeaseLand$Holding;)I" } : Jvm.MethodName) ({ cls := "LeaseLand$Land", name := "countOutOf", desc := "(LLeaseLand$Holding;)I" } : Jvm.MethodName)) ∈ mj_tbl := mj_w 428 (by decide +kernel) (by decide +kernel)
theorem ty_X4_countOutOf : mj_YV 4 yX4_countOutOf cX4_countOutOf 4 (some .int) 1 := ⟨⟨tw423, tw2, by decide +kernel, by decide +kernel, by decide +kernel⟩, tw421, tw422, _, rfl, rfl⟩
def rm_X11_about : Room := { frames := 1, cells := 0, slots := 0, locals := 23 }
theorem dX11_about_0 : decode cX11_about 0 = .ok (.aload_n 0, 1) := by decide +kernel
theorem dX11_about_1 : decode cX11_about 1 = .ok (.getfield 10, 3) := by decide +kernel
theorem dX11_about_4 : decode cX11_about 4 = .ok (.iload_n 1, 1) := by decide +kernel
theorem dX11_about_5 : decode cX11_about 5 = .ok (.invokevirtual 93, 3) := by decide +kernel
theorem dX11_about_8 : decode cX11_about 8 = .ok (.astore_n 3, 1) := by decide +kernel
theorem dX11_about_9 : decode cX11_about 9 = .ok (.aload_n 3, 1) := by decide +kernel
theorem dX11_about_10 : decode cX11_about 10 = .ok (.ifnonnull 5, 3) := by decide +kernel
theorem dX11_about_13 : decode cX11_about 13 = .ok (.iconst (-1), 1) := by decide +kernel
theorem dX11_about_14 : decode cX11_about 14 = .ok (.ireturn, 1) := by decide +kernel
theorem dX11_about_15 : decode cX11_about 15 = .ok (.iload_n 2, 1) := by decide +kernel
theorem dX11_about_16 : decode cX11_about 16 = .ok (.tableswitch 142 0 11 #[64, 83, 88, 93, 98, 103, 108, 113, 118, 123, 128, 133], 64) := by decide +kernel
theorem dX11_about_80 : decode cX11_about 80 = .ok (.aload_n 3, 1) := by decide +kernel
theorem dX11_about_81 : decode cX11_about 81 = .ok (.getfield 132, 3) := by decide +kernel
theorem dX11_about_84 : decode cX11_about 84 = .ok (.ifnonnull 7, 3) := by decide +kernel
theorem dX11_about_87 : decode cX11_about 87 = .ok (.iconst (-1), 1) := by decide +kernel
theorem dX11_about_88 : decode cX11_about 88 = .ok (.goto 10, 3) := by decide +kernel
theorem dX11_about_91 : decode cX11_about 91 = .ok (.aload_n 3, 1) := by decide +kernel
theorem dX11_about_92 : decode cX11_about 92 = .ok (.getfield 132, 3) := by decide +kernel
theorem dX11_about_95 : decode cX11_about 95 = .ok (.getfield 144, 3) := by decide +kernel
theorem dX11_about_98 : decode cX11_about 98 = .ok (.ireturn, 1) := by decide +kernel
theorem dX11_about_99 : decode cX11_about 99 = .ok (.aload_n 3, 1) := by decide +kernel
theorem dX11_about_100 : decode cX11_about 100 = .ok (.getfield 147, 3) := by decide +kernel
theorem dX11_about_103 : decode cX11_about 103 = .ok (.ireturn, 1) := by decide +kernel
theorem dX11_about_104 : decode cX11_about 104 = .ok (.aload_n 3, 1) := by decide +kernel
theorem dX11_about_105 : decode cX11_about 105 = .ok (.getfield 150, 3) := by decide +kernel
theorem dX11_about_108 : decode cX11_about 108 = .ok (.ireturn, 1) := by decide +kernel
theorem dX11_about_109 : decode cX11_about 109 = .ok (.aload_n 3, 1) := by decide +kernel
theorem dX11_about_110 : decode cX11_about 110 = .ok (.getfield 153, 3) := by decide +kernel
theorem dX11_about_113 : decode cX11_about 113 = .ok (.ireturn, 1) := by decide +kernel
theorem dX11_about_114 : decode cX11_about 114 = .ok (.aload_n 3, 1) := by decide +kernel
theorem dX11_about_115 : decode cX11_about 115 = .ok (.invokevirtual 156, 3) := by decide +kernel
theorem dX11_about_118 : decode cX11_about 118 = .ok (.ireturn, 1) := by decide +kernel
theorem dX11_about_119 : decode cX11_about 119 = .ok (.aload_n 3, 1) := by decide +kernel
theorem dX11_about_120 : decode cX11_about 120 = .ok (.getfield 160, 3) := by decide +kernel
theorem dX11_about_123 : decode cX11_about 123 = .ok (.ireturn, 1) := by decide +kernel
theorem dX11_about_124 : decode cX11_about 124 = .ok (.aload_n 3, 1) := by decide +kernel
theorem dX11_about_125 : decode cX11_about 125 = .ok (.getfield 115, 3) := by decide +kernel
theorem dX11_about_128 : decode cX11_about 128 = .ok (.ireturn, 1) := by decide +kernel
theorem dX11_about_129 : decode cX11_about 129 = .ok (.aload_n 3, 1) := by decide +kernel
theorem dX11_about_130 : decode cX11_about 130 = .ok (.getfield 118, 3) := by decide +kernel
theorem dX11_about_133 : decode cX11_about 133 = .ok (.ireturn, 1) := by decide +kernel
theorem dX11_about_134 : decode cX11_about 134 = .ok (.aload_n 3, 1) := by decide +kernel
theorem dX11_about_135 : decode cX11_about 135 = .ok (.getfield 163, 3) := by decide +kernel
theorem dX11_about_138 : decode cX11_about 138 = .ok (.ireturn, 1) := by decide +kernel
theorem dX11_about_139 : decode cX11_about 139 = .ok (.aload_n 3, 1) := by decide +kernel
theorem dX11_about_140 : decode cX11_about 140 = .ok (.getfield 166, 3) := by decide +kernel
theorem dX11_about_143 : decode cX11_about 143 = .ok (.ireturn, 1) := by decide +kernel
theorem dX11_about_144 : decode cX11_about 144 = .ok (.aload_n 3, 1) := by decide +kernel
theorem dX11_about_145 : decode cX11_about 145 = .ok (.getfield 169, 3) := by decide +kernel
theorem dX11_about_148 : decode cX11_about 148 = .ok (.ireturn, 1) := by decide +kernel
theorem dX11_about_149 : decode cX11_about 149 = .ok (.aload_n 0, 1) := by decide +kernel
theorem dX11_about_150 : decode cX11_about 150 = .ok (.getfield 10, 3) := by decide +kernel
theorem dX11_about_153 : decode cX11_about 153 = .ok (.aload_n 3, 1) := by decide +kernel
theorem dX11_about_154 : decode cX11_about 154 = .ok (.invokevirtual 172, 3) := by decide +kernel
theorem dX11_about_157 : decode cX11_about 157 = .ok (.ireturn, 1) := by decide +kernel
theorem dX11_about_158 : decode cX11_about 158 = .ok (.bipush (-2), 2) := by decide +kernel
theorem dX11_about_160 : decode cX11_about 160 = .ok (.ireturn, 1) := by decide +kernel
def vc_X11_about (l0 : Nat) (l1 : Int32) (l2 : Int32) (M : mj_M) (post : Int32 → mj_M → Prop) : Prop := mj_tag M l0 = 12 ∧ mj_tag M (mj_r M l0 0) = 5 ∧ vc_X4_find (mj_r M l0 0) l1 M (fun r3 M4 => if r3 = 0 then (post ((-1)) M4) else (if l2 = 0 then (mj_tag M4 r3 = 4 ∧ if (mj_r M4 r3 2) = 0 then (post ((-1)) M4) else (mj_tag M4 (mj_r M4 r3 2) = 4 ∧ post (mj_i M4 (mj_r M4 r3 2) 0) M4)) else (if l2 = 1 then (mj_tag M4 r3 = 4 ∧ post (mj_i M4 r3 3) M4) else (if l2 = 2 then (mj_tag M4 r3 = 4 ∧ post (mj_i M4 r3 4) M4) else (if l2 = 3 then (mj_tag M4 r3 = 4 ∧ post (mj_i M4 r3 5) M4) else (if l2 = 4 then (mj_tag M4 r3 = 4 ∧ vc_X3_until r3 M4 (fun r18 M19 => post r18 M19)) else (if l2 = 5 then (mj_tag M4 r3 = 4 ∧ post (mj_i M4 r3 6) M4) else (if l2 = 6 then (mj_tag M4 r3 = 4 ∧ post (mj_i M4 r3 8) M4) else (if l2 = 7 then (mj_tag M4 r3 = 4 ∧ post (mj_i M4 r3 9) M4) else (if l2 = 8 then (mj_tag M4 r3 = 4 ∧ post (mj_i M4 r3 10) M4) else (if l2 = 9 then (mj_tag M4 r3 = 4 ∧ post (mj_i M4 r3 11) M4) else (if l2 = 10 then (mj_tag M4 r3 = 4 ∧ post (mj_i M4 r3 12) M4) else (if l2 = 11 then (mj_tag M4 l0 = 12 ∧ mj_tag M4 (mj_r M4 l0 0) = 5 ∧ vc_X4_countOutOf (mj_r M4 l0 0) r3 M4 (fun r35 M36 => post r35 M36)) else (post ((-2)) M4))))))))))))))
set_option maxHeartbeats 4000000 in
set_option maxRecDepth 100000 in
theorem ct_X11_about {l : Launch} {base : Nat} {D : va_G} {A : mj_AT} (l0 : Nat) (l1 : Int32) (l2 : Int32) (M : mj_M) (post : Int32 → mj_M → Prop) (h : vc_X11_about l0 l1 l2 M post) : mj_Met l base D A mj_jI yX11_about cX11_about 4 (some .int) rm_X11_about 0 0 [vR l0, vI l1, vI l2] M post := by
  refine mj_entry (by decide +kernel) (Nat.le_of_ble_eq_true rfl) (fun g hC hE h1 h2 h3 h4 => ?_)
  show mj_X g 0 [(0, vR l0), (1, vI l1), (2, vI l2)] [] M 0 0
  simp only [vc_X11_about] at h
  refine mx_aload_n (j := 0) hC dX11_about_0 rfl rfl ?_
  obtain ⟨ht1, h⟩ := h
  refine mx_get (v := vR (mj_r M l0 0)) hC tf_X11_10 ht1 rfl dX11_about_1 ?_
  refine mx_iload_n (j := 1) hC dX11_about_4 rfl rfl ?_
  obtain ⟨ht2, h⟩ := h
  refine mx_callV (inj := mj_jR) (As := [vI l1]) (st := []) hC (ct_X4_find (mj_r M l0 0) l1 M _ h) ty_X4_find tw377 ht2 rfl (Nat.le_of_ble_eq_true rfl) ⟨rfl, rfl, ⟨by decide, by decide⟩, by decide, by decide⟩ dX11_about_5 (fun r3 M4 h => ?_)
  show mj_X g 8 [(0, vR l0), (1, vI l1), (2, vI l2)] [vR r3] M4 0 0
  refine mx_astore_n (L' := [(3, vR r3), (0, vR l0), (1, vI l1), (2, vI l2)]) hC dX11_about_8 rfl (by decide) rfl ?_
  refine mx_aload_n (j := 0) hC dX11_about_9 rfl rfl ?_
  refine mx_ifnonnull (tgt := 15) hC dX11_about_10 (by decide) (fun hc5 => ?_) (fun hc5 => ?_)
  · replace h := mj_nn hc5 h
    refine mx_iload_n (j := 3) hC dX11_about_15 rfl rfl ?_
    by_cases hc6 : l2 = 0
    · replace h := mj_yy hc6 h
      refine mx_tsin (v := 0) (off := 64) (tgt := 80) hC dX11_about_16 hc6 (by decide) (by decide) (by decide) (by decide) ?_
      refine mx_aload_n (j := 0) hC dX11_about_80 rfl rfl ?_
      obtain ⟨ht7, h⟩ := h
      refine mx_get (v := vR (mj_r M4 r3 2)) hC tf_X11_132 ht7 rfl dX11_about_81 ?_
      refine mx_ifnonnull (tgt := 91) hC dX11_about_84 (by decide) (fun hc8 => ?_) (fun hc8 => ?_)
      · replace h := mj_nn hc8 h
        refine mx_aload_n (j := 0) hC dX11_about_91 rfl rfl ?_
        refine mx_get (v := vR (mj_r M4 r3 2)) hC tf_X11_132 ht7 rfl dX11_about_92 ?_
        obtain ⟨ht9, h⟩ := h
        refine mx_get (v := vI (mj_i M4 (mj_r M4 r3 2) 0)) hC tf_X11_144 ht9 rfl dX11_about_95 ?_
        exact mx_iret hC hE rfl dX11_about_98 h
      · replace h := mj_yy hc8 h
        refine mx_iconst (v := (-1)) hC dX11_about_87 (by decide) ?_
        refine mx_goto (tgt := 98) hC dX11_about_88 (by decide) ?_
        exact mx_iret hC hE rfl dX11_about_98 h
    replace h := mj_nn hc6 h
    by_cases hc10 : l2 = 1
    · replace h := mj_yy hc10 h
      refine mx_tsin (v := 1) (off := 83) (tgt := 99) hC dX11_about_16 hc10 (by decide) (by decide) (by decide) (by decide) ?_
      refine mx_aload_n (j := 0) hC dX11_about_99 rfl rfl ?_
      obtain ⟨ht11, h⟩ := h
      refine mx_get (v := vI (mj_i M4 r3 3)) hC tf_X11_147 ht11 rfl dX11_about_100 ?_
      exact mx_iret hC hE rfl dX11_about_103 h
    replace h := mj_nn hc10 h
    by_cases hc12 : l2 = 2
    · replace h := mj_yy hc12 h
      refine mx_tsin (v := 2) (off := 88) (tgt := 104) hC dX11_about_16 hc12 (by decide) (by decide) (by decide) (by decide) ?_
      refine mx_aload_n (j := 0) hC dX11_about_104 rfl rfl ?_
      obtain ⟨ht13, h⟩ := h
      refine mx_get (v := vI (mj_i M4 r3 4)) hC tf_X11_150 ht13 rfl dX11_about_105 ?_
      exact mx_iret hC hE rfl dX11_about_108 h
    replace h := mj_nn hc12 h
    by_cases hc14 : l2 = 3
    · replace h := mj_yy hc14 h
      refine mx_tsin (v := 3) (off := 93) (tgt := 109) hC dX11_about_16 hc14 (by decide) (by decide) (by decide) (by decide) ?_
      refine mx_aload_n (j := 0) hC dX11_about_109 rfl rfl ?_
      obtain ⟨ht15, h⟩ := h
      refine mx_get (v := vI (mj_i M4 r3 5)) hC tf_X11_153 ht15 rfl dX11_about_110 ?_
      exact mx_iret hC hE rfl dX11_about_113 h
    replace h := mj_nn hc14 h
    by_cases hc16 : l2 = 4
    · replace h := mj_yy hc16 h
      refine mx_tsin (v := 4) (off := 98) (tgt := 114) hC dX11_about_16 hc16 (by decide) (by decide) (by decide) (by decide) ?_
      refine mx_aload_n (j := 0) hC dX11_about_114 rfl rfl ?_
      obtain ⟨ht17, h⟩ := h
      refine mx_callV (inj := mj_jI) (As := []) (st := []) hC (ct_X3_until r3 M4 _ h) ty_X3_until tw419 ht17 rfl (Nat.le_of_ble_eq_true rfl) ⟨rfl, rfl, ⟨by decide, by decide⟩, by decide, by decide⟩ dX11_about_115 (fun r18 M19 h => ?_)
      show mj_X g 118 [(3, vR r3), (0, vR l0), (1, vI l1), (2, vI l2)] [vI r18] M19 0 0
      exact mx_iret hC hE rfl dX11_about_118 h
    replace h := mj_nn hc16 h
    by_cases hc20 : l2 = 5
    · replace h := mj_yy hc20 h
      refine mx_tsin (v := 5) (off := 103) (tgt := 119) hC dX11_about_16 hc20 (by decide) (by decide) (by decide) (by decide) ?_
      refine mx_aload_n (j := 0) hC dX11_about_119 rfl rfl ?_
      obtain ⟨ht21, h⟩ := h
      refine mx_get (v := vI (mj_i M4 r3 6)) hC tf_X11_160 ht21 rfl dX11_about_120 ?_
      exact mx_iret hC hE rfl dX11_about_123 h
    replace h := mj_nn hc20 h
    by_cases hc22 : l2 = 6
    · replace h := mj_yy hc22 h
      refine mx_tsin (v := 6) (off := 108) (tgt := 124) hC dX11_about_16 hc22 (by decide) (by decide) (by decide) (by decide) ?_
      refine mx_aload_n (j := 0) hC dX11_about_124 rfl rfl ?_
      obtain ⟨ht23, h⟩ := h
      refine mx_get (v := vI (mj_i M4 r3 8)) hC tf_X11_115 ht23 rfl dX11_about_125 ?_
      exact mx_iret hC hE rfl dX11_about_128 h
    replace h := mj_nn hc22 h
    by_cases hc24 : l2 = 7
    · replace h := mj_yy hc24 h
      refine mx_tsin (v := 7) (off := 113) (tgt := 129) hC dX11_about_16 hc24 (by decide) (by decide) (by decide) (by decide) ?_
      refine mx_aload_n (j := 0) hC dX11_about_129 rfl rfl ?_
      obtain ⟨ht25, h⟩ := h
      refine mx_get (v := vI (mj_i M4 r3 9)) hC tf_X11_118 ht25 rfl dX11_about_130 ?_
      exact mx_iret hC hE rfl dX11_about_133 h
    replace h := mj_nn hc24 h
    by_cases hc26 : l2 = 8
    · replace h := mj_yy hc26 h
      refine mx_tsin (v := 8) (off := 118) (tgt := 134) hC dX11_about_16 hc26 (by decide) (by decide) (by decide) (by decide) ?_
      refine mx_aload_n (j := 0) hC dX11_about_134 rfl rfl ?_
      obtain ⟨ht27, h⟩ := h
      refine mx_get (v := vI (mj_i M4 r3 10)) hC tf_X11_163 ht27 rfl dX11_about_135 ?_
      exact mx_iret hC hE rfl dX11_about_138 h
    replace h := mj_nn hc26 h
    by_cases hc28 : l2 = 9
    · replace h := mj_yy hc28 h
      refine mx_tsin (v := 9) (off := 123) (tgt := 139) hC dX11_about_16 hc28 (by decide) (by decide) (by decide) (by decide) ?_
      refine mx_aload_n (j := 0) hC dX11_about_139 rfl rfl ?_
      obtain ⟨ht29, h⟩ := h
      refine mx_get (v := vI (mj_i M4 r3 11)) hC tf_X11_166 ht29 rfl dX11_about_140 ?_
      exact mx_iret hC hE rfl dX11_about_143 h
    replace h := mj_nn hc28 h
    by_cases hc30 : l2 = 10
    · replace h := mj_yy hc30 h
      refine mx_tsin (v := 10) (off := 128) (tgt := 144) hC dX11_about_16 hc30 (by decide) (by decide) (by decide) (by decide) ?_
      refine mx_aload_n (j := 0) hC dX11_about_144 rfl rfl ?_
      obtain ⟨ht31, h⟩ := h
      refine mx_get (v := vI (mj_i M4 r3 12)) hC tf_X11_169 ht31 rfl dX11_about_145 ?_
      exact mx_iret hC hE rfl dX11_about_148 h
    replace h := mj_nn hc30 h
    by_cases hc32 : l2 = 11
    · replace h := mj_yy hc32 h
      refine mx_tsin (v := 11) (off := 133) (tgt := 149) hC dX11_about_16 hc32 (by decide) (by decide) (by decide) (by decide) ?_
      refine mx_aload_n (j := 1) hC dX11_about_149 rfl rfl ?_
      obtain ⟨ht33, h⟩ := h
      refine mx_get (v := vR (mj_r M4 l0 0)) hC tf_X11_10 ht33 rfl dX11_about_150 ?_
      refine mx_aload_n (j := 0) hC dX11_about_153 rfl rfl ?_
      obtain ⟨ht34, h⟩ := h
      refine mx_callV (inj := mj_jI) (As := [vR r3]) (st := []) hC (ct_X4_countOutOf (mj_r M4 l0 0) r3 M4 _ h) ty_X4_countOutOf tw420 ht34 rfl (Nat.le_of_ble_eq_true rfl) ⟨rfl, rfl, ⟨by decide, by decide⟩, by decide, by decide⟩ dX11_about_154 (fun r35 M36 h => ?_)
      show mj_X g 157 [(3, vR r3), (0, vR l0), (1, vI l1), (2, vI l2)] [vI r35] M36 0 0
      exact mx_iret hC hE rfl dX11_about_157 h
    replace h := mj_nn hc32 h
    refine mx_tsout (vs := [0, 1, 2, 3, 4, 5, 6, 7, 8, 9, 10, 11]) (tgt := 158) hC dX11_about_16 (by decide) (by decide) (List.forall_mem_cons.mpr ⟨hc6, (List.forall_mem_cons.mpr ⟨hc10, (List.forall_mem_cons.mpr ⟨hc12, (List.forall_mem_cons.mpr ⟨hc14, (List.forall_mem_cons.mpr ⟨hc16, (List.forall_mem_cons.mpr ⟨hc20, (List.forall_mem_cons.mpr ⟨hc22, (List.forall_mem_cons.mpr ⟨hc24, (List.forall_mem_cons.mpr ⟨hc26, (List.forall_mem_cons.mpr ⟨hc28, (List.forall_mem_cons.mpr ⟨hc30, (List.forall_mem_cons.mpr ⟨hc32, (fun _ q => absurd q List.not_mem_nil)⟩)⟩)⟩)⟩)⟩)⟩)⟩)⟩)⟩)⟩)⟩)⟩) ?_
    refine mx_bipush (v := (-2)) hC dX11_about_158 (by decide) ?_
    exact mx_iret hC hE rfl dX11_about_160 h
  · replace h := mj_yy hc5 h
    refine mx_iconst (v := (-1)) hC dX11_about_13 (by decide) ?_
    exact mx_iret hC hE rfl dX11_about_14 h
def rm_X11_isFloor : Room := { frames := 0, cells := 0, slots := 0, locals := 0 }
theorem dX11_isFloor_0 : decode cX11_isFloor 0 = .ok (.iload_n 0, 1) := by decide +kernel
theorem dX11_isFloor_1 : decode cX11_isFloor 1 = .ok (.ifCond .lt 13, 3) := by decide +kernel
theorem dX11_isFloor_4 : decode cX11_isFloor 4 = .ok (.iload_n 0, 1) := by decide +kernel
theorem dX11_isFloor_5 : decode cX11_isFloor 5 = .ok (.bipush 12, 2) := by decide +kernel
theorem dX11_isFloor_7 : decode cX11_isFloor 7 = .ok (.if_icmp .ge 7, 3) := by decide +kernel
theorem dX11_isFloor_10 : decode cX11_isFloor 10 = .ok (.iconst 1, 1) := by decide +kernel
theorem dX11_isFloor_11 : decode cX11_isFloor 11 = .ok (.goto 4, 3) := by decide +kernel
theorem dX11_isFloor_14 : decode cX11_isFloor 14 = .ok (.iconst 0, 1) := by decide +kernel
theorem dX11_isFloor_15 : decode cX11_isFloor 15 = .ok (.ireturn, 1) := by decide +kernel
def vc_X11_isFloor (l0 : Int32) (M : mj_M) (post : Bool → mj_M → Prop) : Prop := if l0 < 0 then (post false M) else (if 12 ≤ l0 then (post false M) else (post true M))
set_option maxHeartbeats 4000000 in
set_option maxRecDepth 100000 in
theorem ct_X11_isFloor {l : Launch} {base : Nat} {D : va_G} {A : mj_AT} (l0 : Int32) (M : mj_M) (post : Bool → mj_M → Prop) (h : vc_X11_isFloor l0 M post) : mj_Met l base D A mj_jB yX11_isFloor cX11_isFloor 1 (some .boolean) rm_X11_isFloor 0 0 [vI l0] M post := by
  refine mj_entry (by decide +kernel) (Nat.le_of_ble_eq_true rfl) (fun g hC hE h1 h2 h3 h4 => ?_)
  show mj_X g 0 [(0, vI l0)] [] M 0 0
  simp only [vc_X11_isFloor] at h
  refine mx_iload_n (j := 0) hC dX11_isFloor_0 rfl rfl ?_
  refine mx_iflt (tgt := 14) hC dX11_isFloor_1 (by decide) (fun hc1 => ?_) (fun hc1 => ?_)
  · replace h := mj_yy hc1 h
    refine mx_iconst (v := 0) hC dX11_isFloor_14 (by decide) ?_
    exact mx_zret (b := false) hC hE rfl dX11_isFloor_15 h
  · replace h := mj_nn hc1 h
    refine mx_iload_n (j := 0) hC dX11_isFloor_4 rfl rfl ?_
    refine mx_bipush (v := 12) hC dX11_isFloor_5 (by decide) ?_
    refine mx_icmpge (tgt := 14) hC dX11_isFloor_7 (by decide) (fun hc2 => ?_) (fun hc2 => ?_)
    · replace h := mj_yy hc2 h
      refine mx_iconst (v := 0) hC dX11_isFloor_14 (by decide) ?_
      exact mx_zret (b := false) hC hE rfl dX11_isFloor_15 h
    · replace h := mj_nn hc2 h
      refine mx_iconst (v := 1) hC dX11_isFloor_10 (by decide) ?_
      refine mx_goto (tgt := 15) hC dX11_isFloor_11 (by decide) ?_
      exact mx_zret (b := true) hC hE rfl dX11_isFloor_15 h
theorem tw428 : (Jvm.Cond.methodLink "LeaseLand" (175 : Nat) ({ cls := "LeaseLand", name := "isFloor", desc := "(I)Z" } : Jvm.MethodName)) ∈ mj_tbl := mj_w 434 (by decide +kernel) (by decide +kernel)
theorem tw431 : (Jvm.Cond.methodLink "LeaseLand" (178 : Nat) ({ cls := "LeaseLand$Land", name := "nextOf", desc := "(LLeaseLand$Holding;I)LLeaseLand$Holding;" } : Jvm.MethodName)) ∈ mj_tbl := mj_w 437 (by decide +kernel) (by decide +kernel)
theorem tw430 : (Jvm.Cond.code ({ cls := "LeaseLand", name := "isFloor", desc := "(I)Z" } : Jvm.MethodName) prog_1_method_60_code (1 : Nat) (Option.some Jvm.ClassFile.FieldType.boolean)) ∈ mj_tbl := mj_w 436 (by decide +kernel) (by decide +kernel)
theorem tw429 : (Jvm.Cond.static ({ cls := "LeaseLand", name := "isFloor", desc := "(I)Z" } : Jvm.MethodName)) ∈ mj_tbl := mj_w 435 (by decide +kernel) (by decide +kernel)
theorem ty_X11_isFloor : mj_YS yX11_isFloor cX11_isFloor 1 (some .boolean) 1 := ⟨⟨tw430, tw1, by decide +kernel, by decide +kernel, by decide +kernel⟩, tw429⟩
def rm_X11_chain : Room := { frames := 3, cells := 0, slots := 0, locals := 64 }
theorem dX11_chain_0 : decode cX11_chain 0 = .ok (.iload_n 1, 1) := by decide +kernel
theorem dX11_chain_1 : decode cX11_chain 1 = .ok (.invokestatic 175, 3) := by decide +kernel
theorem dX11_chain_4 : decode cX11_chain 4 = .ok (.ifCond .ne 5, 3) := by decide +kernel
theorem dX11_chain_7 : decode cX11_chain 7 = .ok (.iconst (-1), 1) := by decide +kernel
theorem dX11_chain_8 : decode cX11_chain 8 = .ok (.ireturn, 1) := by decide +kernel
theorem dX11_chain_9 : decode cX11_chain 9 = .ok (.iconst 0, 1) := by decide +kernel
theorem dX11_chain_10 : decode cX11_chain 10 = .ok (.istore_n 3, 1) := by decide +kernel
theorem dX11_chain_11 : decode cX11_chain 11 = .ok (.aload_n 0, 1) := by decide +kernel
theorem dX11_chain_12 : decode cX11_chain 12 = .ok (.getfield 10, 3) := by decide +kernel
theorem dX11_chain_15 : decode cX11_chain 15 = .ok (.aconst_null, 1) := by decide +kernel
theorem dX11_chain_16 : decode cX11_chain 16 = .ok (.iload_n 1, 1) := by decide +kernel
theorem dX11_chain_17 : decode cX11_chain 17 = .ok (.invokevirtual 178, 3) := by decide +kernel
theorem dX11_chain_20 : decode cX11_chain 20 = .ok (.astore 4, 2) := by decide +kernel
theorem dX11_chain_22 : decode cX11_chain 22 = .ok (.aload 4, 2) := by decide +kernel
theorem dX11_chain_24 : decode cX11_chain 24 = .ok (.ifnull 38, 3) := by decide +kernel
theorem dX11_chain_27 : decode cX11_chain 27 = .ok (.iload_n 3, 1) := by decide +kernel
theorem dX11_chain_28 : decode cX11_chain 28 = .ok (.bipush 40, 2) := by decide +kernel
theorem dX11_chain_30 : decode cX11_chain 30 = .ok (.if_icmp .ge 32, 3) := by decide +kernel
theorem dX11_chain_33 : decode cX11_chain 33 = .ok (.iload_n 3, 1) := by decide +kernel
theorem dX11_chain_34 : decode cX11_chain 34 = .ok (.iload_n 2, 1) := by decide +kernel
theorem dX11_chain_35 : decode cX11_chain 35 = .ok (.if_icmp .ne 9, 3) := by decide +kernel
theorem dX11_chain_38 : decode cX11_chain 38 = .ok (.aload 4, 2) := by decide +kernel
theorem dX11_chain_40 : decode cX11_chain 40 = .ok (.getfield 144, 3) := by decide +kernel
theorem dX11_chain_43 : decode cX11_chain 43 = .ok (.ireturn, 1) := by decide +kernel
theorem dX11_chain_44 : decode cX11_chain 44 = .ok (.iinc 3 1, 3) := by decide +kernel
theorem dX11_chain_47 : decode cX11_chain 47 = .ok (.aload_n 0, 1) := by decide +kernel
theorem dX11_chain_48 : decode cX11_chain 48 = .ok (.getfield 10, 3) := by decide +kernel
theorem dX11_chain_51 : decode cX11_chain 51 = .ok (.aload 4, 2) := by decide +kernel
theorem dX11_chain_53 : decode cX11_chain 53 = .ok (.iload_n 1, 1) := by decide +kernel
theorem dX11_chain_54 : decode cX11_chain 54 = .ok (.invokevirtual 178, 3) := by decide +kernel
theorem dX11_chain_57 : decode cX11_chain 57 = .ok (.astore 4, 2) := by decide +kernel
theorem dX11_chain_59 : decode cX11_chain 59 = .ok (.goto (-37), 3) := by decide +kernel
theorem dX11_chain_62 : decode cX11_chain 62 = .ok (.iload_n 2, 1) := by decide +kernel
theorem dX11_chain_63 : decode cX11_chain 63 = .ok (.iconst (-1), 1) := by decide +kernel
theorem dX11_chain_64 : decode cX11_chain 64 = .ok (.if_icmp .ne 7, 3) := by decide +kernel
theorem dX11_chain_67 : decode cX11_chain 67 = .ok (.iload_n 3, 1) := by decide +kernel
theorem dX11_chain_68 : decode cX11_chain 68 = .ok (.goto 5, 3) := by decide +kernel
theorem dX11_chain_71 : decode cX11_chain 71 = .ok (.bipush (-6), 2) := by decide +kernel
theorem dX11_chain_73 : decode cX11_chain 73 = .ok (.ireturn, 1) := by decide +kernel
def vb_X11_chain_62 (post : Int32 → mj_M → Prop) (l2 : Int32) (l3 : Int32) (M : mj_M) : Prop := if l2 = ((-1)) then (post l3 M) else (post ((-6)) M)
def vb_X11_chain_22 (post : Int32 → mj_M → Prop) : Nat → Nat → Int32 → Int32 → Int32 → Nat → mj_M → Prop
  | 0 => fun _ _ _ _ _ _ => False
  | f + 1 => fun l0 l1 l2 l3 l4 M => if l4 = 0 then (vb_X11_chain_62 post l2 l3 M) else (if 40 ≤ l3 then (vb_X11_chain_62 post l2 l3 M) else (if l3 = l2 then (mj_tag M l4 = 4 ∧ post (mj_i M l4 0) M) else (mj_tag M l0 = 12 ∧ mj_tag M (mj_r M l0 0) = 5 ∧ vc_X4_nextOf (mj_r M l0 0) l4 l1 M (fun r7 M8 => vb_X11_chain_22 post f l0 l1 l2 (l3 + 1) r7 M8))))
def vc_X11_chain (l0 : Nat) (l1 : Int32) (l2 : Int32) (M : mj_M) (post : Int32 → mj_M → Prop) : Prop := vc_X11_isFloor l1 M (fun r10 M11 => if r10 = true then (mj_tag M11 l0 = 12 ∧ mj_tag M11 (mj_r M11 l0 0) = 5 ∧ vc_X4_nextOf (mj_r M11 l0 0) 0 l1 M11 (fun r15 M16 => vb_X11_chain_22 post 60 l0 l1 l2 0 r15 M16)) else (post ((-1)) M11))
set_option maxHeartbeats 4000000 in
set_option maxRecDepth 100000 in
theorem xb_X11_chain_62 {g : mj_G} {post : Int32 → mj_M → Prop} (hC : mj_C g yX11_chain cX11_chain 5 (some .int) rm_X11_chain) (hE : mj_E g mj_jI post 0 0) (l2 : Int32) (l3 : Int32) (M : mj_M) (h : vb_X11_chain_62 post l2 l3 M) : mj_X g 62 [(2, vI l2), (3, vI l3)] [] M 0 0 := by
  simp only [vb_X11_chain_62] at h
  refine mx_iload_n (j := 0) hC dX11_chain_62 rfl rfl ?_
  refine mx_iconst (v := (-1)) hC dX11_chain_63 (by decide) ?_
  refine mx_icmpne (tgt := 71) hC dX11_chain_64 (by decide) (fun hc1 => ?_) (fun hc1 => ?_)
  · replace h := mj_nn hc1 h
    refine mx_bipush (v := (-6)) hC dX11_chain_71 (by decide) ?_
    exact mx_iret hC hE rfl dX11_chain_73 h
  · replace h := mj_yy hc1 h
    refine mx_iload_n (j := 1) hC dX11_chain_67 rfl rfl ?_
    refine mx_goto (tgt := 73) hC dX11_chain_68 (by decide) ?_
    exact mx_iret hC hE rfl dX11_chain_73 h
set_option maxHeartbeats 4000000 in
set_option maxRecDepth 100000 in
theorem xb_X11_chain_22 {g : mj_G} {post : Int32 → mj_M → Prop} (hC : mj_C g yX11_chain cX11_chain 5 (some .int) rm_X11_chain) (hE : mj_E g mj_jI post 0 0) : ∀ (f : Nat) (l0 : Nat) (l1 : Int32) (l2 : Int32) (l3 : Int32) (l4 : Nat) (M : mj_M), vb_X11_chain_22 post f l0 l1 l2 l3 l4 M → mj_X g 22 [(0, vR l0), (1, vI l1), (2, vI l2), (3, vI l3), (4, vR l4)] [] M 0 0 := by
  intro f
  induction f with
  | zero => exact fun _ _ _ _ _ _ h => absurd h (fun z => z)
  | succ f ih =>
    intro l0 l1 l2 l3 l4 M h
    simp only [vb_X11_chain_22] at h
    refine mx_aload (j := 4) hC dX11_chain_22 rfl ?_
    refine mx_ifnull (tgt := 62) hC dX11_chain_24 (by decide) (fun hc2 => ?_) (fun hc2 => ?_)
    · replace h := mj_yy hc2 h
      refine mx_sub (L' := [(2, vI l2), (3, vI l3)]) [2, 3] rfl ?_
      exact show mj_X g 62 [(2, vI l2), (3, vI l3)] [] M 0 0 from (xb_X11_chain_62 hC hE l2 l3 M h)
    · replace h := mj_nn hc2 h
      refine mx_iload_n (j := 3) hC dX11_chain_27 rfl rfl ?_
      refine mx_bipush (v := 40) hC dX11_chain_28 (by decide) ?_
      refine mx_icmpge (tgt := 62) hC dX11_chain_30 (by decide) (fun hc3 => ?_) (fun hc3 => ?_)
      · replace h := mj_yy hc3 h
        refine mx_sub (L' := [(2, vI l2), (3, vI l3)]) [2, 3] rfl ?_
        exact show mj_X g 62 [(2, vI l2), (3, vI l3)] [] M 0 0 from (xb_X11_chain_62 hC hE l2 l3 M h)
      · replace h := mj_nn hc3 h
        refine mx_iload_n (j := 3) hC dX11_chain_33 rfl rfl ?_
        refine mx_iload_n (j := 2) hC dX11_chain_34 rfl rfl ?_
        refine mx_icmpne (tgt := 44) hC dX11_chain_35 (by decide) (fun hc4 => ?_) (fun hc4 => ?_)
        · replace h := mj_nn hc4 h
          refine mx_iinc (j := 3) (v := l3 + 1) (L' := [(3, vI (l3 + 1)), (0, vR l0), (1, vI l1), (2, vI l2), (4, vR l4)]) hC dX11_chain_44 rfl rfl (by decide) rfl ?_
          refine mx_aload_n (j := 1) hC dX11_chain_47 rfl rfl ?_
          obtain ⟨ht5, h⟩ := h
          refine mx_get (v := vR (mj_r M l0 0)) hC tf_X11_10 ht5 rfl dX11_chain_48 ?_
          refine mx_aload (j := 4) hC dX11_chain_51 rfl ?_
          refine mx_iload_n (j := 2) hC dX11_chain_53 rfl rfl ?_
          obtain ⟨ht6, h⟩ := h
          refine mx_callV (inj := mj_jR) (As := [vR l4, vI l1]) (st := []) hC (ct_X4_nextOf (mj_r M l0 0) l4 l1 M _ h) ty_X4_nextOf tw431 ht6 rfl (Nat.le_of_ble_eq_true rfl) ⟨rfl, rfl, ⟨by decide, by decide⟩, by decide, by decide⟩ dX11_chain_54 (fun r7 M8 h => ?_)
          show mj_X g 57 [(3, vI (l3 + 1)), (0, vR l0), (1, vI l1), (2, vI l2), (4, vR l4)] [vR r7] M8 0 0
          refine mx_astore (L' := [(4, vR r7), (3, vI (l3 + 1)), (0, vR l0), (1, vI l1), (2, vI l2)]) hC dX11_chain_57 (by decide) rfl ?_
          refine mx_goto (tgt := 22) hC dX11_chain_59 (by decide) ?_
          refine mx_sub (L' := [(0, vR l0), (1, vI l1), (2, vI l2), (3, vI (l3 + 1)), (4, vR r7)]) [2, 3, 4, 1, 0] rfl ?_
          exact show mj_X g 22 [(0, vR l0), (1, vI l1), (2, vI l2), (3, vI (l3 + 1)), (4, vR r7)] [] M8 0 0 from (ih l0 l1 l2 (l3 + 1) r7 M8 h)
        · replace h := mj_yy hc4 h
          refine mx_aload (j := 4) hC dX11_chain_38 rfl ?_
          obtain ⟨ht9, h⟩ := h
          refine mx_get (v := vI (mj_i M l4 0)) hC tf_X11_144 ht9 rfl dX11_chain_40 ?_
          exact mx_iret hC hE rfl dX11_chain_43 h
set_option maxHeartbeats 4000000 in
set_option maxRecDepth 100000 in
theorem ct_X11_chain {l : Launch} {base : Nat} {D : va_G} {A : mj_AT} (l0 : Nat) (l1 : Int32) (l2 : Int32) (M : mj_M) (post : Int32 → mj_M → Prop) (h : vc_X11_chain l0 l1 l2 M post) : mj_Met l base D A mj_jI yX11_chain cX11_chain 5 (some .int) rm_X11_chain 0 0 [vR l0, vI l1, vI l2] M post := by
  refine mj_entry (by decide +kernel) (Nat.le_of_ble_eq_true rfl) (fun g hC hE h1 h2 h3 h4 => ?_)
  show mj_X g 0 [(0, vR l0), (1, vI l1), (2, vI l2)] [] M 0 0
  simp only [vc_X11_chain] at h
  refine mx_iload_n (j := 1) hC dX11_chain_0 rfl rfl ?_
  refine mx_callS (inj := mj_jB) (As := [vI l1]) (st := []) hC (ct_X11_isFloor l1 M _ h) ty_X11_isFloor tw428 rfl (Nat.le_of_ble_eq_true rfl) ⟨rfl, rfl, ⟨by decide, by decide⟩, by decide, by decide⟩ dX11_chain_1 (fun r10 M11 h => ?_)
  show mj_X g 4 [(0, vR l0), (1, vI l1), (2, vI l2)] [vI (mj_b r10)] M11 0 0
  refine mx_ifneB (tgt := 9) hC dX11_chain_4 (by decide) (fun hc12 => ?_) (fun hc12 => ?_)
  · replace h := mj_yy hc12 h
    refine mx_iconst (v := 0) hC dX11_chain_9 (by decide) ?_
    refine mx_istore_n (L' := [(3, vI 0), (0, vR l0), (1, vI l1), (2, vI l2)]) hC dX11_chain_10 rfl (by decide) rfl ?_
    refine mx_aload_n (j := 1) hC dX11_chain_11 rfl rfl ?_
    obtain ⟨ht13, h⟩ := h
    refine mx_get (v := vR (mj_r M11 l0 0)) hC tf_X11_10 ht13 rfl dX11_chain_12 ?_
    refine mx_null hC dX11_chain_15 ?_
    refine mx_iload_n (j := 2) hC dX11_chain_16 rfl rfl ?_
    obtain ⟨ht14, h⟩ := h
    refine mx_callV (inj := mj_jR) (As := [vR 0, vI l1]) (st := []) hC (ct_X4_nextOf (mj_r M11 l0 0) 0 l1 M11 _ h) ty_X4_nextOf tw431 ht14 rfl (Nat.le_of_ble_eq_true rfl) ⟨rfl, rfl, ⟨by decide, by decide⟩, by decide, by decide⟩ dX11_chain_17 (fun r15 M16 h => ?_)
    show mj_X g 20 [(3, vI 0), (0, vR l0), (1, vI l1), (2, vI l2)] [vR r15] M16 0 0
    refine mx_astore (L' := [(4, vR r15), (3, vI 0), (0, vR l0), (1, vI l1), (2, vI l2)]) hC dX11_chain_20 (by decide) rfl ?_
    refine mx_sub (L' := [(0, vR l0), (1, vI l1), (2, vI l2), (3, vI 0), (4, vR r15)]) [2, 3, 4, 1, 0] rfl ?_
    exact show mj_X g 22 [(0, vR l0), (1, vI l1), (2, vI l2), (3, vI 0), (4, vR r15)] [] M16 0 0 from (xb_X11_chain_22 hC hE 60 l0 l1 l2 0 r15 M16 h)
  · replace h := mj_nn hc12 h
    refine mx_iconst (v := (-1)) hC dX11_chain_7 (by decide) ?_
    exact mx_iret hC hE rfl dX11_chain_8 h
theorem tw447 : (Jvm.Cond.methodLink "LeaseLand" (121 : Nat) ({ cls := "LeaseLand$Land", name := "findLease", desc := "(I)LLeaseLand$Holding;" } : Jvm.MethodName)) ∈ mj_tbl := mj_w 453 (by decide +kernel) (by decide +kernel)
theorem tw452 : (Jvm.Cond.constant "LeaseLand" (185 : Nat) (100000 : Int32)) ∈ mj_tbl := mj_w 458 (by decide +kernel) (by decide +kernel)
theorem tw450 : (Jvm.Cond.code ({ cls := "LeaseLand$Land", name := "findLease", desc := "(I)LLeaseLand$Holding;" } : Jvm.MethodName) prog_6_method_5_code (3 : Nat) (Option.some (Jvm.ClassFile.FieldType.object "LeaseLand$Holding"))) ∈ mj_tbl := mj_w 456 (by decide +kernel) (by decide +kernel)
theorem tw448 : (Jvm.Cond.instanceMethod ({ cls := "LeaseLand$Land", name := "findLease", desc := "(I)LLeaseLand$Holding;" } : Jvm.MethodName)) ∈ mj_tbl := mj_w 454 (by decide +kernel) (by decide +kernel)
theorem tw449 : (Jvm.Cond.selects "LeaseLand$Land" ({ cls := "LeaseLand$Land", name := "findLease", desc := "(I)LLeaseLand$Holding;" } : Jvm.MethodName) ({ cls := "LeaseLand$Land", name := "findLease", desc := "(I)LLeaseLand$Holding;" } : Jvm.MethodName)) ∈ mj_tbl := mj_w 455 (by decide +kernel) (by decide +kernel)
theorem ty_X4_findLease : mj_YV 4 yX4_findLease cX4_findLease 3 (some (.object "LeaseLand$Holding")) 1 := ⟨⟨tw450, tw2, by decide +kernel, by decide +kernel, by decide +kernel⟩, tw448, tw449, _, rfl, rfl⟩
def rm_X11_rent : Room := { frames := 2, cells := 0, slots := 0, locals := 44 }
theorem dX11_rent_0 : decode cX11_rent 0 = .ok (.aload_n 0, 1) := by decide +kernel
theorem dX11_rent_1 : decode cX11_rent 1 = .ok (.getfield 10, 3) := by decide +kernel
theorem dX11_rent_4 : decode cX11_rent 4 = .ok (.iload_n 1, 1) := by decide +kernel
theorem dX11_rent_5 : decode cX11_rent 5 = .ok (.invokevirtual 121, 3) := by decide +kernel
theorem dX11_rent_8 : decode cX11_rent 8 = .ok (.astore 4, 2) := by decide +kernel
theorem dX11_rent_10 : decode cX11_rent 10 = .ok (.aload 4, 2) := by decide +kernel
theorem dX11_rent_12 : decode cX11_rent 12 = .ok (.ifnonnull 5, 3) := by decide +kernel
theorem dX11_rent_15 : decode cX11_rent 15 = .ok (.iconst (-1), 1) := by decide +kernel
theorem dX11_rent_16 : decode cX11_rent 16 = .ok (.ireturn, 1) := by decide +kernel
theorem dX11_rent_17 : decode cX11_rent 17 = .ok (.iload_n 2, 1) := by decide +kernel
theorem dX11_rent_18 : decode cX11_rent 18 = .ok (.ifCond .lt 19, 3) := by decide +kernel
theorem dX11_rent_21 : decode cX11_rent 21 = .ok (.iload_n 2, 1) := by decide +kernel
theorem dX11_rent_22 : decode cX11_rent 22 = .ok (.ldc 185, 2) := by decide +kernel
theorem dX11_rent_24 : decode cX11_rent 24 = .ok (.if_icmp .gt 13, 3) := by decide +kernel
theorem dX11_rent_27 : decode cX11_rent 27 = .ok (.iload_n 3, 1) := by decide +kernel
theorem dX11_rent_28 : decode cX11_rent 28 = .ok (.ifCond .lt 9, 3) := by decide +kernel
theorem dX11_rent_31 : decode cX11_rent 31 = .ok (.iload_n 3, 1) := by decide +kernel
theorem dX11_rent_32 : decode cX11_rent 32 = .ok (.bipush 100, 2) := by decide +kernel
theorem dX11_rent_34 : decode cX11_rent 34 = .ok (.if_icmp .le 6, 3) := by decide +kernel
theorem dX11_rent_37 : decode cX11_rent 37 = .ok (.bipush (-2), 2) := by decide +kernel
theorem dX11_rent_39 : decode cX11_rent 39 = .ok (.ireturn, 1) := by decide +kernel
theorem dX11_rent_40 : decode cX11_rent 40 = .ok (.aload 4, 2) := by decide +kernel
theorem dX11_rent_42 : decode cX11_rent 42 = .ok (.getfield 163, 3) := by decide +kernel
theorem dX11_rent_45 : decode cX11_rent 45 = .ok (.istore 5, 2) := by decide +kernel
theorem dX11_rent_47 : decode cX11_rent 47 = .ok (.aload 4, 2) := by decide +kernel
theorem dX11_rent_49 : decode cX11_rent 49 = .ok (.iload_n 2, 1) := by decide +kernel
theorem dX11_rent_50 : decode cX11_rent 50 = .ok (.putfield 163, 3) := by decide +kernel
theorem dX11_rent_53 : decode cX11_rent 53 = .ok (.aload 4, 2) := by decide +kernel
theorem dX11_rent_55 : decode cX11_rent 55 = .ok (.iload_n 3, 1) := by decide +kernel
theorem dX11_rent_56 : decode cX11_rent 56 = .ok (.putfield 166, 3) := by decide +kernel
theorem dX11_rent_59 : decode cX11_rent 59 = .ok (.iload 5, 2) := by decide +kernel
theorem dX11_rent_61 : decode cX11_rent 61 = .ok (.ireturn, 1) := by decide +kernel
def vc_X11_rent (l0 : Nat) (l1 : Int32) (l2 : Int32) (l3 : Int32) (M : mj_M) (post : Int32 → mj_M → Prop) : Prop := mj_tag M l0 = 12 ∧ mj_tag M (mj_r M l0 0) = 5 ∧ vc_X4_findLease (mj_r M l0 0) l1 M (fun r3 M4 => if r3 = 0 then (post ((-1)) M4) else (if l2 < 0 then (post ((-2)) M4) else (if 100000 < l2 then (post ((-2)) M4) else (if l3 < 0 then (post ((-2)) M4) else (if l3 ≤ 100 then (mj_tag M4 r3 = 4 ∧ post (mj_i M4 r3 10) (mj_wi (mj_wi M4 r3 10 l2) r3 11 l3)) else (post ((-2)) M4))))))
set_option maxHeartbeats 4000000 in
set_option maxRecDepth 100000 in
theorem ct_X11_rent {l : Launch} {base : Nat} {D : va_G} {A : mj_AT} (l0 : Nat) (l1 : Int32) (l2 : Int32) (l3 : Int32) (M : mj_M) (post : Int32 → mj_M → Prop) (h : vc_X11_rent l0 l1 l2 l3 M post) : mj_Met l base D A mj_jI yX11_rent cX11_rent 6 (some .int) rm_X11_rent 0 0 [vR l0, vI l1, vI l2, vI l3] M post := by
  refine mj_entry (by decide +kernel) (Nat.le_of_ble_eq_true rfl) (fun g hC hE h1 h2 h3 h4 => ?_)
  show mj_X g 0 [(0, vR l0), (1, vI l1), (2, vI l2), (3, vI l3)] [] M 0 0
  simp only [vc_X11_rent] at h
  refine mx_aload_n (j := 0) hC dX11_rent_0 rfl rfl ?_
  obtain ⟨ht1, h⟩ := h
  refine mx_get (v := vR (mj_r M l0 0)) hC tf_X11_10 ht1 rfl dX11_rent_1 ?_
  refine mx_iload_n (j := 1) hC dX11_rent_4 rfl rfl ?_
  obtain ⟨ht2, h⟩ := h
  refine mx_callV (inj := mj_jR) (As := [vI l1]) (st := []) hC (ct_X4_findLease (mj_r M l0 0) l1 M _ h) ty_X4_findLease tw447 ht2 rfl (Nat.le_of_ble_eq_true rfl) ⟨rfl, rfl, ⟨by decide, by decide⟩, by decide, by decide⟩ dX11_rent_5 (fun r3 M4 h => ?_)
  show mj_X g 8 [(0, vR l0), (1, vI l1), (2, vI l2), (3, vI l3)] [vR r3] M4 0 0
  refine mx_astore (L' := [(4, vR r3), (0, vR l0), (1, vI l1), (2, vI l2), (3, vI l3)]) hC dX11_rent_8 (by decide) rfl ?_
  refine mx_aload (j := 0) hC dX11_rent_10 rfl ?_
  refine mx_ifnonnull (tgt := 17) hC dX11_rent_12 (by decide) (fun hc5 => ?_) (fun hc5 => ?_)
  · replace h := mj_nn hc5 h
    refine mx_iload_n (j := 3) hC dX11_rent_17 rfl rfl ?_
    refine mx_iflt (tgt := 37) hC dX11_rent_18 (by decide) (fun hc6 => ?_) (fun hc6 => ?_)
    · replace h := mj_yy hc6 h
      refine mx_bipush (v := (-2)) hC dX11_rent_37 (by decide) ?_
      exact mx_iret hC hE rfl dX11_rent_39 h
    · replace h := mj_nn hc6 h
      refine mx_iload_n (j := 3) hC dX11_rent_21 rfl rfl ?_
      refine mx_ldc (v := 100000) hC dX11_rent_22 tw452 ?_
      refine mx_icmpgt (tgt := 37) hC dX11_rent_24 (by decide) (fun hc7 => ?_) (fun hc7 => ?_)
      · replace h := mj_yy hc7 h
        refine mx_bipush (v := (-2)) hC dX11_rent_37 (by decide) ?_
        exact mx_iret hC hE rfl dX11_rent_39 h
      · replace h := mj_nn hc7 h
        refine mx_iload_n (j := 4) hC dX11_rent_27 rfl rfl ?_
        refine mx_iflt (tgt := 37) hC dX11_rent_28 (by decide) (fun hc8 => ?_) (fun hc8 => ?_)
        · replace h := mj_yy hc8 h
          refine mx_bipush (v := (-2)) hC dX11_rent_37 (by decide) ?_
          exact mx_iret hC hE rfl dX11_rent_39 h
        · replace h := mj_nn hc8 h
          refine mx_iload_n (j := 4) hC dX11_rent_31 rfl rfl ?_
          refine mx_bipush (v := 100) hC dX11_rent_32 (by decide) ?_
          refine mx_icmple (tgt := 40) hC dX11_rent_34 (by decide) (fun hc9 => ?_) (fun hc9 => ?_)
          · replace h := mj_yy hc9 h
            refine mx_aload (j := 0) hC dX11_rent_40 rfl ?_
            obtain ⟨ht10, h⟩ := h
            refine mx_get (v := vI (mj_i M4 r3 10)) hC tf_X11_163 ht10 rfl dX11_rent_42 ?_
            refine mx_istore (L' := [(5, vI (mj_i M4 r3 10)), (4, vR r3), (0, vR l0), (1, vI l1), (2, vI l2), (3, vI l3)]) hC dX11_rent_45 (by decide) rfl ?_
            refine mx_aload (j := 1) hC dX11_rent_47 rfl ?_
            refine mx_iload_n (j := 4) hC dX11_rent_49 rfl rfl ?_
            refine mx_put (v := vI l2) (M1 := mj_wi M4 r3 10 l2) hC tf_X11_163 ht10 (Or.inl rfl) ⟨rfl, rfl⟩ (mj_off_wi _ _ _ _) mj_put_wi dX11_rent_50 ?_
            refine mx_aload (j := 1) hC dX11_rent_53 rfl ?_
            refine mx_iload_n (j := 5) hC dX11_rent_55 rfl rfl ?_
            refine mx_put (v := vI l3) (M1 := mj_wi (mj_wi M4 r3 10 l2) r3 11 l3) hC tf_X11_166 ht10 (Or.inl rfl) ⟨rfl, rfl⟩ (mj_off_wi _ _ _ _) mj_put_wi dX11_rent_56 ?_
            refine mx_iload (j := 0) hC dX11_rent_59 rfl ?_
            exact mx_iret hC hE rfl dX11_rent_61 h
          · replace h := mj_nn hc9 h
            refine mx_bipush (v := (-2)) hC dX11_rent_37 (by decide) ?_
            exact mx_iret hC hE rfl dX11_rent_39 h
  · replace h := mj_yy hc5 h
    refine mx_iconst (v := (-1)) hC dX11_rent_15 (by decide) ?_
    exact mx_iret hC hE rfl dX11_rent_16 h
def rm_X11_isSign : Room := { frames := 0, cells := 0, slots := 0, locals := 0 }
theorem dX11_isSign_0 : decode cX11_isSign 0 = .ok (.iload_n 0, 1) := by decide +kernel
theorem dX11_isSign_1 : decode cX11_isSign 1 = .ok (.bipush 33, 2) := by decide +kernel
theorem dX11_isSign_3 : decode cX11_isSign 3 = .ok (.if_icmp .lt 13, 3) := by decide +kernel
theorem dX11_isSign_6 : decode cX11_isSign 6 = .ok (.iload_n 0, 1) := by decide +kernel
theorem dX11_isSign_7 : decode cX11_isSign 7 = .ok (.bipush 126, 2) := by decide +kernel
theorem dX11_isSign_9 : decode cX11_isSign 9 = .ok (.if_icmp .gt 7, 3) := by decide +kernel
theorem dX11_isSign_12 : decode cX11_isSign 12 = .ok (.iconst 1, 1) := by decide +kernel
theorem dX11_isSign_13 : decode cX11_isSign 13 = .ok (.goto 4, 3) := by decide +kernel
theorem dX11_isSign_16 : decode cX11_isSign 16 = .ok (.iconst 0, 1) := by decide +kernel
theorem dX11_isSign_17 : decode cX11_isSign 17 = .ok (.ireturn, 1) := by decide +kernel
def vc_X11_isSign (l0 : Int32) (M : mj_M) (post : Bool → mj_M → Prop) : Prop := if l0 < 33 then (post false M) else (if 126 < l0 then (post false M) else (post true M))
set_option maxHeartbeats 4000000 in
set_option maxRecDepth 100000 in
theorem ct_X11_isSign {l : Launch} {base : Nat} {D : va_G} {A : mj_AT} (l0 : Int32) (M : mj_M) (post : Bool → mj_M → Prop) (h : vc_X11_isSign l0 M post) : mj_Met l base D A mj_jB yX11_isSign cX11_isSign 1 (some .boolean) rm_X11_isSign 0 0 [vI l0] M post := by
  refine mj_entry (by decide +kernel) (Nat.le_of_ble_eq_true rfl) (fun g hC hE h1 h2 h3 h4 => ?_)
  show mj_X g 0 [(0, vI l0)] [] M 0 0
  simp only [vc_X11_isSign] at h
  refine mx_iload_n (j := 0) hC dX11_isSign_0 rfl rfl ?_
  refine mx_bipush (v := 33) hC dX11_isSign_1 (by decide) ?_
  refine mx_icmplt (tgt := 16) hC dX11_isSign_3 (by decide) (fun hc1 => ?_) (fun hc1 => ?_)
  · replace h := mj_yy hc1 h
    refine mx_iconst (v := 0) hC dX11_isSign_16 (by decide) ?_
    exact mx_zret (b := false) hC hE rfl dX11_isSign_17 h
  · replace h := mj_nn hc1 h
    refine mx_iload_n (j := 0) hC dX11_isSign_6 rfl rfl ?_
    refine mx_bipush (v := 126) hC dX11_isSign_7 (by decide) ?_
    refine mx_icmpgt (tgt := 16) hC dX11_isSign_9 (by decide) (fun hc2 => ?_) (fun hc2 => ?_)
    · replace h := mj_yy hc2 h
      refine mx_iconst (v := 0) hC dX11_isSign_16 (by decide) ?_
      exact mx_zret (b := false) hC hE rfl dX11_isSign_17 h
    · replace h := mj_nn hc2 h
      refine mx_iconst (v := 1) hC dX11_isSign_12 (by decide) ?_
      refine mx_goto (tgt := 17) hC dX11_isSign_13 (by decide) ?_
      exact mx_zret (b := true) hC hE rfl dX11_isSign_17 h
theorem tw457 : (Jvm.Cond.methodLink "LeaseLand" (201 : Nat) ({ cls := "LeaseLand", name := "isSign", desc := "(I)Z" } : Jvm.MethodName)) ∈ mj_tbl := mj_w 463 (by decide +kernel) (by decide +kernel)
theorem tw460 : (Jvm.Cond.methodLink "LeaseLand" (204 : Nat) ({ cls := "LeaseLand$Acts", name := "addSign", desc := "(I)I" } : Jvm.MethodName)) ∈ mj_tbl := mj_w 466 (by decide +kernel) (by decide +kernel)
theorem tw459 : (Jvm.Cond.code ({ cls := "LeaseLand", name := "isSign", desc := "(I)Z" } : Jvm.MethodName) prog_1_method_66_code (1 : Nat) (Option.some Jvm.ClassFile.FieldType.boolean)) ∈ mj_tbl := mj_w 465 (by decide +kernel) (by decide +kernel)
theorem tw458 : (Jvm.Cond.static ({ cls := "LeaseLand", name := "isSign", desc := "(I)Z" } : Jvm.MethodName)) ∈ mj_tbl := mj_w 464 (by decide +kernel) (by decide +kernel)
theorem ty_X11_isSign : mj_YS yX11_isSign cX11_isSign 1 (some .boolean) 1 := ⟨⟨tw459, tw1, by decide +kernel, by decide +kernel, by decide +kernel⟩, tw458⟩
theorem tw463 : (Jvm.Cond.code ({ cls := "LeaseLand$Acts", name := "addSign", desc := "(I)I" } : Jvm.MethodName) prog_3_method_2_code (2 : Nat) (Option.some Jvm.ClassFile.FieldType.int)) ∈ mj_tbl := mj_w 469 (by decide +kernel) (by decide +kernel)
theorem tw461 : (Jvm.Cond.instanceMethod ({ cls := "LeaseLand$Acts", name := "addSign", desc := "(I)I" } : Jvm.MethodName)) ∈ mj_tbl := mj_w 467 (by decide +kernel) (by decide +kernel)
theorem tw462 : (Jvm.Cond.selects "LeaseLand$Acts" ({ cls := "LeaseLand$Acts", name := "addSign", desc := "(I)I" } : Jvm.MethodName) ({ cls := "LeaseLand$Acts", name := "addSign", desc := "(I)I" } : Jvm.MethodName)) ∈ mj_tbl := mj_w 468 (by decide +kernel) (by decide +kernel)
theorem ty_X1_addSign : mj_YV 1 yX1_addSign cX1_addSign 2 (some .int) 1 := ⟨⟨tw463, tw4, by decide +kernel, by decide +kernel, by decide +kernel⟩, tw461, tw462, _, rfl, rfl⟩
def rm_X11_say : Room := { frames := 1, cells := 0, slots := 0, locals := 21 }
theorem dX11_say_0 : decode cX11_say 0 = .ok (.iload_n 1, 1) := by decide +kernel
theorem dX11_say_1 : decode cX11_say 1 = .ok (.invokestatic 201, 3) := by decide +kernel
theorem dX11_say_4 : decode cX11_say 4 = .ok (.ifCond .eq 14, 3) := by decide +kernel
theorem dX11_say_7 : decode cX11_say 7 = .ok (.aload_n 0, 1) := by decide +kernel
theorem dX11_say_8 : decode cX11_say 8 = .ok (.getfield 19, 3) := by decide +kernel
theorem dX11_say_11 : decode cX11_say 11 = .ok (.iload_n 1, 1) := by decide +kernel
theorem dX11_say_12 : decode cX11_say 12 = .ok (.invokevirtual 204, 3) := by decide +kernel
theorem dX11_say_15 : decode cX11_say 15 = .ok (.goto 5, 3) := by decide +kernel
theorem dX11_say_18 : decode cX11_say 18 = .ok (.bipush (-2), 2) := by decide +kernel
theorem dX11_say_20 : decode cX11_say 20 = .ok (.ireturn, 1) := by decide +kernel
def vc_X11_say (l0 : Nat) (l1 : Int32) (M : mj_M) (post : Int32 → mj_M → Prop) : Prop := vc_X11_isSign l1 M (fun r1 M2 => if r1 = true then (mj_tag M2 l0 = 12 ∧ mj_tag M2 (mj_r M2 l0 1) = 2 ∧ vc_X1_addSign (mj_r M2 l0 1) l1 M2 (fun r6 M7 => post r6 M7)) else (post ((-2)) M2))
set_option maxHeartbeats 4000000 in
set_option maxRecDepth 100000 in
theorem ct_X11_say {l : Launch} {base : Nat} {D : va_G} {A : mj_AT} (l0 : Nat) (l1 : Int32) (M : mj_M) (post : Int32 → mj_M → Prop) (h : vc_X11_say l0 l1 M post) : mj_Met l base D A mj_jI yX11_say cX11_say 2 (some .int) rm_X11_say 0 0 [vR l0, vI l1] M post := by
  refine mj_entry (by decide +kernel) (Nat.le_of_ble_eq_true rfl) (fun g hC hE h1 h2 h3 h4 => ?_)
  show mj_X g 0 [(0, vR l0), (1, vI l1)] [] M 0 0
  simp only [vc_X11_say] at h
  refine mx_iload_n (j := 1) hC dX11_say_0 rfl rfl ?_
  refine mx_callS (inj := mj_jB) (As := [vI l1]) (st := []) hC (ct_X11_isSign l1 M _ h) ty_X11_isSign tw457 rfl (Nat.le_of_ble_eq_true rfl) ⟨rfl, rfl, ⟨by decide, by decide⟩, by decide, by decide⟩ dX11_say_1 (fun r1 M2 h => ?_)
  show mj_X g 4 [(0, vR l0), (1, vI l1)] [vI (mj_b r1)] M2 0 0
  refine mx_ifeqB (tgt := 18) hC dX11_say_4 (by decide) (fun hc3 => ?_) (fun hc3 => ?_)
  · replace h := mj_nn hc3 h
    refine mx_bipush (v := (-2)) hC dX11_say_18 (by decide) ?_
    exact mx_iret hC hE rfl dX11_say_20 h
  · replace h := mj_yy hc3 h
    refine mx_aload_n (j := 0) hC dX11_say_7 rfl rfl ?_
    obtain ⟨ht4, h⟩ := h
    refine mx_get (v := vR (mj_r M2 l0 1)) hC tf_X11_19 ht4 rfl dX11_say_8 ?_
    refine mx_iload_n (j := 1) hC dX11_say_11 rfl rfl ?_
    obtain ⟨ht5, h⟩ := h
    refine mx_callV (inj := mj_jI) (As := [vI l1]) (st := []) hC (ct_X1_addSign (mj_r M2 l0 1) l1 M2 _ h) ty_X1_addSign tw460 ht5 rfl (Nat.le_of_ble_eq_true rfl) ⟨rfl, rfl, ⟨by decide, by decide⟩, by decide, by decide⟩ dX11_say_12 (fun r6 M7 h => ?_)
    show mj_X g 15 [(0, vR l0), (1, vI l1)] [vI r6] M7 0 0
    refine mx_goto (tgt := 20) hC dX11_say_15 (by decide) ?_
    exact mx_iret hC hE rfl dX11_say_20 h
def rm_X11_isKind : Room := { frames := 0, cells := 0, slots := 0, locals := 0 }
theorem dX11_isKind_0 : decode cX11_isKind 0 = .ok (.iload_n 0, 1) := by decide +kernel
theorem dX11_isKind_1 : decode cX11_isKind 1 = .ok (.ifCond .lt 12, 3) := by decide +kernel
theorem dX11_isKind_4 : decode cX11_isKind 4 = .ok (.iload_n 0, 1) := by decide +kernel
theorem dX11_isKind_5 : decode cX11_isKind 5 = .ok (.iconst 4, 1) := by decide +kernel
theorem dX11_isKind_6 : decode cX11_isKind 6 = .ok (.if_icmp .ge 7, 3) := by decide +kernel
theorem dX11_isKind_9 : decode cX11_isKind 9 = .ok (.iconst 1, 1) := by decide +kernel
theorem dX11_isKind_10 : decode cX11_isKind 10 = .ok (.goto 4, 3) := by decide +kernel
theorem dX11_isKind_13 : decode cX11_isKind 13 = .ok (.iconst 0, 1) := by decide +kernel
theorem dX11_isKind_14 : decode cX11_isKind 14 = .ok (.ireturn, 1) := by decide +kernel
def vc_X11_isKind (l0 : Int32) (M : mj_M) (post : Bool → mj_M → Prop) : Prop := if l0 < 0 then (post false M) else (if 4 ≤ l0 then (post false M) else (post true M))
set_option maxHeartbeats 4000000 in
set_option maxRecDepth 100000 in
theorem ct_X11_isKind {l : Launch} {base : Nat} {D : va_G} {A : mj_AT} (l0 : Int32) (M : mj_M) (post : Bool → mj_M → Prop) (h : vc_X11_isKind l0 M post) : mj_Met l base D A mj_jB yX11_isKind cX11_isKind 1 (some .boolean) rm_X11_isKind 0 0 [vI l0] M post := by
  refine mj_entry (by decide +kernel) (Nat.le_of_ble_eq_true rfl) (fun g hC hE h1 h2 h3 h4 => ?_)
  show mj_X g 0 [(0, vI l0)] [] M 0 0
  simp only [vc_X11_isKind] at h
  refine mx_iload_n (j := 0) hC dX11_isKind_0 rfl rfl ?_
  refine mx_iflt (tgt := 13) hC dX11_isKind_1 (by decide) (fun hc1 => ?_) (fun hc1 => ?_)
  · replace h := mj_yy hc1 h
    refine mx_iconst (v := 0) hC dX11_isKind_13 (by decide) ?_
    exact mx_zret (b := false) hC hE rfl dX11_isKind_14 h
  · replace h := mj_nn hc1 h
    refine mx_iload_n (j := 0) hC dX11_isKind_4 rfl rfl ?_
    refine mx_iconst (v := 4) hC dX11_isKind_5 (by decide) ?_
    refine mx_icmpge (tgt := 13) hC dX11_isKind_6 (by decide) (fun hc2 => ?_) (fun hc2 => ?_)
    · replace h := mj_yy hc2 h
      refine mx_iconst (v := 0) hC dX11_isKind_13 (by decide) ?_
      exact mx_zret (b := false) hC hE rfl dX11_isKind_14 h
    · replace h := mj_nn hc2 h
      refine mx_iconst (v := 1) hC dX11_isKind_9 (by decide) ?_
      refine mx_goto (tgt := 14) hC dX11_isKind_10 (by decide) ?_
      exact mx_zret (b := true) hC hE rfl dX11_isKind_14 h
theorem tw86 : (Jvm.Cond.fieldLink "LeaseLand" (216 : Nat) "LeaseLand$Acts" "count" "I") ∈ mj_tbl := mj_w 92 (by decide +kernel) (by decide +kernel)
theorem tf_X11_216 : mj_F 1 3 .int false "LeaseLand" 216 := ⟨_, tk1, by decide, rfl, rfl, rfl, tw86⟩
theorem tw468 : (Jvm.Cond.methodLink "LeaseLand" (213 : Nat) ({ cls := "LeaseLand", name := "isKind", desc := "(I)Z" } : Jvm.MethodName)) ∈ mj_tbl := mj_w 474 (by decide +kernel) (by decide +kernel)
theorem tw471 : (Jvm.Cond.methodLink "LeaseLand" (210 : Nat) ({ cls := "LeaseLand$Acts", name := "faultPlace", desc := "()I" } : Jvm.MethodName)) ∈ mj_tbl := mj_w 477 (by decide +kernel) (by decide +kernel)
theorem tw599 : (Jvm.Cond.methodLink "LeaseLand" (219 : Nat) ({ cls := "LeaseLand$Acts", name := "pass", desc := "(II)I" } : Jvm.MethodName)) ∈ mj_tbl := mj_w 605 (by decide +kernel) (by decide +kernel)
theorem tw470 : (Jvm.Cond.code ({ cls := "LeaseLand", name := "isKind", desc := "(I)Z" } : Jvm.MethodName) prog_1_method_65_code (1 : Nat) (Option.some Jvm.ClassFile.FieldType.boolean)) ∈ mj_tbl := mj_w 476 (by decide +kernel) (by decide +kernel)
theorem tw469 : (Jvm.Cond.static ({ cls := "LeaseLand", name := "isKind", desc := "(I)Z" } : Jvm.MethodName)) ∈ mj_tbl := mj_w 475 (by decide +kernel) (by decide +kernel)
theorem ty_X11_isKind : mj_YS yX11_isKind cX11_isKind 1 (some .boolean) 1 := ⟨⟨tw470, tw1, by decide +kernel, by decide +kernel, by decide +kernel⟩, tw469⟩
theorem tw474 : (Jvm.Cond.code ({ cls := "LeaseLand$Acts", name := "faultPlace", desc := "()I" } : Jvm.MethodName) prog_3_method_3_code (2 : Nat) (Option.some Jvm.ClassFile.FieldType.int)) ∈ mj_tbl := mj_w 480 (by decide +kernel) (by decide +kernel)
theorem tw472 : (Jvm.Cond.instanceMethod ({ cls := "LeaseLand$Acts", name := "faultPlace", desc := "()I" } : Jvm.MethodName)) ∈ mj_tbl := mj_w 478 (by decide +kernel) (by decide +kernel)
theorem tw473 : (Jvm.Cond.selects "LeaseLand$Acts" ({ cls := "LeaseLand$Acts", name := "faultPlace", desc := "()I" } : Jvm.MethodName) ({ cls := "LeaseLand$Acts", name := "faultPlace", desc := "()I" } : Jvm.MethodName)) ∈ mj_tbl := mj_w 479 (by decide +kernel) (by decide +kernel)
theorem ty_X1_faultPlace : mj_YV 1 yX1_faultPlace cX1_faultPlace 2 (some .int) 0 := ⟨⟨tw474, tw4, by decide +kernel, by decide +kernel, by decide +kernel⟩, tw472, tw473, _, rfl, rfl⟩
theorem tw602 : (Jvm.Cond.code ({ cls := "LeaseLand$Acts", name := "pass", desc := "(II)I" } : Jvm.MethodName) prog_3_method_4_code (3 : Nat) (Option.some Jvm.ClassFile.FieldType.int)) ∈ mj_tbl := mj_w 608 (by decide +kernel) (by decide +kernel)
theorem tw600 : (Jvm.Cond.instanceMethod ({ cls := "LeaseLand$Acts", name := "pass", desc := "(II)I" } : Jvm.MethodName)) ∈ mj_tbl := mj_w 606 (by decide +kernel) (by decide +kernel)
theorem tw601 : (Jvm.Cond.selects "LeaseLand$Acts" ({ cls := "LeaseLand$Acts", name := "pass", desc := "(II)I" } : Jvm.MethodName) ({ cls := "LeaseLand$Acts", name := "pass", desc := "(II)I" } : Jvm.MethodName)) ∈ mj_tbl := mj_w 607 (by decide +kernel) (by decide +kernel)
theorem ty_X1_pass : mj_YV 1 yX1_pass cX1_pass 3 (some .int) 2 := ⟨⟨tw602, tw4, by decide +kernel, by decide +kernel, by decide +kernel⟩, tw600, tw601, _, rfl, rfl⟩
def rm_X11_act : Room := { frames := 12, cells := 2, slots := 52, locals := 333 }
theorem dX11_act_0 : decode cX11_act 0 = .ok (.iload_n 1, 1) := by decide +kernel
theorem dX11_act_1 : decode cX11_act 1 = .ok (.invokestatic 213, 3) := by decide +kernel
theorem dX11_act_4 : decode cX11_act 4 = .ok (.ifCond .ne 5, 3) := by decide +kernel
theorem dX11_act_7 : decode cX11_act 7 = .ok (.iconst (-1), 1) := by decide +kernel
theorem dX11_act_8 : decode cX11_act 8 = .ok (.ireturn, 1) := by decide +kernel
theorem dX11_act_9 : decode cX11_act 9 = .ok (.iload_n 2, 1) := by decide +kernel
theorem dX11_act_10 : decode cX11_act 10 = .ok (.invokestatic 62, 3) := by decide +kernel
theorem dX11_act_13 : decode cX11_act 13 = .ok (.ifCond .ne 6, 3) := by decide +kernel
theorem dX11_act_16 : decode cX11_act 16 = .ok (.bipush (-2), 2) := by decide +kernel
theorem dX11_act_18 : decode cX11_act 18 = .ok (.ireturn, 1) := by decide +kernel
theorem dX11_act_19 : decode cX11_act 19 = .ok (.aload_n 0, 1) := by decide +kernel
theorem dX11_act_20 : decode cX11_act 20 = .ok (.getfield 19, 3) := by decide +kernel
theorem dX11_act_23 : decode cX11_act 23 = .ok (.getfield 216, 3) := by decide +kernel
theorem dX11_act_26 : decode cX11_act 26 = .ok (.bipush 12, 2) := by decide +kernel
theorem dX11_act_28 : decode cX11_act 28 = .ok (.if_icmp .ne 6, 3) := by decide +kernel
theorem dX11_act_31 : decode cX11_act 31 = .ok (.bipush (-4), 2) := by decide +kernel
theorem dX11_act_33 : decode cX11_act 33 = .ok (.ireturn, 1) := by decide +kernel
theorem dX11_act_34 : decode cX11_act 34 = .ok (.aload_n 0, 1) := by decide +kernel
theorem dX11_act_35 : decode cX11_act 35 = .ok (.getfield 19, 3) := by decide +kernel
theorem dX11_act_38 : decode cX11_act 38 = .ok (.invokevirtual 210, 3) := by decide +kernel
theorem dX11_act_41 : decode cX11_act 41 = .ok (.bipush (-6), 2) := by decide +kernel
theorem dX11_act_43 : decode cX11_act 43 = .ok (.if_icmp .ne 15, 3) := by decide +kernel
theorem dX11_act_46 : decode cX11_act 46 = .ok (.aload_n 0, 1) := by decide +kernel
theorem dX11_act_47 : decode cX11_act 47 = .ok (.getfield 19, 3) := by decide +kernel
theorem dX11_act_50 : decode cX11_act 50 = .ok (.iload_n 1, 1) := by decide +kernel
theorem dX11_act_51 : decode cX11_act 51 = .ok (.iload_n 2, 1) := by decide +kernel
theorem dX11_act_52 : decode cX11_act 52 = .ok (.invokevirtual 219, 3) := by decide +kernel
theorem dX11_act_55 : decode cX11_act 55 = .ok (.goto 5, 3) := by decide +kernel
theorem dX11_act_58 : decode cX11_act 58 = .ok (.bipush (-5), 2) := by decide +kernel
theorem dX11_act_60 : decode cX11_act 60 = .ok (.ireturn, 1) := by decide +kernel
def vc_X11_act (l0 : Nat) (l1 : Int32) (l2 : Int32) (M : mj_M) (post : Int32 → mj_M → Prop) : Prop := vc_X11_isKind l1 M (fun r1 M2 => if r1 = true then (vc_X11_isDay l2 M2 (fun r4 M5 => if r4 = true then (mj_tag M5 l0 = 12 ∧ mj_tag M5 (mj_r M5 l0 1) = 2 ∧ if (mj_i M5 (mj_r M5 l0 1) 3) = 12 then (post ((-4)) M5) else (vc_X1_faultPlace (mj_r M5 l0 1) M5 (fun r10 M11 => if r10 = ((-6)) then (mj_tag M11 l0 = 12 ∧ mj_tag M11 (mj_r M11 l0 1) = 2 ∧ vc_X1_pass (mj_r M11 l0 1) l1 l2 M11 (fun r15 M16 => post r15 M16)) else (post ((-5)) M11)))) else (post ((-2)) M5))) else (post ((-1)) M2))
set_option maxHeartbeats 4000000 in
set_option maxRecDepth 100000 in
theorem ct_X11_act {l : Launch} {base : Nat} {D : va_G} {A : mj_AT} (l0 : Nat) (l1 : Int32) (l2 : Int32) (M : mj_M) (post : Int32 → mj_M → Prop) (h : vc_X11_act l0 l1 l2 M post) : mj_Met l base D A mj_jI yX11_act cX11_act 3 (some .int) rm_X11_act 2 52 [vR l0, vI l1, vI l2] M post := by
  refine mj_entry (by decide +kernel) (Nat.le_of_ble_eq_true rfl) (fun g hC hE h1 h2 h3 h4 => ?_)
  show mj_X g 0 [(0, vR l0), (1, vI l1), (2, vI l2)] [] M 0 0
  simp only [vc_X11_act] at h
  refine mx_iload_n (j := 1) hC dX11_act_0 rfl rfl ?_
  refine mx_callS (inj := mj_jB) (As := [vI l1]) (st := []) hC (ct_X11_isKind l1 M _ h) ty_X11_isKind tw468 rfl (Nat.le_of_ble_eq_true rfl) ⟨rfl, rfl, ⟨by decide, by decide⟩, by decide, by decide⟩ dX11_act_1 (fun r1 M2 h => ?_)
  show mj_X g 4 [(0, vR l0), (1, vI l1), (2, vI l2)] [vI (mj_b r1)] M2 0 0
  refine mx_ifneB (tgt := 9) hC dX11_act_4 (by decide) (fun hc3 => ?_) (fun hc3 => ?_)
  · replace h := mj_yy hc3 h
    refine mx_iload_n (j := 2) hC dX11_act_9 rfl rfl ?_
    refine mx_callS (inj := mj_jB) (As := [vI l2]) (st := []) hC (ct_X11_isDay l2 M2 _ h) ty_X11_isDay tw271 rfl (Nat.le_of_ble_eq_true rfl) ⟨rfl, rfl, ⟨by decide, by decide⟩, by decide, by decide⟩ dX11_act_10 (fun r4 M5 h => ?_)
    show mj_X g 13 [(0, vR l0), (1, vI l1), (2, vI l2)] [vI (mj_b r4)] M5 0 0
    refine mx_ifneB (tgt := 19) hC dX11_act_13 (by decide) (fun hc6 => ?_) (fun hc6 => ?_)
    · replace h := mj_yy hc6 h
      refine mx_aload_n (j := 0) hC dX11_act_19 rfl rfl ?_
      obtain ⟨ht7, h⟩ := h
      refine mx_get (v := vR (mj_r M5 l0 1)) hC tf_X11_19 ht7 rfl dX11_act_20 ?_
      obtain ⟨ht8, h⟩ := h
      refine mx_get (v := vI (mj_i M5 (mj_r M5 l0 1) 3)) hC tf_X11_216 ht8 rfl dX11_act_23 ?_
      refine mx_bipush (v := 12) hC dX11_act_26 (by decide) ?_
      refine mx_icmpne (tgt := 34) hC dX11_act_28 (by decide) (fun hc9 => ?_) (fun hc9 => ?_)
      · replace h := mj_nn hc9 h
        refine mx_aload_n (j := 0) hC dX11_act_34 rfl rfl ?_
        refine mx_get (v := vR (mj_r M5 l0 1)) hC tf_X11_19 ht7 rfl dX11_act_35 ?_
        refine mx_callV (inj := mj_jI) (As := []) (st := []) hC (ct_X1_faultPlace (mj_r M5 l0 1) M5 _ h) ty_X1_faultPlace tw471 ht8 rfl (Nat.le_of_ble_eq_true rfl) ⟨rfl, rfl, ⟨by decide, by decide⟩, by decide, by decide⟩ dX11_act_38 (fun r10 M11 h => ?_)
        show mj_X g 41 [(0, vR l0), (1, vI l1), (2, vI l2)] [vI r10] M11 0 0
        refine mx_bipush (v := (-6)) hC dX11_act_41 (by decide) ?_
        refine mx_icmpne (tgt := 58) hC dX11_act_43 (by decide) (fun hc12 => ?_) (fun hc12 => ?_)
        · replace h := mj_nn hc12 h
          refine mx_bipush (v := (-5)) hC dX11_act_58 (by decide) ?_
          refine mx_widen (k' := 2) (n' := 52) (by decide) (by decide) ?_
          exact mx_iret hC hE rfl dX11_act_60 h
        · replace h := mj_yy hc12 h
          refine mx_aload_n (j := 0) hC dX11_act_46 rfl rfl ?_
          obtain ⟨ht13, h⟩ := h
          refine mx_get (v := vR (mj_r M11 l0 1)) hC tf_X11_19 ht13 rfl dX11_act_47 ?_
          refine mx_iload_n (j := 1) hC dX11_act_50 rfl rfl ?_
          refine mx_iload_n (j := 2) hC dX11_act_51 rfl rfl ?_
          obtain ⟨ht14, h⟩ := h
          refine mx_callV (inj := mj_jI) (As := [vI l1, vI l2]) (st := []) hC (ct_X1_pass (mj_r M11 l0 1) l1 l2 M11 _ h) ty_X1_pass tw599 ht14 rfl (Nat.le_of_ble_eq_true rfl) ⟨rfl, rfl, ⟨by decide, by decide⟩, by decide, by decide⟩ dX11_act_52 (fun r15 M16 h => ?_)
          show mj_X g 55 [(0, vR l0), (1, vI l1), (2, vI l2)] [vI r15] M16 2 52
          refine mx_goto (tgt := 60) hC dX11_act_55 (by decide) ?_
          exact mx_iret hC hE rfl dX11_act_60 h
      · replace h := mj_yy hc9 h
        refine mx_bipush (v := (-4)) hC dX11_act_31 (by decide) ?_
        refine mx_widen (k' := 2) (n' := 52) (by decide) (by decide) ?_
        exact mx_iret hC hE rfl dX11_act_33 h
    · replace h := mj_nn hc6 h
      refine mx_bipush (v := (-2)) hC dX11_act_16 (by decide) ?_
      refine mx_widen (k' := 2) (n' := 52) (by decide) (by decide) ?_
      exact mx_iret hC hE rfl dX11_act_18 h
  · replace h := mj_nn hc3 h
    refine mx_iconst (v := (-1)) hC dX11_act_7 (by decide) ?_
    refine mx_widen (k' := 2) (n' := 52) (by decide) (by decide) ?_
    exact mx_iret hC hE rfl dX11_act_8 h
theorem tw649 : (Jvm.Cond.methodLink "LeaseLand" (111 : Nat) ({ cls := "LeaseLand$Land", name := "isInForce", desc := "(LLeaseLand$Holding;)Z" } : Jvm.MethodName)) ∈ mj_tbl := mj_w 655 (by decide +kernel) (by decide +kernel)
def rm_X11_refusalOfRight : Room := { frames := 3, cells := 0, slots := 0, locals := 62 }
theorem dX11_refusalOfRight_0 : decode cX11_refusalOfRight 0 = .ok (.aload_n 1, 1) := by decide +kernel
theorem dX11_refusalOfRight_1 : decode cX11_refusalOfRight 1 = .ok (.ifnull 10, 3) := by decide +kernel
theorem dX11_refusalOfRight_4 : decode cX11_refusalOfRight 4 = .ok (.iload_n 2, 1) := by decide +kernel
theorem dX11_refusalOfRight_5 : decode cX11_refusalOfRight 5 = .ok (.invokestatic 213, 3) := by decide +kernel
theorem dX11_refusalOfRight_8 : decode cX11_refusalOfRight 8 = .ok (.ifCond .ne 5, 3) := by decide +kernel
theorem dX11_refusalOfRight_11 : decode cX11_refusalOfRight 11 = .ok (.iconst (-1), 1) := by decide +kernel
theorem dX11_refusalOfRight_12 : decode cX11_refusalOfRight 12 = .ok (.ireturn, 1) := by decide +kernel
theorem dX11_refusalOfRight_13 : decode cX11_refusalOfRight 13 = .ok (.aload_n 0, 1) := by decide +kernel
theorem dX11_refusalOfRight_14 : decode cX11_refusalOfRight 14 = .ok (.getfield 10, 3) := by decide +kernel
theorem dX11_refusalOfRight_17 : decode cX11_refusalOfRight 17 = .ok (.aload_n 1, 1) := by decide +kernel
theorem dX11_refusalOfRight_18 : decode cX11_refusalOfRight 18 = .ok (.invokevirtual 111, 3) := by decide +kernel
theorem dX11_refusalOfRight_21 : decode cX11_refusalOfRight 21 = .ok (.ifCond .eq 8, 3) := by decide +kernel
theorem dX11_refusalOfRight_24 : decode cX11_refusalOfRight 24 = .ok (.bipush (-6), 2) := by decide +kernel
theorem dX11_refusalOfRight_26 : decode cX11_refusalOfRight 26 = .ok (.goto 5, 3) := by decide +kernel
theorem dX11_refusalOfRight_29 : decode cX11_refusalOfRight 29 = .ok (.bipush (-3), 2) := by decide +kernel
theorem dX11_refusalOfRight_31 : decode cX11_refusalOfRight 31 = .ok (.ireturn, 1) := by decide +kernel
def vc_X11_refusalOfRight (l0 : Nat) (l1 : Nat) (l2 : Int32) (M : mj_M) (post : Int32 → mj_M → Prop) : Prop := if l1 = 0 then (post ((-1)) M) else (vc_X11_isKind l2 M (fun r2 M3 => if r2 = true then (mj_tag M3 l0 = 12 ∧ mj_tag M3 (mj_r M3 l0 0) = 5 ∧ vc_X4_isInForce (mj_r M3 l0 0) l1 M3 (fun r7 M8 => if r7 = true then (post ((-6)) M8) else (post ((-3)) M8))) else (post ((-1)) M3)))
set_option maxHeartbeats 4000000 in
set_option maxRecDepth 100000 in
theorem ct_X11_refusalOfRight {l : Launch} {base : Nat} {D : va_G} {A : mj_AT} (l0 : Nat) (l1 : Nat) (l2 : Int32) (M : mj_M) (post : Int32 → mj_M → Prop) (h : vc_X11_refusalOfRight l0 l1 l2 M post) : mj_Met l base D A mj_jI yX11_refusalOfRight cX11_refusalOfRight 3 (some .int) rm_X11_refusalOfRight 0 0 [vR l0, vR l1, vI l2] M post := by
  refine mj_entry (by decide +kernel) (Nat.le_of_ble_eq_true rfl) (fun g hC hE h1 h2 h3 h4 => ?_)
  show mj_X g 0 [(0, vR l0), (1, vR l1), (2, vI l2)] [] M 0 0
  simp only [vc_X11_refusalOfRight] at h
  refine mx_aload_n (j := 1) hC dX11_refusalOfRight_0 rfl rfl ?_
  refine mx_ifnull (tgt := 11) hC dX11_refusalOfRight_1 (by decide) (fun hc1 => ?_) (fun hc1 => ?_)
  · replace h := mj_yy hc1 h
    refine mx_iconst (v := (-1)) hC dX11_refusalOfRight_11 (by decide) ?_
    exact mx_iret hC hE rfl dX11_refusalOfRight_12 h
  · replace h := mj_nn hc1 h
    refine mx_iload_n (j := 2) hC dX11_refusalOfRight_4 rfl rfl ?_
    refine mx_callS (inj := mj_jB) (As := [vI l2]) (st := []) hC (ct_X11_isKind l2 M _ h) ty_X11_isKind tw468 rfl (Nat.le_of_ble_eq_true rfl) ⟨rfl, rfl, ⟨by decide, by decide⟩, by decide, by decide⟩ dX11_refusalOfRight_5 (fun r2 M3 h => ?_)
    show mj_X g 8 [(0, vR l0), (1, vR l1), (2, vI l2)] [vI (mj_b r2)] M3 0 0
    refine mx_ifneB (tgt := 13) hC dX11_refusalOfRight_8 (by decide) (fun hc4 => ?_) (fun hc4 => ?_)
    · replace h := mj_yy hc4 h
      refine mx_aload_n (j := 0) hC dX11_refusalOfRight_13 rfl rfl ?_
      obtain ⟨ht5, h⟩ := h
      refine mx_get (v := vR (mj_r M3 l0 0)) hC tf_X11_10 ht5 rfl dX11_refusalOfRight_14 ?_
      refine mx_aload_n (j := 1) hC dX11_refusalOfRight_17 rfl rfl ?_
      obtain ⟨ht6, h⟩ := h
      refine mx_callV (inj := mj_jB) (As := [vR l1]) (st := []) hC (ct_X4_isInForce (mj_r M3 l0 0) l1 M3 _ h) ty_X4_isInForce tw649 ht6 rfl (Nat.le_of_ble_eq_true rfl) ⟨rfl, rfl, ⟨by decide, by decide⟩, by decide, by decide⟩ dX11_refusalOfRight_18 (fun r7 M8 h => ?_)
      show mj_X g 21 [(0, vR l0), (1, vR l1), (2, vI l2)] [vI (mj_b r7)] M8 0 0
      refine mx_ifeqB (tgt := 29) hC dX11_refusalOfRight_21 (by decide) (fun hc9 => ?_) (fun hc9 => ?_)
      · replace h := mj_nn hc9 h
        refine mx_bipush (v := (-3)) hC dX11_refusalOfRight_29 (by decide) ?_
        exact mx_iret hC hE rfl dX11_refusalOfRight_31 h
      · replace h := mj_yy hc9 h
        refine mx_bipush (v := (-6)) hC dX11_refusalOfRight_24 (by decide) ?_
        refine mx_goto (tgt := 31) hC dX11_refusalOfRight_26 (by decide) ?_
        exact mx_iret hC hE rfl dX11_refusalOfRight_31 h
    · replace h := mj_nn hc4 h
      refine mx_iconst (v := (-1)) hC dX11_refusalOfRight_11 (by decide) ?_
      exact mx_iret hC hE rfl dX11_refusalOfRight_12 h

/-! methods 7. By program (wip/gen) out of the bytecode: vc_KEY: what must hold of a call; ct_KEY: then the machine does it. -/
theorem tw319 : (Jvm.Cond.fieldLink "LeaseLand" (144 : Nat) "LeaseLand$Holding" "number" "I") ∈ mj_tbl := mj_w 372 (by decide +kernel) (by decide +kernel)
theorem tf_X11_144 : mj_F 3 0 .int false "LeaseLand" 144 := ⟨_, tk3, by decide, rfl, rfl, rfl, tw319⟩
theorem tw328 : (Jvm.Cond.fieldLink "LeaseLand" (147 : Nat) "LeaseLand$Holding" "floors" "I") ∈ mj_tbl := mj_w 381 (by decide +kernel) (by decide +kernel)
theorem tf_X11_147 : mj_F 3 3 .int false "LeaseLand" 147 := ⟨_, tk3, by decide, rfl, rfl, rfl, tw328⟩
theorem tw330 : (Jvm.Cond.fieldLink "LeaseLand" (150 : Nat) "LeaseLand$Holding" "from" "I") ∈ mj_tbl := mj_w 383 (by decide +kernel) (by decide +kernel)
theorem tf_X11_150 : mj_F 3 4 .int true "LeaseLand" 150 := ⟨_, tk3, by decide, rfl, rfl, rfl, tw330⟩
theorem tw333 : (Jvm.Cond.fieldLink "LeaseLand" (153 : Nat) "LeaseLand$Holding" "to" "I") ∈ mj_tbl := mj_w 386 (by decide +kernel) (by decide +kernel)
theorem tf_X11_153 : mj_F 3 5 .int false "LeaseLand" 153 := ⟨_, tk3, by decide, rfl, rfl, rfl, tw333⟩
theorem tw336 : (Jvm.Cond.fieldLink "LeaseLand" (160 : Nat) "LeaseLand$Holding" "way" "I") ∈ mj_tbl := mj_w 389 (by decide +kernel) (by decide +kernel)
theorem tf_X11_160 : mj_F 3 6 .int false "LeaseLand" 160 := ⟨_, tk3, by decide, rfl, rfl, rfl, tw336⟩
theorem tw348 : (Jvm.Cond.fieldLink "LeaseLand" (163 : Nat) "LeaseLand$Holding" "amount" "I") ∈ mj_tbl := mj_w 401 (by decide +kernel) (by decide +kernel)
theorem tf_X11_163 : mj_F 3 10 .int false "LeaseLand" 163 := ⟨_, tk3, by decide, rfl, rfl, rfl, tw348⟩
theorem tw351 : (Jvm.Cond.fieldLink "LeaseLand" (166 : Nat) "LeaseLand$Holding" "doubles" "I") ∈ mj_tbl := mj_w 404 (by decide +kernel) (by decide +kernel)
theorem tf_X11_166 : mj_F 3 11 .int false "LeaseLand" 166 := ⟨_, tk3, by decide, rfl, rfl, rfl, tw351⟩
theorem tw354 : (Jvm.Cond.fieldLink "LeaseLand" (169 : Nat) "LeaseLand$Holding" "breach" "I") ∈ mj_tbl := mj_w 407 (by decide +kernel) (by decide +kernel)
theorem tf_X11_169 : mj_F 3 12 .int false "LeaseLand" 169 := ⟨_, tk3, by decide, rfl, rfl, rfl, tw354⟩
theorem tw506 : (Jvm.Cond.methodLink "LeaseLand" (156 : Nat) ({ cls := "LeaseLand$Holding", name := "until", desc := "()I" } : Jvm.MethodName)) ∈ mj_tbl := mj_w 559 (by decide +kernel) (by decide +kernel)
theorem tw507 : (Jvm.Cond.methodLink "LeaseLand" (172 : Nat) ({ cls := "LeaseLand$Land", name := "countOutOf", desc := "(LLeaseLand$Holding;)I" } : Jvm.MethodName)) ∈ mj_tbl := mj_w 560 (by decide +kernel) (by decide +kernel)
theorem tw510 : (Jvm.Cond.code ({ cls := "LeaseLand$Land", name := "countOutOf", desc := "(LLeaseLand$Holding;)I" } : Jvm.MethodName) prog_6_method_29_code (4 : Nat) (Option.some Jvm.ClassFile.FieldType.int)) ∈ mj_tbl := mj_w 563 (by decide +kernel) (by decide +kernel)
theorem tw508 : (Jvm.Cond.instanceMethod ({ cls := "LeaseLand$Land", name := "countOutOf", desc := "(LLeaseLand$Holding;)I" } : Jvm.MethodName)) ∈ mj_tbl := mj_w 561 (by decide +kernel) (by decide +kernel)
theorem tw509 : (Jvm.Cond.selects "LeaseLand$Land" ({ cls := "LeaseLand$Land", name := "countOutOf", desc := "(LLeaseLand$Holding;)I" } : Jvm.MethodName) ({ cls := "LeaseLand$Land", name := "countOutOf", desc := "(LLeaseLand$Holding;)I" } : Jvm.MethodName)) ∈ mj_tbl := mj_w 562 (by decide +kernel) (by decide +kernel)
theorem ty_X4_countOutOf : mj_YV 4 yX4_countOutOf cX4_countOutOf 4 (some .int) 1 := ⟨⟨tw510, tw2, by decide +kernel, by decide +kernel, by decide +kernel⟩, tw508, tw509, _, rfl, rfl⟩
def rm_X11_about : Room := { frames := 1, cells := 0, slots := 0, locals := 23 }
theorem dX11_about_0 : decode cX11_about 0 = .ok (.aload_n 0, 1) := by decide +kernel
theorem dX11_about_1 : decode cX11_about 1 = .ok (.getfield 10, 3) := by decide +kernel
theorem dX11_about_4 : decode cX11_about 4 = .ok (.iload_n 1, 1) := by decide +kernel
theorem dX11_about_5 : decode cX11_about 5 = .ok (.invokevirtual 93, 3) := by decide +kernel
theorem dX11_about_8 : decode cX11_about 8 = .ok (.astore_n 3, 1) := by decide +kernel
theorem dX11_about_9 : decode cX11_about 9 = .ok (.aload_n 3, 1) := by decide +kernel
theorem dX11_about_10 : decode cX11_about 10 = .ok (.ifnonnull 5, 3) := by decide +kernel
theorem dX11_about_13 : decode cX11_about 13 = .ok (.iconst (-1), 1) := by decide +kernel
theorem dX11_about_14 : decode cX11_about 14 = .ok (.ireturn, 1) := by decide +kernel
theorem dX11_about_15 : decode cX11_about 15 = .ok (.iload_n 2, 1) := by decide +kernel
theorem dX11_about_16 : decode cX11_about 16 = .ok (.tableswitch 142 0 11 #[64, 83, 88, 93, 98, 103, 108, 113, 118, 123, 128, 133], 64) := by decide +kernel
theorem dX11_about_80 : decode cX11_about 80 = .ok (.aload_n 3, 1) := by decide +kernel
theorem dX11_about_81 : decode cX11_about 81 = .ok (.getfield 132, 3) := by decide +kernel
theorem dX11_about_84 : decode cX11_about 84 = .ok (.ifnonnull 7, 3) := by decide +kernel
theorem dX11_about_87 : decode cX11_about 87 = .ok (.iconst (-1), 1) := by decide +kernel
theorem dX11_about_88 : decode cX11_about 88 = .ok (.goto 10, 3) := by decide +kernel
theorem dX11_about_91 : decode cX11_about 91 = .ok (.aload_n 3, 1) := by decide +kernel
theorem dX11_about_92 : decode cX11_about 92 = .ok (.getfield 132, 3) := by decide +kernel
theorem dX11_about_95 : decode cX11_about 95 = .ok (.getfield 144, 3) := by decide +kernel
theorem dX11_about_98 : decode cX11_about 98 = .ok (.ireturn, 1) := by decide +kernel
theorem dX11_about_99 : decode cX11_about 99 = .ok (.aload_n 3, 1) := by decide +kernel
theorem dX11_about_100 : decode cX11_about 100 = .ok (.getfield 147, 3) := by decide +kernel
theorem dX11_about_103 : decode cX11_about 103 = .ok (.ireturn, 1) := by decide +kernel
theorem dX11_about_104 : decode cX11_about 104 = .ok (.aload_n 3, 1) := by decide +kernel
theorem dX11_about_105 : decode cX11_about 105 = .ok (.getfield 150, 3) := by decide +kernel
theorem dX11_about_108 : decode cX11_about 108 = .ok (.ireturn, 1) := by decide +kernel
theorem dX11_about_109 : decode cX11_about 109 = .ok (.aload_n 3, 1) := by decide +kernel
theorem dX11_about_110 : decode cX11_about 110 = .ok (.getfield 153, 3) := by decide +kernel
theorem dX11_about_113 : decode cX11_about 113 = .ok (.ireturn, 1) := by decide +kernel
theorem dX11_about_114 : decode cX11_about 114 = .ok (.aload_n 3, 1) := by decide +kernel
theorem dX11_about_115 : decode cX11_about 115 = .ok (.invokevirtual 156, 3) := by decide +kernel
theorem dX11_about_118 : decode cX11_about 118 = .ok (.ireturn, 1) := by decide +kernel
theorem dX11_about_119 : decode cX11_about 119 = .ok (.aload_n 3, 1) := by decide +kernel
theorem dX11_about_120 : decode cX11_about 120 = .ok (.getfield 160, 3) := by decide +kernel
theorem dX11_about_123 : decode cX11_about 123 = .ok (.ireturn, 1) := by decide +kernel
theorem dX11_about_124 : decode cX11_about 124 = .ok (.aload_n 3, 1) := by decide +kernel
theorem dX11_about_125 : decode cX11_about 125 = .ok (.getfield 115, 3) := by decide +kernel
theorem dX11_about_128 : decode cX11_about 128 = .ok (.ireturn, 1) := by decide +kernel
theorem dX11_about_129 : decode cX11_about 129 = .ok (.aload_n 3, 1) := by decide +kernel
theorem dX11_about_130 : decode cX11_about 130 = .ok (.getfield 118, 3) := by decide +kernel
theorem dX11_about_133 : decode cX11_about 133 = .ok (.ireturn, 1) := by decide +kernel
theorem dX11_about_134 : decode cX11_about 134 = .ok (.aload_n 3, 1) := by decide +kernel
theorem dX11_about_135 : decode cX11_about 135 = .ok (.getfield 163, 3) := by decide +kernel
theorem dX11_about_138 : decode cX11_about 138 = .ok (.ireturn, 1) := by decide +kernel
theorem dX11_about_139 : decode cX11_about 139 = .ok (.aload_n 3, 1) := by decide +kernel
theorem dX11_about_140 : decode cX11_about 140 = .ok (.getfield 166, 3) := by decide +kernel
theorem dX11_about_143 : decode cX11_about 143 = .ok (.ireturn, 1) := by decide +kernel
theorem dX11_about_144 : decode cX11_about 144 = .ok (.aload_n 3, 1) := by decide +kernel
theorem dX11_about_145 : decode cX11_about 145 = .ok (.getfield 169, 3) := by decide +kernel
theorem dX11_about_148 : decode cX11_about 148 = .ok (.ireturn, 1) := by decide +kernel
theorem dX11_about_149 : decode cX11_about 149 = .ok (.aload_n 0, 1) := by decide +kernel
theorem dX11_about_150 : decode cX11_about 150 = .ok (.getfield 10, 3) := by decide +kernel
theorem dX11_about_153 : decode cX11_about 153 = .ok (.aload_n 3, 1) := by decide +kernel
theorem dX11_about_154 : decode cX11_about 154 = .ok (.invokevirtual 172, 3) := by decide +kernel
theorem dX11_about_157 : decode cX11_about 157 = .ok (.ireturn, 1) := by decide +kernel
theorem dX11_about_158 : decode cX11_about 158 = .ok (.bipush (-2), 2) := by decide +kernel
theorem dX11_about_160 : decode cX11_about 160 = .ok (.ireturn, 1) := by decide +kernel
def vc_X11_about (l0 : Nat) (l1 : Int32) (l2 : Int32) (M : mj_M) (post : Int32 → mj_M → Prop) : Prop := mj_tag M l0 = 12 ∧ mj_tag M (mj_r M l0 0) = 5 ∧ vc_X4_find (mj_r M l0 0) l1 M (fun r3 M4 => if r3 = 0 then (post ((-1)) M4) else (if l2 = 0 then (mj_tag M4 r3 = 4 ∧ if (mj_r M4 r3 2) = 0 then (post ((-1)) M4) else (mj_tag M4 (mj_r M4 r3 2) = 4 ∧ post (mj_i M4 (mj_r M4 r3 2) 0) M4)) else (if l2 = 1 then (mj_tag M4 r3 = 4 ∧ post (mj_i M4 r3 3) M4) else (if l2 = 2 then (mj_tag M4 r3 = 4 ∧ post (mj_i M4 r3 4) M4) else (if l2 = 3 then (mj_tag M4 r3 = 4 ∧ post (mj_i M4 r3 5) M4) else (if l2 = 4 then (mj_tag M4 r3 = 4 ∧ vc_X3_until r3 M4 (fun r18 M19 => post r18 M19)) else (if l2 = 5 then (mj_tag M4 r3 = 4 ∧ post (mj_i M4 r3 6) M4) else (if l2 = 6 then (mj_tag M4 r3 = 4 ∧ post (mj_i M4 r3 8) M4) else (if l2 = 7 then (mj_tag M4 r3 = 4 ∧ post (mj_i M4 r3 9) M4) else (if l2 = 8 then (mj_tag M4 r3 = 4 ∧ post (mj_i M4 r3 10) M4) else (if l2 = 9 then (mj_tag M4 r3 = 4 ∧ post (mj_i M4 r3 11) M4) else (if l2 = 10 then (mj_tag M4 r3 = 4 ∧ post (mj_i M4 r3 12) M4) else (if l2 = 11 then (mj_tag M4 l0 = 12 ∧ mj_tag M4 (mj_r M4 l0 0) = 5 ∧ vc_X4_countOutOf (mj_r M4 l0 0) r3 M4 (fun r35 M36 => post r35 M36)) else (post ((-2)) M4))))))))))))))
set_option maxHeartbeats 4000000 in
set_option maxRecDepth 100000 in
theorem ct_X11_about {l : Launch} {base : Nat} {D : va_G} {A : ClassId × ClassId × ClassId} (l0 : Nat) (l1 : Int32) (l2 : Int32) (M : mj_M) (post : Int32 → mj_M → Prop) (h : vc_X11_about l0 l1 l2 M post) : mj_Met l base D A mj_jI yX11_about cX11_about 4 (some .int) rm_X11_about 0 0 [vR l0, vI l1, vI l2] M post := by
  refine mj_entry (by decide +kernel) (Nat.le_of_ble_eq_true rfl) (fun g hC hE h1 h2 h3 h4 => ?_)
  show mj_X g 0 [(0, vR l0), (1, vI l1), (2, vI l2)] [] M 0 0
  simp only [vc_X11_about] at h
  refine mx_aload_n (j := 0) hC dX11_about_0 rfl rfl ?_
  obtain ⟨ht1, h⟩ := h
  refine mx_get (v := vR (mj_r M l0 0)) hC tf_X11_10 ht1 rfl dX11_about_1 ?_
  refine mx_iload_n (j := 1) hC dX11_about_4 rfl rfl ?_
  obtain ⟨ht2, h⟩ := h
  refine mx_callV (inj := mj_jR) (As := [vI l1]) (st := []) hC (ct_X4_find (mj_r M l0 0) l1 M _ h) ty_X4_find tw397 ht2 rfl (Nat.le_of_ble_eq_true rfl) ⟨rfl, rfl, ⟨by decide, by decide⟩, by decide, by decide⟩ dX11_about_5 (fun r3 M4 h => ?_)
  show mj_X g 8 [(0, vR l0), (1, vI l1), (2, vI l2)] [vR r3] M4 0 0
  refine mx_astore_n (L' := [(3, vR r3), (0, vR l0), (1, vI l1), (2, vI l2)]) hC dX11_about_8 rfl (by decide) rfl ?_
  refine mx_aload_n (j := 0) hC dX11_about_9 rfl rfl ?_
  refine mx_ifnonnull (tgt := 15) hC dX11_about_10 (by decide) (fun hc5 => ?_) (fun hc5 => ?_)
  · replace h := mj_nn hc5 h
    refine mx_iload_n (j := 3) hC dX11_about_15 rfl rfl ?_
    by_cases hc6 : l2 = 0
    · replace h := mj_yy hc6 h
      refine mx_tsin (v := 0) (off := 64) (tgt := 80) hC dX11_about_16 hc6 (by decide) (by decide) (by decide) (by decide) ?_
      refine mx_aload_n (j := 0) hC dX11_about_80 rfl rfl ?_
      obtain ⟨ht7, h⟩ := h
      refine mx_get (v := vR (mj_r M4 r3 2)) hC tf_X11_132 ht7 rfl dX11_about_81 ?_
      refine mx_ifnonnull (tgt := 91) hC dX11_about_84 (by decide) (fun hc8 => ?_) (fun hc8 => ?_)
      · replace h := mj_nn hc8 h
        refine mx_aload_n (j := 0) hC dX11_about_91 rfl rfl ?_
        refine mx_get (v := vR (mj_r M4 r3 2)) hC tf_X11_132 ht7 rfl dX11_about_92 ?_
        obtain ⟨ht9, h⟩ := h
        refine mx_get (v := vI (mj_i M4 (mj_r M4 r3 2) 0)) hC tf_X11_144 ht9 rfl dX11_about_95 ?_
        exact mx_iret hC hE rfl dX11_about_98 h
      · replace h := mj_yy hc8 h
        refine mx_iconst (v := (-1)) hC dX11_about_87 (by decide) ?_
        refine mx_goto (tgt := 98) hC dX11_about_88 (by decide) ?_
        exact mx_iret hC hE rfl dX11_about_98 h
    replace h := mj_nn hc6 h
    by_cases hc10 : l2 = 1
    · replace h := mj_yy hc10 h
      refine mx_tsin (v := 1) (off := 83) (tgt := 99) hC dX11_about_16 hc10 (by decide) (by decide) (by decide) (by decide) ?_
      refine mx_aload_n (j := 0) hC dX11_about_99 rfl rfl ?_
      obtain ⟨ht11, h⟩ := h
      refine mx_get (v := vI (mj_i M4 r3 3)) hC tf_X11_147 ht11 rfl dX11_about_100 ?_
      exact mx_iret hC hE rfl dX11_about_103 h
    replace h := mj_nn hc10 h
    by_cases hc12 : l2 = 2
    · replace h := mj_yy hc12 h
      refine mx_tsin (v := 2) (off := 88) (tgt := 104) hC dX11_about_16 hc12 (by decide) (by decide) (by decide) (by decide) ?_
      refine mx_aload_n (j := 0) hC dX11_about_104 rfl rfl ?_
      obtain ⟨ht13, h⟩ := h
      refine mx_get (v := vI (mj_i M4 r3 4)) hC tf_X11_150 ht13 rfl dX11_about_105 ?_
      exact mx_iret hC hE rfl dX11_about_108 h
    replace h := mj_nn hc12 h
    by_cases hc14 : l2 = 3
    · replace h := mj_yy hc14 h
      refine mx_tsin (v := 3) (off := 93) (tgt := 109) hC dX11_about_16 hc14 (by decide) (by decide) (by decide) (by decide) ?_
      refine mx_aload_n (j := 0) hC dX11_about_109 rfl rfl ?_
      obtain ⟨ht15, h⟩ := h
      refine mx_get (v := vI (mj_i M4 r3 5)) hC tf_X11_153 ht15 rfl dX11_about_110 ?_
      exact mx_iret hC hE rfl dX11_about_113 h
    replace h := mj_nn hc14 h
    by_cases hc16 : l2 = 4
    · replace h := mj_yy hc16 h
      refine mx_tsin (v := 4) (off := 98) (tgt := 114) hC dX11_about_16 hc16 (by decide) (by decide) (by decide) (by decide) ?_
      refine mx_aload_n (j := 0) hC dX11_about_114 rfl rfl ?_
      obtain ⟨ht17, h⟩ := h
      refine mx_callV (inj := mj_jI) (As := []) (st := []) hC (ct_X3_until r3 M4 _ h) ty_X3_until tw506 ht17 rfl (Nat.le_of_ble_eq_true rfl) ⟨rfl, rfl, ⟨by decide, by decide⟩, by decide, by decide⟩ dX11_about_115 (fun r18 M19 h => ?_)
      show mj_X g 118 [(3, vR r3), (0, vR l0), (1, vI l1), (2, vI l2)] [vI r18] M19 0 0
      exact mx_iret hC hE rfl dX11_about_118 h
    replace h := mj_nn hc16 h
    by_cases hc20 : l2 = 5
    · replace h := mj_yy hc20 h
      refine mx_tsin (v := 5) (off := 103) (tgt := 119) hC dX11_about_16 hc20 (by decide) (by decide) (by decide) (by decide) ?_
      refine mx_aload_n (j := 0) hC dX11_about_119 rfl rfl ?_
      obtain ⟨ht21, h⟩ := h
      refine mx_get (v := vI (mj_i M4 r3 6)) hC tf_X11_160 ht21 rfl dX11_about_120 ?_
      exact mx_iret hC hE rfl dX11_about_123 h
    replace h := mj_nn hc20 h
    by_cases hc22 : l2 = 6
    · replace h := mj_yy hc22 h
      refine mx_tsin (v := 6) (off := 108) (tgt := 124) hC dX11_about_16 hc22 (by decide) (by decide) (by decide) (by decide) ?_
      refine mx_aload_n (j := 0) hC dX11_about_124 rfl rfl ?_
      obtain ⟨ht23, h⟩ := h
      refine mx_get (v := vI (mj_i M4 r3 8)) hC tf_X11_115 ht23 rfl dX11_about_125 ?_
      exact mx_iret hC hE rfl dX11_about_128 h
    replace h := mj_nn hc22 h
    by_cases hc24 : l2 = 7
    · replace h := mj_yy hc24 h
      refine mx_tsin (v := 7) (off := 113) (tgt := 129) hC dX11_about_16 hc24 (by decide) (by decide) (by decide) (by decide) ?_
      refine mx_aload_n (j := 0) hC dX11_about_129 rfl rfl ?_
      obtain ⟨ht25, h⟩ := h
      refine mx_get (v := vI (mj_i M4 r3 9)) hC tf_X11_118 ht25 rfl dX11_about_130 ?_
      exact mx_iret hC hE rfl dX11_about_133 h
    replace h := mj_nn hc24 h
    by_cases hc26 : l2 = 8
    · replace h := mj_yy hc26 h
      refine mx_tsin (v := 8) (off := 118) (tgt := 134) hC dX11_about_16 hc26 (by decide) (by decide) (by decide) (by decide) ?_
      refine mx_aload_n (j := 0) hC dX11_about_134 rfl rfl ?_
      obtain ⟨ht27, h⟩ := h
      refine mx_get (v := vI (mj_i M4 r3 10)) hC tf_X11_163 ht27 rfl dX11_about_135 ?_
      exact mx_iret hC hE rfl dX11_about_138 h
    replace h := mj_nn hc26 h
    by_cases hc28 : l2 = 9
    · replace h := mj_yy hc28 h
      refine mx_tsin (v := 9) (off := 123) (tgt := 139) hC dX11_about_16 hc28 (by decide) (by decide) (by decide) (by decide) ?_
      refine mx_aload_n (j := 0) hC dX11_about_139 rfl rfl ?_
      obtain ⟨ht29, h⟩ := h
      refine mx_get (v := vI (mj_i M4 r3 11)) hC tf_X11_166 ht29 rfl dX11_about_140 ?_
      exact mx_iret hC hE rfl dX11_about_143 h
    replace h := mj_nn hc28 h
    by_cases hc30 : l2 = 10
    · replace h := mj_yy hc30 h
      refine mx_tsin (v := 10) (off := 128) (tgt := 144) hC dX11_about_16 hc30 (by decide) (by decide) (by decide) (by decide) ?_
      refine mx_aload_n (j := 0) hC dX11_about_144 rfl rfl ?_
      obtain ⟨ht31, h⟩ := h
      refine mx_get (v := vI (mj_i M4 r3 12)) hC tf_X11_169 ht31 rfl dX11_about_145 ?_
      exact mx_iret hC hE rfl dX11_about_148 h
    replace h := mj_nn hc30 h
    by_cases hc32 : l2 = 11
    · replace h := mj_yy hc32 h
      refine mx_tsin (v := 11) (off := 133) (tgt := 149) hC dX11_about_16 hc32 (by decide) (by decide) (by decide) (by decide) ?_
      refine mx_aload_n (j := 1) hC dX11_about_149 rfl rfl ?_
      obtain ⟨ht33, h⟩ := h
      refine mx_get (v := vR (mj_r M4 l0 0)) hC tf_X11_10 ht33 rfl dX11_about_150 ?_
      refine mx_aload_n (j := 0) hC dX11_about_153 rfl rfl ?_
      obtain ⟨ht34, h⟩ := h
      refine mx_callV (inj := mj_jI) (As := [vR r3]) (st := []) hC (ct_X4_countOutOf (mj_r M4 l0 0) r3 M4 _ h) ty_X4_countOutOf tw507 ht34 rfl (Nat.le_of_ble_eq_true rfl) ⟨rfl, rfl, ⟨by decide, by decide⟩, by decide, by decide⟩ dX11_about_154 (fun r35 M36 h => ?_)
      show mj_X g 157 [(3, vR r3), (0, vR l0), (1, vI l1), (2, vI l2)] [vI r35] M36 0 0
      exact mx_iret hC hE rfl dX11_about_157 h
    replace h := mj_nn hc32 h
    refine mx_tsout (vs := [0, 1, 2, 3, 4, 5, 6, 7, 8, 9, 10, 11]) (tgt := 158) hC dX11_about_16 (by decide) (by decide) (List.forall_mem_cons.mpr ⟨hc6, (List.forall_mem_cons.mpr ⟨hc10, (List.forall_mem_cons.mpr ⟨hc12, (List.forall_mem_cons.mpr ⟨hc14, (List.forall_mem_cons.mpr ⟨hc16, (List.forall_mem_cons.mpr ⟨hc20, (List.forall_mem_cons.mpr ⟨hc22, (List.forall_mem_cons.mpr ⟨hc24, (List.forall_mem_cons.mpr ⟨hc26, (List.forall_mem_cons.mpr ⟨hc28, (List.forall_mem_cons.mpr ⟨hc30, (List.forall_mem_cons.mpr ⟨hc32, (fun _ q => absurd q List.not_mem_nil)⟩)⟩)⟩)⟩)⟩)⟩)⟩)⟩)⟩)⟩)⟩)⟩) ?_
    refine mx_bipush (v := (-2)) hC dX11_about_158 (by decide) ?_
    exact mx_iret hC hE rfl dX11_about_160 h
  · replace h := mj_yy hc5 h
    refine mx_iconst (v := (-1)) hC dX11_about_13 (by decide) ?_
    exact mx_iret hC hE rfl dX11_about_14 h
def rm_X11_isFloor : Room := { frames := 0, cells := 0, slots := 0, locals := 0 }
theorem dX11_isFloor_0 : decode cX11_isFloor 0 = .ok (.iload_n 0, 1) := by decide +kernel
theorem dX11_isFloor_1 : decode cX11_isFloor 1 = .ok (.ifCond .lt 13, 3) := by decide +kernel
theorem dX11_isFloor_4 : decode cX11_isFloor 4 = .ok (.iload_n 0, 1) := by decide +kernel
theorem dX11_isFloor_5 : decode cX11_isFloor 5 = .ok (.bipush 12, 2) := by decide +kernel
theorem dX11_isFloor_7 : decode cX11_isFloor 7 = .ok (.if_icmp .ge 7, 3) := by decide +kernel
theorem dX11_isFloor_10 : decode cX11_isFloor 10 = .ok (.iconst 1, 1) := by decide +kernel
theorem dX11_isFloor_11 : decode cX11_isFloor 11 = .ok (.goto 4, 3) := by decide +kernel
theorem dX11_isFloor_14 : decode cX11_isFloor 14 = .ok (.iconst 0, 1) := by decide +kernel
theorem dX11_isFloor_15 : decode cX11_isFloor 15 = .ok (.ireturn, 1) := by decide +kernel
def vc_X11_isFloor (l0 : Int32) (M : mj_M) (post : Bool → mj_M → Prop) : Prop := if l0 < 0 then (post false M) else (if 12 ≤ l0 then (post false M) else (post true M))
set_option maxHeartbeats 4000000 in
set_option maxRecDepth 100000 in
theorem ct_X11_isFloor {l : Launch} {base : Nat} {D : va_G} {A : ClassId × ClassId × ClassId} (l0 : Int32) (M : mj_M) (post : Bool → mj_M → Prop) (h : vc_X11_isFloor l0 M post) : mj_Met l base D A mj_jB yX11_isFloor cX11_isFloor 1 (some .boolean) rm_X11_isFloor 0 0 [vI l0] M post := by
  refine mj_entry (by decide +kernel) (Nat.le_of_ble_eq_true rfl) (fun g hC hE h1 h2 h3 h4 => ?_)
  show mj_X g 0 [(0, vI l0)] [] M 0 0
  simp only [vc_X11_isFloor] at h
  refine mx_iload_n (j := 0) hC dX11_isFloor_0 rfl rfl ?_
  refine mx_iflt (tgt := 14) hC dX11_isFloor_1 (by decide) (fun hc1 => ?_) (fun hc1 => ?_)
  · replace h := mj_yy hc1 h
    refine mx_iconst (v := 0) hC dX11_isFloor_14 (by decide) ?_
    exact mx_zret (b := false) hC hE rfl dX11_isFloor_15 h
  · replace h := mj_nn hc1 h
    refine mx_iload_n (j := 0) hC dX11_isFloor_4 rfl rfl ?_
    refine mx_bipush (v := 12) hC dX11_isFloor_5 (by decide) ?_
    refine mx_icmpge (tgt := 14) hC dX11_isFloor_7 (by decide) (fun hc2 => ?_) (fun hc2 => ?_)
    · replace h := mj_yy hc2 h
      refine mx_iconst (v := 0) hC dX11_isFloor_14 (by decide) ?_
      exact mx_zret (b := false) hC hE rfl dX11_isFloor_15 h
    · replace h := mj_nn hc2 h
      refine mx_iconst (v := 1) hC dX11_isFloor_10 (by decide) ?_
      refine mx_goto (tgt := 15) hC dX11_isFloor_11 (by decide) ?_
      exact mx_zret (b := true) hC hE rfl dX11_isFloor_15 h
theorem tw515 : (Jvm.Cond.methodLink "LeaseLand" (175 : Nat) ({ cls := "LeaseLand", name := "isFloor", desc := "(I)Z" } : Jvm.MethodName)) ∈ mj_tbl := mj_w 568 (by decide +kernel) (by decide +kernel)
theorem tw518 : (Jvm.Cond.methodLink "LeaseLand" (178 : Nat) ({ cls := "LeaseLand$Land", name := "nextOf", desc := "(LLeaseLand$Holding;I)LLeaseLand$Holding;" } : Jvm.MethodName)) ∈ mj_tbl := mj_w 571 (by decide +kernel) (by decide +kernel)
theorem tw517 : (Jvm.Cond.code ({ cls := "LeaseLand", name := "isFloor", desc := "(I)Z" } : Jvm.MethodName) prog_1_method_60_code (1 : Nat) (Option.some Jvm.ClassFile.FieldType.boolean)) ∈ mj_tbl := mj_w 570 (by decide +kernel) (by decide +kernel)
theorem tw516 : (Jvm.Cond.static ({ cls := "LeaseLand", name := "isFloor", desc := "(I)Z" } : Jvm.MethodName)) ∈ mj_tbl := mj_w 569 (by decide +kernel) (by decide +kernel)
theorem ty_X11_isFloor : mj_YS yX11_isFloor cX11_isFloor 1 (some .boolean) 1 := ⟨⟨tw517, tw1, by decide +kernel, by decide +kernel, by decide +kernel⟩, tw516⟩
def rm_X11_chain : Room := { frames := 3, cells := 0, slots := 0, locals := 64 }
theorem dX11_chain_0 : decode cX11_chain 0 = .ok (.iload_n 1, 1) := by decide +kernel
theorem dX11_chain_1 : decode cX11_chain 1 = .ok (.invokestatic 175, 3) := by decide +kernel
theorem dX11_chain_4 : decode cX11_chain 4 = .ok (.ifCond .ne 5, 3) := by decide +kernel
theorem dX11_chain_7 : decode cX11_chain 7 = .ok (.iconst (-1), 1) := by decide +kernel
theorem dX11_chain_8 : decode cX11_chain 8 = .ok (.ireturn, 1) := by decide +kernel
theorem dX11_chain_9 : decode cX11_chain 9 = .ok (.iconst 0, 1) := by decide +kernel
theorem dX11_chain_10 : decode cX11_chain 10 = .ok (.istore_n 3, 1) := by decide +kernel
theorem dX11_chain_11 : decode cX11_chain 11 = .ok (.aload_n 0, 1) := by decide +kernel
theorem dX11_chain_12 : decode cX11_chain 12 = .ok (.getfield 10, 3) := by decide +kernel
theorem dX11_chain_15 : decode cX11_chain 15 = .ok (.aconst_null, 1) := by decide +kernel
theorem dX11_chain_16 : decode cX11_chain 16 = .ok (.iload_n 1, 1) := by decide +kernel
theorem dX11_chain_17 : decode cX11_chain 17 = .ok (.invokevirtual 178, 3) := by decide +kernel
theorem dX11_chain_20 : decode cX11_chain 20 = .ok (.astore 4, 2) := by decide +kernel
theorem dX11_chain_22 : decode cX11_chain 22 = .ok (.aload 4, 2) := by decide +kernel
theorem dX11_chain_24 : decode cX11_chain 24 = .ok (.ifnull 38, 3) := by decide +kernel
theorem dX11_chain_27 : decode cX11_chain 27 = .ok (.iload_n 3, 1) := by decide +kernel
theorem dX11_chain_28 : decode cX11_chain 28 = .ok (.bipush 40, 2) := by decide +kernel
theorem dX11_chain_30 : decode cX11_chain 30 = .ok (.if_icmp .ge 32, 3) := by decide +kernel
theorem dX11_chain_33 : decode cX11_chain 33 = .ok (.iload_n 3, 1) := by decide +kernel
theorem dX11_chain_34 : decode cX11_chain 34 = .ok (.iload_n 2, 1) := by decide +kernel
theorem dX11_chain_35 : decode cX11_chain 35 = .ok (.if_icmp .ne 9, 3) := by decide +kernel
theorem dX11_chain_38 : decode cX11_chain 38 = .ok (.aload 4, 2) := by decide +kernel
theorem dX11_chain_40 : decode cX11_chain 40 = .ok (.getfield 144, 3) := by decide +kernel
theorem dX11_chain_43 : decode cX11_chain 43 = .ok (.ireturn, 1) := by decide +kernel
theorem dX11_chain_44 : decode cX11_chain 44 = .ok (.iinc 3 1, 3) := by decide +kernel
theorem dX11_chain_47 : decode cX11_chain 47 = .ok (.aload_n 0, 1) := by decide +kernel
theorem dX11_chain_48 : decode cX11_chain 48 = .ok (.getfield 10, 3) := by decide +kernel
theorem dX11_chain_51 : decode cX11_chain 51 = .ok (.aload 4, 2) := by decide +kernel
theorem dX11_chain_53 : decode cX11_chain 53 = .ok (.iload_n 1, 1) := by decide +kernel
theorem dX11_chain_54 : decode cX11_chain 54 = .ok (.invokevirtual 178, 3) := by decide +kernel
theorem dX11_chain_57 : decode cX11_chain 57 = .ok (.astore 4, 2) := by decide +kernel
theorem dX11_chain_59 : decode cX11_chain 59 = .ok (.goto (-37), 3) := by decide +kernel
theorem dX11_chain_62 : decode cX11_chain 62 = .ok (.iload_n 2, 1) := by decide +kernel
theorem dX11_chain_63 : decode cX11_chain 63 = .ok (.iconst (-1), 1) := by decide +kernel
theorem dX11_chain_64 : decode cX11_chain 64 = .ok (.if_icmp .ne 7, 3) := by decide +kernel
theorem dX11_chain_67 : decode cX11_chain 67 = .ok (.iload_n 3, 1) := by decide +kernel
theorem dX11_chain_68 : decode cX11_chain 68 = .ok (.goto 5, 3) := by decide +kernel
theorem dX11_chain_71 : decode cX11_chain 71 = .ok (.bipush (-6), 2) := by decide +kernel
theorem dX11_chain_73 : decode cX11_chain 73 = .ok (.ireturn, 1) := by decide +kernel
def vb_X11_chain_62 (post : Int32 → mj_M → Prop) (l2 : Int32) (l3 : Int32) (M : mj_M) : Prop := if l2 = ((-1)) then (post l3 M) else (post ((-6)) M)
def vb_X11_chain_22 (post : Int32 → mj_M → Prop) : Nat → Nat → Int32 → Int32 → Int32 → Nat → mj_M → Prop
  | 0 => fun _ _ _ _ _ _ => False
  | f + 1 => fun l0 l1 l2 l3 l4 M => if l4 = 0 then (vb_X11_chain_62 post l2 l3 M) else (if 40 ≤ l3 then (vb_X11_chain_62 post l2 l3 M) else (if l3 = l2 then (mj_tag M l4 = 4 ∧ post (mj_i M l4 0) M) else (mj_tag M l0 = 12 ∧ mj_tag M (mj_r M l0 0) = 5 ∧ vc_X4_nextOf (mj_r M l0 0) l4 l1 M (fun r7 M8 => vb_X11_chain_22 post f l0 l1 l2 (l3 + 1) r7 M8))))
def vc_X11_chain (l0 : Nat) (l1 : Int32) (l2 : Int32) (M : mj_M) (post : Int32 → mj_M → Prop) : Prop := vc_X11_isFloor l1 M (fun r10 M11 => if r10 = true then (mj_tag M11 l0 = 12 ∧ mj_tag M11 (mj_r M11 l0 0) = 5 ∧ vc_X4_nextOf (mj_r M11 l0 0) 0 l1 M11 (fun r15 M16 => ∃ fe, vb_X11_chain_22 post fe l0 l1 l2 0 r15 M16)) else (post ((-1)) M11))
set_option maxHeartbeats 4000000 in
set_option maxRecDepth 100000 in
theorem xb_X11_chain_62 {g : mj_G} {post : Int32 → mj_M → Prop} (hC : mj_C g yX11_chain cX11_chain 5 (some .int) rm_X11_chain) (hE : mj_E g mj_jI post 0 0) (l2 : Int32) (l3 : Int32) (M : mj_M) (h : vb_X11_chain_62 post l2 l3 M) : mj_X g 62 [(2, vI l2), (3, vI l3)] [] M 0 0 := by
  simp only [vb_X11_chain_62] at h
  refine mx_iload_n (j := 0) hC dX11_chain_62 rfl rfl ?_
  refine mx_iconst (v := (-1)) hC dX11_chain_63 (by decide) ?_
  refine mx_icmpne (tgt := 71) hC dX11_chain_64 (by decide) (fun hc1 => ?_) (fun hc1 => ?_)
  · replace h := mj_nn hc1 h
    refine mx_bipush (v := (-6)) hC dX11_chain_71 (by decide) ?_
    exact mx_iret hC hE rfl dX11_chain_73 h
  · replace h := mj_yy hc1 h
    refine mx_iload_n (j := 1) hC dX11_chain_67 rfl rfl ?_
    refine mx_goto (tgt := 73) hC dX11_chain_68 (by decide) ?_
    exact mx_iret hC hE rfl dX11_chain_73 h
set_option maxHeartbeats 4000000 in
set_option maxRecDepth 100000 in
theorem xb_X11_chain_22 {g : mj_G} {post : Int32 → mj_M → Prop} (hC : mj_C g yX11_chain cX11_chain 5 (some .int) rm_X11_chain) (hE : mj_E g mj_jI post 0 0) : ∀ (f : Nat) (l0 : Nat) (l1 : Int32) (l2 : Int32) (l3 : Int32) (l4 : Nat) (M : mj_M), vb_X11_chain_22 post f l0 l1 l2 l3 l4 M → mj_X g 22 [(0, vR l0), (1, vI l1), (2, vI l2), (3, vI l3), (4, vR l4)] [] M 0 0 := by
  intro f
  induction f with
  | zero => exact fun _ _ _ _ _ _ h => absurd h (fun z => z)
  | succ f ih =>
    intro l0 l1 l2 l3 l4 M h
    simp only [vb_X11_chain_22] at h
    refine mx_aload (j := 4) hC dX11_chain_22 rfl ?_
    refine mx_ifnull (tgt := 62) hC dX11_chain_24 (by decide) (fun hc2 => ?_) (fun hc2 => ?_)
    · replace h := mj_yy hc2 h
      refine mx_sub (L' := [(2, vI l2), (3, vI l3)]) [2, 3] rfl ?_
      exact show mj_X g 62 [(2, vI l2), (3, vI l3)] [] M 0 0 from (xb_X11_chain_62 hC hE l2 l3 M h)
    · replace h := mj_nn hc2 h
      refine mx_iload_n (j := 3) hC dX11_chain_27 rfl rfl ?_
      refine mx_bipush (v := 40) hC dX11_chain_28 (by decide) ?_
      refine mx_icmpge (tgt := 62) hC dX11_chain_30 (by decide) (fun hc3 => ?_) (fun hc3 => ?_)
      · replace h := mj_yy hc3 h
        refine mx_sub (L' := [(2, vI l2), (3, vI l3)]) [2, 3] rfl ?_
        exact show mj_X g 62 [(2, vI l2), (3, vI l3)] [] M 0 0 from (xb_X11_chain_62 hC hE l2 l3 M h)
      · replace h := mj_nn hc3 h
        refine mx_iload_n (j := 3) hC dX11_chain_33 rfl rfl ?_
        refine mx_iload_n (j := 2) hC dX11_chain_34 rfl rfl ?_
        refine mx_icmpne (tgt := 44) hC dX11_chain_35 (by decide) (fun hc4 => ?_) (fun hc4 => ?_)
        · replace h := mj_nn hc4 h
          refine mx_iinc (j := 3) (v := l3 + 1) (L' := [(3, vI (l3 + 1)), (0, vR l0), (1, vI l1), (2, vI l2), (4, vR l4)]) hC dX11_chain_44 rfl rfl (by decide) rfl ?_
          refine mx_aload_n (j := 1) hC dX11_chain_47 rfl rfl ?_
          obtain ⟨ht5, h⟩ := h
          refine mx_get (v := vR (mj_r M l0 0)) hC tf_X11_10 ht5 rfl dX11_chain_48 ?_
          refine mx_aload (j := 4) hC dX11_chain_51 rfl ?_
          refine mx_iload_n (j := 2) hC dX11_chain_53 rfl rfl ?_
          obtain ⟨ht6, h⟩ := h
          refine mx_callV (inj := mj_jR) (As := [vR l4, vI l1]) (st := []) hC (ct_X4_nextOf (mj_r M l0 0) l4 l1 M _ h) ty_X4_nextOf tw518 ht6 rfl (Nat.le_of_ble_eq_true rfl) ⟨rfl, rfl, ⟨by decide, by decide⟩, by decide, by decide⟩ dX11_chain_54 (fun r7 M8 h => ?_)
          show mj_X g 57 [(3, vI (l3 + 1)), (0, vR l0), (1, vI l1), (2, vI l2), (4, vR l4)] [vR r7] M8 0 0
          refine mx_astore (L' := [(4, vR r7), (3, vI (l3 + 1)), (0, vR l0), (1, vI l1), (2, vI l2)]) hC dX11_chain_57 (by decide) rfl ?_
          refine mx_goto (tgt := 22) hC dX11_chain_59 (by decide) ?_
          refine mx_sub (L' := [(0, vR l0), (1, vI l1), (2, vI l2), (3, vI (l3 + 1)), (4, vR r7)]) [2, 3, 4, 1, 0] rfl ?_
          exact show mj_X g 22 [(0, vR l0), (1, vI l1), (2, vI l2), (3, vI (l3 + 1)), (4, vR r7)] [] M8 0 0 from (ih l0 l1 l2 (l3 + 1) r7 M8 h)
        · replace h := mj_yy hc4 h
          refine mx_aload (j := 4) hC dX11_chain_38 rfl ?_
          obtain ⟨ht9, h⟩ := h
          refine mx_get (v := vI (mj_i M l4 0)) hC tf_X11_144 ht9 rfl dX11_chain_40 ?_
          exact mx_iret hC hE rfl dX11_chain_43 h
set_option maxHeartbeats 4000000 in
set_option maxRecDepth 100000 in
theorem ct_X11_chain {l : Launch} {base : Nat} {D : va_G} {A : ClassId × ClassId × ClassId} (l0 : Nat) (l1 : Int32) (l2 : Int32) (M : mj_M) (post : Int32 → mj_M → Prop) (h : vc_X11_chain l0 l1 l2 M post) : mj_Met l base D A mj_jI yX11_chain cX11_chain 5 (some .int) rm_X11_chain 0 0 [vR l0, vI l1, vI l2] M post := by
  refine mj_entry (by decide +kernel) (Nat.le_of_ble_eq_true rfl) (fun g hC hE h1 h2 h3 h4 => ?_)
  show mj_X g 0 [(0, vR l0), (1, vI l1), (2, vI l2)] [] M 0 0
  simp only [vc_X11_chain] at h
  refine mx_iload_n (j := 1) hC dX11_chain_0 rfl rfl ?_
  refine mx_callS (inj := mj_jB) (As := [vI l1]) (st := []) hC (ct_X11_isFloor l1 M _ h) ty_X11_isFloor tw515 rfl (Nat.le_of_ble_eq_true rfl) ⟨rfl, rfl, ⟨by decide, by decide⟩, by decide, by decide⟩ dX11_chain_1 (fun r10 M11 h => ?_)
  show mj_X g 4 [(0, vR l0), (1, vI l1), (2, vI l2)] [vI (mj_b r10)] M11 0 0
  refine mx_ifneB (tgt := 9) hC dX11_chain_4 (by decide) (fun hc12 => ?_) (fun hc12 => ?_)
  · replace h := mj_yy hc12 h
    refine mx_iconst (v := 0) hC dX11_chain_9 (by decide) ?_
    refine mx_istore_n (L' := [(3, vI 0), (0, vR l0), (1, vI l1), (2, vI l2)]) hC dX11_chain_10 rfl (by decide) rfl ?_
    refine mx_aload_n (j := 1) hC dX11_chain_11 rfl rfl ?_
    obtain ⟨ht13, h⟩ := h
    refine mx_get (v := vR (mj_r M11 l0 0)) hC tf_X11_10 ht13 rfl dX11_chain_12 ?_
    refine mx_null hC dX11_chain_15 ?_
    refine mx_iload_n (j := 2) hC dX11_chain_16 rfl rfl ?_
    obtain ⟨ht14, h⟩ := h
    refine mx_callV (inj := mj_jR) (As := [vR 0, vI l1]) (st := []) hC (ct_X4_nextOf (mj_r M11 l0 0) 0 l1 M11 _ h) ty_X4_nextOf tw518 ht14 rfl (Nat.le_of_ble_eq_true rfl) ⟨rfl, rfl, ⟨by decide, by decide⟩, by decide, by decide⟩ dX11_chain_17 (fun r15 M16 h => ?_)
    show mj_X g 20 [(3, vI 0), (0, vR l0), (1, vI l1), (2, vI l2)] [vR r15] M16 0 0
    refine mx_astore (L' := [(4, vR r15), (3, vI 0), (0, vR l0), (1, vI l1), (2, vI l2)]) hC dX11_chain_20 (by decide) rfl ?_
    refine mx_sub (L' := [(0, vR l0), (1, vI l1), (2, vI l2), (3, vI 0), (4, vR r15)]) [2, 3, 4, 1, 0] rfl ?_
    obtain ⟨fe, h⟩ := h
    exact show mj_X g 22 [(0, vR l0), (1, vI l1), (2, vI l2), (3, vI 0), (4, vR r15)] [] M16 0 0 from (xb_X11_chain_22 hC hE fe l0 l1 l2 0 r15 M16 h)
  · replace h := mj_nn hc12 h
    refine mx_iconst (v := (-1)) hC dX11_chain_7 (by decide) ?_
    exact mx_iret hC hE rfl dX11_chain_8 h
theorem tw47 : (Jvm.Cond.fieldLink "LeaseLand" (182 : Nat) "LeaseLand$Land" "homes" "[I") ∈ mj_tbl := mj_w 100 (by decide +kernel) (by decide +kernel)
theorem tf_X11_182 : mj_F 4 4 (.array .int) true "LeaseLand" 182 := ⟨_, tk4, by decide, rfl, rfl, rfl, tw47⟩
def rm_X11_live : Room := { frames := 1, cells := 0, slots := 0, locals := 20 }
theorem dX11_live_0 : decode cX11_live 0 = .ok (.iload_n 1, 1) := by decide +kernel
theorem dX11_live_1 : decode cX11_live 1 = .ok (.invokestatic 70, 3) := by decide +kernel
theorem dX11_live_4 : decode cX11_live 4 = .ok (.ifCond .eq 15, 3) := by decide +kernel
theorem dX11_live_7 : decode cX11_live 7 = .ok (.iload_n 2, 1) := by decide +kernel
theorem dX11_live_8 : decode cX11_live 8 = .ok (.iconst (-1), 1) := by decide +kernel
theorem dX11_live_9 : decode cX11_live 9 = .ok (.if_icmp .eq 12, 3) := by decide +kernel
theorem dX11_live_12 : decode cX11_live 12 = .ok (.iload_n 2, 1) := by decide +kernel
theorem dX11_live_13 : decode cX11_live 13 = .ok (.invokestatic 175, 3) := by decide +kernel
theorem dX11_live_16 : decode cX11_live 16 = .ok (.ifCond .ne 5, 3) := by decide +kernel
theorem dX11_live_19 : decode cX11_live 19 = .ok (.iconst (-1), 1) := by decide +kernel
theorem dX11_live_20 : decode cX11_live 20 = .ok (.ireturn, 1) := by decide +kernel
theorem dX11_live_21 : decode cX11_live 21 = .ok (.aload_n 0, 1) := by decide +kernel
theorem dX11_live_22 : decode cX11_live 22 = .ok (.getfield 10, 3) := by decide +kernel
theorem dX11_live_25 : decode cX11_live 25 = .ok (.getfield 182, 3) := by decide +kernel
theorem dX11_live_28 : decode cX11_live 28 = .ok (.iload_n 1, 1) := by decide +kernel
theorem dX11_live_29 : decode cX11_live 29 = .ok (.iaload, 1) := by decide +kernel
theorem dX11_live_30 : decode cX11_live 30 = .ok (.istore_n 3, 1) := by decide +kernel
theorem dX11_live_31 : decode cX11_live 31 = .ok (.aload_n 0, 1) := by decide +kernel
theorem dX11_live_32 : decode cX11_live 32 = .ok (.getfield 10, 3) := by decide +kernel
theorem dX11_live_35 : decode cX11_live 35 = .ok (.getfield 182, 3) := by decide +kernel
theorem dX11_live_38 : decode cX11_live 38 = .ok (.iload_n 1, 1) := by decide +kernel
theorem dX11_live_39 : decode cX11_live 39 = .ok (.iload_n 2, 1) := by decide +kernel
theorem dX11_live_40 : decode cX11_live 40 = .ok (.iconst (-1), 1) := by decide +kernel
theorem dX11_live_41 : decode cX11_live 41 = .ok (.if_icmp .ne 8, 3) := by decide +kernel
theorem dX11_live_44 : decode cX11_live 44 = .ok (.bipush (-6), 2) := by decide +kernel
theorem dX11_live_46 : decode cX11_live 46 = .ok (.goto 4, 3) := by decide +kernel
theorem dX11_live_49 : decode cX11_live 49 = .ok (.iload_n 2, 1) := by decide +kernel
theorem dX11_live_50 : decode cX11_live 50 = .ok (.iastore, 1) := by decide +kernel
theorem dX11_live_51 : decode cX11_live 51 = .ok (.iload_n 3, 1) := by decide +kernel
theorem dX11_live_52 : decode cX11_live 52 = .ok (.ireturn, 1) := by decide +kernel
def vb_X11_live_21 (post : Int32 → mj_M → Prop) (l0 : Nat) (l1 : Int32) (l2 : Int32) (M : mj_M) : Prop := mj_tag M l0 = 12 ∧ mj_tag M (mj_r M l0 0) = 5 ∧ mj_tag M (mj_r M (mj_r M l0 0) 4) = 101 ∧ vp_in l1 (mj_len M (mj_r M (mj_r M l0 0) 4)) ∧ if l2 = ((-1)) then (post (mj_i M (mj_r M (mj_r M l0 0) 4) (l1 : Int32).toNatClampNeg) (mj_wi M (mj_r M (mj_r M l0 0) 4) (l1 : Int32).toNatClampNeg ((-6)))) else (post (mj_i M (mj_r M (mj_r M l0 0) 4) (l1 : Int32).toNatClampNeg) (mj_wi M (mj_r M (mj_r M l0 0) 4) (l1 : Int32).toNatClampNeg l2))
def vc_X11_live (l0 : Nat) (l1 : Int32) (l2 : Int32) (M : mj_M) (post : Int32 → mj_M → Prop) : Prop := vc_X11_isPerson l1 M (fun r6 M7 => if r6 = true then (if l2 = ((-1)) then (vb_X11_live_21 post l0 l1 l2 M7) else (vc_X11_isFloor l2 M7 (fun r10 M11 => if r10 = true then (vb_X11_live_21 post l0 l1 l2 M11) else (post ((-1)) M11)))) else (post ((-1)) M7))
set_option maxHeartbeats 4000000 in
set_option maxRecDepth 100000 in
theorem xb_X11_live_21 {g : mj_G} {post : Int32 → mj_M → Prop} (hC : mj_C g yX11_live cX11_live 4 (some .int) rm_X11_live) (hE : mj_E g mj_jI post 0 0) (l0 : Nat) (l1 : Int32) (l2 : Int32) (M : mj_M) (h : vb_X11_live_21 post l0 l1 l2 M) : mj_X g 21 [(0, vR l0), (1, vI l1), (2, vI l2)] [] M 0 0 := by
  simp only [vb_X11_live_21] at h
  refine mx_aload_n (j := 0) hC dX11_live_21 rfl rfl ?_
  obtain ⟨ht1, h⟩ := h
  refine mx_get (v := vR (mj_r M l0 0)) hC tf_X11_10 ht1 rfl dX11_live_22 ?_
  obtain ⟨ht2, h⟩ := h
  refine mx_get (v := vR (mj_r M (mj_r M l0 0) 4)) hC tf_X11_182 ht2 rfl dX11_live_25 ?_
  refine mx_iload_n (j := 1) hC dX11_live_28 rfl rfl ?_
  obtain ⟨ht3, h⟩ := h
  obtain ⟨hi4, h⟩ := h
  refine mx_iaload hC ht3 hi4 dX11_live_29 ?_
  refine mx_istore_n (L' := [(3, vI (mj_i M (mj_r M (mj_r M l0 0) 4) (l1 : Int32).toNatClampNeg)), (0, vR l0), (1, vI l1), (2, vI l2)]) hC dX11_live_30 rfl (by decide) rfl ?_
  refine mx_aload_n (j := 1) hC dX11_live_31 rfl rfl ?_
  refine mx_get (v := vR (mj_r M l0 0)) hC tf_X11_10 ht1 rfl dX11_live_32 ?_
  refine mx_get (v := vR (mj_r M (mj_r M l0 0) 4)) hC tf_X11_182 ht2 rfl dX11_live_35 ?_
  refine mx_iload_n (j := 2) hC dX11_live_38 rfl rfl ?_
  refine mx_iload_n (j := 3) hC dX11_live_39 rfl rfl ?_
  refine mx_iconst (v := (-1)) hC dX11_live_40 (by decide) ?_
  refine mx_icmpne (tgt := 49) hC dX11_live_41 (by decide) (fun hc5 => ?_) (fun hc5 => ?_)
  · replace h := mj_nn hc5 h
    refine mx_iload_n (j := 3) hC dX11_live_49 rfl rfl ?_
    refine mx_iastore hC ht3 hi4 dX11_live_50 ?_
    refine mx_iload_n (j := 0) hC dX11_live_51 rfl rfl ?_
    exact mx_iret hC hE rfl dX11_live_52 h
  · replace h := mj_yy hc5 h
    refine mx_bipush (v := (-6)) hC dX11_live_44 (by decide) ?_
    refine mx_goto (tgt := 50) hC dX11_live_46 (by decide) ?_
    refine mx_iastore hC ht3 hi4 dX11_live_50 ?_
    refine mx_iload_n (j := 0) hC dX11_live_51 rfl rfl ?_
    exact mx_iret hC hE rfl dX11_live_52 h
set_option maxHeartbeats 4000000 in
set_option maxRecDepth 100000 in
theorem ct_X11_live {l : Launch} {base : Nat} {D : va_G} {A : ClassId × ClassId × ClassId} (l0 : Nat) (l1 : Int32) (l2 : Int32) (M : mj_M) (post : Int32 → mj_M → Prop) (h : vc_X11_live l0 l1 l2 M post) : mj_Met l base D A mj_jI yX11_live cX11_live 4 (some .int) rm_X11_live 0 0 [vR l0, vI l1, vI l2] M post := by
  refine mj_entry (by decide +kernel) (Nat.le_of_ble_eq_true rfl) (fun g hC hE h1 h2 h3 h4 => ?_)
  show mj_X g 0 [(0, vR l0), (1, vI l1), (2, vI l2)] [] M 0 0
  simp only [vc_X11_live] at h
  refine mx_iload_n (j := 1) hC dX11_live_0 rfl rfl ?_
  refine mx_callS (inj := mj_jB) (As := [vI l1]) (st := []) hC (ct_X11_isPerson l1 M _ h) ty_X11_isPerson tw298 rfl (Nat.le_of_ble_eq_true rfl) ⟨rfl, rfl, ⟨by decide, by decide⟩, by decide, by decide⟩ dX11_live_1 (fun r6 M7 h => ?_)
  show mj_X g 4 [(0, vR l0), (1, vI l1), (2, vI l2)] [vI (mj_b r6)] M7 0 0
  refine mx_ifeqB (tgt := 19) hC dX11_live_4 (by decide) (fun hc8 => ?_) (fun hc8 => ?_)
  · replace h := mj_nn hc8 h
    refine mx_iconst (v := (-1)) hC dX11_live_19 (by decide) ?_
    exact mx_iret hC hE rfl dX11_live_20 h
  · replace h := mj_yy hc8 h
    refine mx_iload_n (j := 2) hC dX11_live_7 rfl rfl ?_
    refine mx_iconst (v := (-1)) hC dX11_live_8 (by decide) ?_
    refine mx_icmpeq (tgt := 21) hC dX11_live_9 (by decide) (fun hc9 => ?_) (fun hc9 => ?_)
    · replace h := mj_yy hc9 h
      refine mx_sub (L' := [(0, vR l0), (1, vI l1), (2, vI l2)]) [0, 1, 2] rfl ?_
      exact show mj_X g 21 [(0, vR l0), (1, vI l1), (2, vI l2)] [] M7 0 0 from (xb_X11_live_21 hC hE l0 l1 l2 M7 h)
    · replace h := mj_nn hc9 h
      refine mx_iload_n (j := 2) hC dX11_live_12 rfl rfl ?_
      refine mx_callS (inj := mj_jB) (As := [vI l2]) (st := []) hC (ct_X11_isFloor l2 M7 _ h) ty_X11_isFloor tw515 rfl (Nat.le_of_ble_eq_true rfl) ⟨rfl, rfl, ⟨by decide, by decide⟩, by decide, by decide⟩ dX11_live_13 (fun r10 M11 h => ?_)
      show mj_X g 16 [(0, vR l0), (1, vI l1), (2, vI l2)] [vI (mj_b r10)] M11 0 0
      refine mx_ifneB (tgt := 21) hC dX11_live_16 (by decide) (fun hc12 => ?_) (fun hc12 => ?_)
      · replace h := mj_yy hc12 h
        refine mx_sub (L' := [(0, vR l0), (1, vI l1), (2, vI l2)]) [0, 1, 2] rfl ?_
        exact show mj_X g 21 [(0, vR l0), (1, vI l1), (2, vI l2)] [] M11 0 0 from (xb_X11_live_21 hC hE l0 l1 l2 M11 h)
      · replace h := mj_nn hc12 h
        refine mx_iconst (v := (-1)) hC dX11_live_19 (by decide) ?_
        exact mx_iret hC hE rfl dX11_live_20 h
theorem tw534 : (Jvm.Cond.constant "LeaseLand" (185 : Nat) (100000 : Int32)) ∈ mj_tbl := mj_w 587 (by decide +kernel) (by decide +kernel)
def rm_X11_rent : Room := { frames := 2, cells := 0, slots := 0, locals := 44 }
theorem dX11_rent_0 : decode cX11_rent 0 = .ok (.aload_n 0, 1) := by decide +kernel
theorem dX11_rent_1 : decode cX11_rent 1 = .ok (.getfield 10, 3) := by decide +kernel
theorem dX11_rent_4 : decode cX11_rent 4 = .ok (.iload_n 1, 1) := by decide +kernel
theorem dX11_rent_5 : decode cX11_rent 5 = .ok (.invokevirtual 121, 3) := by decide +kernel
theorem dX11_rent_8 : decode cX11_rent 8 = .ok (.astore 4, 2) := by decide +kernel
theorem dX11_rent_10 : decode cX11_rent 10 = .ok (.aload 4, 2) := by decide +kernel
theorem dX11_rent_12 : decode cX11_rent 12 = .ok (.ifnonnull 5, 3) := by decide +kernel
theorem dX11_rent_15 : decode cX11_rent 15 = .ok (.iconst (-1), 1) := by decide +kernel
theorem dX11_rent_16 : decode cX11_rent 16 = .ok (.ireturn, 1) := by decide +kernel
theorem dX11_rent_17 : decode cX11_rent 17 = .ok (.iload_n 2, 1) := by decide +kernel
theorem dX11_rent_18 : decode cX11_rent 18 = .ok (.ifCond .lt 19, 3) := by decide +kernel
theorem dX11_rent_21 : decode cX11_rent 21 = .ok (.iload_n 2, 1) := by decide +kernel
theorem dX11_rent_22 : decode cX11_rent 22 = .ok (.ldc 185, 2) := by decide +kernel
theorem dX11_rent_24 : decode cX11_rent 24 = .ok (.if_icmp .gt 13, 3) := by decide +kernel
theorem dX11_rent_27 : decode cX11_rent 27 = .ok (.iload_n 3, 1) := by decide +kernel
theorem dX11_rent_28 : decode cX11_rent 28 = .ok (.ifCond .lt 9, 3) := by decide +kernel
theorem dX11_rent_31 : decode cX11_rent 31 = .ok (.iload_n 3, 1) := by decide +kernel
theorem dX11_rent_32 : decode cX11_rent 32 = .ok (.bipush 100, 2) := by decide +kernel
theorem dX11_rent_34 : decode cX11_rent 34 = .ok (.if_icmp .le 6, 3) := by decide +kernel
theorem dX11_rent_37 : decode cX11_rent 37 = .ok (.bipush (-2), 2) := by decide +kernel
theorem dX11_rent_39 : decode cX11_rent 39 = .ok (.ireturn, 1) := by decide +kernel
theorem dX11_rent_40 : decode cX11_rent 40 = .ok (.aload 4, 2) := by decide +kernel
theorem dX11_rent_42 : decode cX11_rent 42 = .ok (.getfield 163, 3) := by decide +kernel
theorem dX11_rent_45 : decode cX11_rent 45 = .ok (.istore 5, 2) := by decide +kernel
theorem dX11_rent_47 : decode cX11_rent 47 = .ok (.aload 4, 2) := by decide +kernel
theorem dX11_rent_49 : decode cX11_rent 49 = .ok (.iload_n 2, 1) := by decide +kernel
theorem dX11_rent_50 : decode cX11_rent 50 = .ok (.putfield 163, 3) := by decide +kernel
theorem dX11_rent_53 : decode cX11_rent 53 = .ok (.aload 4, 2) := by decide +kernel
theorem dX11_rent_55 : decode cX11_rent 55 = .ok (.iload_n 3, 1) := by decide +kernel
theorem dX11_rent_56 : decode cX11_rent 56 = .ok (.putfield 166, 3) := by decide +kernel
theorem dX11_rent_59 : decode cX11_rent 59 = .ok (.iload 5, 2) := by decide +kernel
theorem dX11_rent_61 : decode cX11_rent 61 = .ok (.ireturn, 1) := by decide +kernel
def vc_X11_rent (l0 : Nat) (l1 : Int32) (l2 : Int32) (l3 : Int32) (M : mj_M) (post : Int32 → mj_M → Prop) : Prop := mj_tag M l0 = 12 ∧ mj_tag M (mj_r M l0 0) = 5 ∧ vc_X4_findLease (mj_r M l0 0) l1 M (fun r3 M4 => if r3 = 0 then (post ((-1)) M4) else (if l2 < 0 then (post ((-2)) M4) else (if 100000 < l2 then (post ((-2)) M4) else (if l3 < 0 then (post ((-2)) M4) else (if l3 ≤ 100 then (mj_tag M4 r3 = 4 ∧ post (mj_i M4 r3 10) (mj_wi (mj_wi M4 r3 10 l2) r3 11 l3)) else (post ((-2)) M4))))))
set_option maxHeartbeats 4000000 in
set_option maxRecDepth 100000 in
theorem ct_X11_rent {l : Launch} {base : Nat} {D : va_G} {A : ClassId × ClassId × ClassId} (l0 : Nat) (l1 : Int32) (l2 : Int32) (l3 : Int32) (M : mj_M) (post : Int32 → mj_M → Prop) (h : vc_X11_rent l0 l1 l2 l3 M post) : mj_Met l base D A mj_jI yX11_rent cX11_rent 6 (some .int) rm_X11_rent 0 0 [vR l0, vI l1, vI l2, vI l3] M post := by
  refine mj_entry (by decide +kernel) (Nat.le_of_ble_eq_true rfl) (fun g hC hE h1 h2 h3 h4 => ?_)
  show mj_X g 0 [(0, vR l0), (1, vI l1), (2, vI l2), (3, vI l3)] [] M 0 0
  simp only [vc_X11_rent] at h
  refine mx_aload_n (j := 0) hC dX11_rent_0 rfl rfl ?_
  obtain ⟨ht1, h⟩ := h
  refine mx_get (v := vR (mj_r M l0 0)) hC tf_X11_10 ht1 rfl dX11_rent_1 ?_
  refine mx_iload_n (j := 1) hC dX11_rent_4 rfl rfl ?_
  obtain ⟨ht2, h⟩ := h
  refine mx_callV (inj := mj_jR) (As := [vI l1]) (st := []) hC (ct_X4_findLease (mj_r M l0 0) l1 M _ h) ty_X4_findLease tw470 ht2 rfl (Nat.le_of_ble_eq_true rfl) ⟨rfl, rfl, ⟨by decide, by decide⟩, by decide, by decide⟩ dX11_rent_5 (fun r3 M4 h => ?_)
  show mj_X g 8 [(0, vR l0), (1, vI l1), (2, vI l2), (3, vI l3)] [vR r3] M4 0 0
  refine mx_astore (L' := [(4, vR r3), (0, vR l0), (1, vI l1), (2, vI l2), (3, vI l3)]) hC dX11_rent_8 (by decide) rfl ?_
  refine mx_aload (j := 0) hC dX11_rent_10 rfl ?_
  refine mx_ifnonnull (tgt := 17) hC dX11_rent_12 (by decide) (fun hc5 => ?_) (fun hc5 => ?_)
  · replace h := mj_nn hc5 h
    refine mx_iload_n (j := 3) hC dX11_rent_17 rfl rfl ?_
    refine mx_iflt (tgt := 37) hC dX11_rent_18 (by decide) (fun hc6 => ?_) (fun hc6 => ?_)
    · replace h := mj_yy hc6 h
      refine mx_bipush (v := (-2)) hC dX11_rent_37 (by decide) ?_
      exact mx_iret hC hE rfl dX11_rent_39 h
    · replace h := mj_nn hc6 h
      refine mx_iload_n (j := 3) hC dX11_rent_21 rfl rfl ?_
      refine mx_ldc (v := 100000) hC dX11_rent_22 tw534 ?_
      refine mx_icmpgt (tgt := 37) hC dX11_rent_24 (by decide) (fun hc7 => ?_) (fun hc7 => ?_)
      · replace h := mj_yy hc7 h
        refine mx_bipush (v := (-2)) hC dX11_rent_37 (by decide) ?_
        exact mx_iret hC hE rfl dX11_rent_39 h
      · replace h := mj_nn hc7 h
        refine mx_iload_n (j := 4) hC dX11_rent_27 rfl rfl ?_
        refine mx_iflt (tgt := 37) hC dX11_rent_28 (by decide) (fun hc8 => ?_) (fun hc8 => ?_)
        · replace h := mj_yy hc8 h
          refine mx_bipush (v := (-2)) hC dX11_rent_37 (by decide) ?_
          exact mx_iret hC hE rfl dX11_rent_39 h
        · replace h := mj_nn hc8 h
          refine mx_iload_n (j := 4) hC dX11_rent_31 rfl rfl ?_
          refine mx_bipush (v := 100) hC dX11_rent_32 (by decide) ?_
          refine mx_icmple (tgt := 40) hC dX11_rent_34 (by decide) (fun hc9 => ?_) (fun hc9 => ?_)
          · replace h := mj_yy hc9 h
            refine mx_aload (j := 0) hC dX11_rent_40 rfl ?_
            obtain ⟨ht10, h⟩ := h
            refine mx_get (v := vI (mj_i M4 r3 10)) hC tf_X11_163 ht10 rfl dX11_rent_42 ?_
            refine mx_istore (L' := [(5, vI (mj_i M4 r3 10)), (4, vR r3), (0, vR l0), (1, vI l1), (2, vI l2), (3, vI l3)]) hC dX11_rent_45 (by decide) rfl ?_
            refine mx_aload (j := 1) hC dX11_rent_47 rfl ?_
            refine mx_iload_n (j := 4) hC dX11_rent_49 rfl rfl ?_
            refine mx_put (v := vI l2) (M1 := mj_wi M4 r3 10 l2) hC tf_X11_163 ht10 (Or.inl rfl) ⟨rfl, rfl⟩ (mj_off_wi _ _ _ _) mj_put_wi dX11_rent_50 ?_
            refine mx_aload (j := 1) hC dX11_rent_53 rfl ?_
            refine mx_iload_n (j := 5) hC dX11_rent_55 rfl rfl ?_
            refine mx_put (v := vI l3) (M1 := mj_wi (mj_wi M4 r3 10 l2) r3 11 l3) hC tf_X11_166 ht10 (Or.inl rfl) ⟨rfl, rfl⟩ (mj_off_wi _ _ _ _) mj_put_wi dX11_rent_56 ?_
            refine mx_iload (j := 0) hC dX11_rent_59 rfl ?_
            exact mx_iret hC hE rfl dX11_rent_61 h
          · replace h := mj_nn hc9 h
            refine mx_bipush (v := (-2)) hC dX11_rent_37 (by decide) ?_
            exact mx_iret hC hE rfl dX11_rent_39 h
  · replace h := mj_yy hc5 h
    refine mx_iconst (v := (-1)) hC dX11_rent_15 (by decide) ?_
    exact mx_iret hC hE rfl dX11_rent_16 h
theorem tw539 : (Jvm.Cond.methodLink "LeaseLand" (186 : Nat) ({ cls := "LeaseLand$Holding", name := "rateOn", desc := "(I)I" } : Jvm.MethodName)) ∈ mj_tbl := mj_w 592 (by decide +kernel) (by decide +kernel)
def rm_X11_rate : Room := { frames := 3, cells := 0, slots := 0, locals := 63 }
theorem dX11_rate_0 : decode cX11_rate 0 = .ok (.aload_n 0, 1) := by decide +kernel
theorem dX11_rate_1 : decode cX11_rate 1 = .ok (.getfield 10, 3) := by decide +kernel
theorem dX11_rate_4 : decode cX11_rate 4 = .ok (.iload_n 1, 1) := by decide +kernel
theorem dX11_rate_5 : decode cX11_rate 5 = .ok (.invokevirtual 93, 3) := by decide +kernel
theorem dX11_rate_8 : decode cX11_rate 8 = .ok (.astore_n 3, 1) := by decide +kernel
theorem dX11_rate_9 : decode cX11_rate 9 = .ok (.aload_n 3, 1) := by decide +kernel
theorem dX11_rate_10 : decode cX11_rate 10 = .ok (.ifnonnull 5, 3) := by decide +kernel
theorem dX11_rate_13 : decode cX11_rate 13 = .ok (.iconst (-1), 1) := by decide +kernel
theorem dX11_rate_14 : decode cX11_rate 14 = .ok (.ireturn, 1) := by decide +kernel
theorem dX11_rate_15 : decode cX11_rate 15 = .ok (.iload_n 2, 1) := by decide +kernel
theorem dX11_rate_16 : decode cX11_rate 16 = .ok (.invokestatic 62, 3) := by decide +kernel
theorem dX11_rate_19 : decode cX11_rate 19 = .ok (.ifCond .eq 11, 3) := by decide +kernel
theorem dX11_rate_22 : decode cX11_rate 22 = .ok (.aload_n 3, 1) := by decide +kernel
theorem dX11_rate_23 : decode cX11_rate 23 = .ok (.iload_n 2, 1) := by decide +kernel
theorem dX11_rate_24 : decode cX11_rate 24 = .ok (.invokevirtual 186, 3) := by decide +kernel
theorem dX11_rate_27 : decode cX11_rate 27 = .ok (.goto 5, 3) := by decide +kernel
theorem dX11_rate_30 : decode cX11_rate 30 = .ok (.bipush (-2), 2) := by decide +kernel
theorem dX11_rate_32 : decode cX11_rate 32 = .ok (.ireturn, 1) := by decide +kernel
def vc_X11_rate (l0 : Nat) (l1 : Int32) (l2 : Int32) (M : mj_M) (post : Int32 → mj_M → Prop) : Prop := mj_tag M l0 = 12 ∧ mj_tag M (mj_r M l0 0) = 5 ∧ vc_X4_find (mj_r M l0 0) l1 M (fun r3 M4 => if r3 = 0 then (post ((-1)) M4) else (vc_X11_isDay l2 M4 (fun r6 M7 => if r6 = true then (mj_tag M7 r3 = 4 ∧ vc_X3_rateOn r3 l2 M7 (fun r10 M11 => post r10 M11)) else (post ((-2)) M7))))
set_option maxHeartbeats 4000000 in
set_option maxRecDepth 100000 in
theorem ct_X11_rate {l : Launch} {base : Nat} {D : va_G} {A : ClassId × ClassId × ClassId} (l0 : Nat) (l1 : Int32) (l2 : Int32) (M : mj_M) (post : Int32 → mj_M → Prop) (h : vc_X11_rate l0 l1 l2 M post) : mj_Met l base D A mj_jI yX11_rate cX11_rate 4 (some .int) rm_X11_rate 0 0 [vR l0, vI l1, vI l2] M post := by
  refine mj_entry (by decide +kernel) (Nat.le_of_ble_eq_true rfl) (fun g hC hE h1 h2 h3 h4 => ?_)
  show mj_X g 0 [(0, vR l0), (1, vI l1), (2, vI l2)] [] M 0 0
  simp only [vc_X11_rate] at h
  refine mx_aload_n (j := 0) hC dX11_rate_0 rfl rfl ?_
  obtain ⟨ht1, h⟩ := h
  refine mx_get (v := vR (mj_r M l0 0)) hC tf_X11_10 ht1 rfl dX11_rate_1 ?_
  refine mx_iload_n (j := 1) hC dX11_rate_4 rfl rfl ?_
  obtain ⟨ht2, h⟩ := h
  refine mx_callV (inj := mj_jR) (As := [vI l1]) (st := []) hC (ct_X4_find (mj_r M l0 0) l1 M _ h) ty_X4_find tw397 ht2 rfl (Nat.le_of_ble_eq_true rfl) ⟨rfl, rfl, ⟨by decide, by decide⟩, by decide, by decide⟩ dX11_rate_5 (fun r3 M4 h => ?_)
  show mj_X g 8 [(0, vR l0), (1, vI l1), (2, vI l2)] [vR r3] M4 0 0
  refine mx_astore_n (L' := [(3, vR r3), (0, vR l0), (1, vI l1), (2, vI l2)]) hC dX11_rate_8 rfl (by decide) rfl ?_
  refine mx_aload_n (j := 0) hC dX11_rate_9 rfl rfl ?_
  refine mx_ifnonnull (tgt := 15) hC dX11_rate_10 (by decide) (fun hc5 => ?_) (fun hc5 => ?_)
  · replace h := mj_nn hc5 h
    refine mx_iload_n (j := 3) hC dX11_rate_15 rfl rfl ?_
    refine mx_callS (inj := mj_jB) (As := [vI l2]) (st := []) hC (ct_X11_isDay l2 M4 _ h) ty_X11_isDay tw290 rfl (Nat.le_of_ble_eq_true rfl) ⟨rfl, rfl, ⟨by decide, by decide⟩, by decide, by decide⟩ dX11_rate_16 (fun r6 M7 h => ?_)
    show mj_X g 19 [(3, vR r3), (0, vR l0), (1, vI l1), (2, vI l2)] [vI (mj_b r6)] M7 0 0
    refine mx_ifeqB (tgt := 30) hC dX11_rate_19 (by decide) (fun hc8 => ?_) (fun hc8 => ?_)
    · replace h := mj_nn hc8 h
      refine mx_bipush (v := (-2)) hC dX11_rate_30 (by decide) ?_
      exact mx_iret hC hE rfl dX11_rate_32 h
    · replace h := mj_yy hc8 h
      refine mx_aload_n (j := 0) hC dX11_rate_22 rfl rfl ?_
      refine mx_iload_n (j := 3) hC dX11_rate_23 rfl rfl ?_
      obtain ⟨ht9, h⟩ := h
      refine mx_callV (inj := mj_jI) (As := [vI l2]) (st := []) hC (ct_X3_rateOn r3 l2 M7 _ h) ty_X3_rateOn tw539 ht9 rfl (Nat.le_of_ble_eq_true rfl) ⟨rfl, rfl, ⟨by decide, by decide⟩, by decide, by decide⟩ dX11_rate_24 (fun r10 M11 h => ?_)
      show mj_X g 27 [(3, vR r3), (0, vR l0), (1, vI l1), (2, vI l2)] [vI r10] M11 0 0
      refine mx_goto (tgt := 32) hC dX11_rate_27 (by decide) ?_
      exact mx_iret hC hE rfl dX11_rate_32 h
  · replace h := mj_yy hc5 h
    refine mx_iconst (v := (-1)) hC dX11_rate_13 (by decide) ?_
    exact mx_iret hC hE rfl dX11_rate_14 h
theorem tw551 : (Jvm.Cond.constantLong "LeaseLand" (441 : Nat) (-1000000000000000 : Int64)) ∈ mj_tbl := mj_w 604 (by decide +kernel) (by decide +kernel)
def rm_X11_lost : Room := { frames := 0, cells := 0, slots := 0, locals := 0 }
theorem dX11_lost_0 : decode cX11_lost 0 = .ok (.ldc2_w 441, 3) := by decide +kernel
theorem dX11_lost_3 : decode cX11_lost 3 = .ok (.iload_n 0, 1) := by decide +kernel
theorem dX11_lost_4 : decode cX11_lost 4 = .ok (.i2l, 1) := by decide +kernel
theorem dX11_lost_5 : decode cX11_lost 5 = .ok (.ladd, 1) := by decide +kernel
theorem dX11_lost_6 : decode cX11_lost 6 = .ok (.lreturn, 1) := by decide +kernel
def vc_X11_lost (l0 : Int32) (M : mj_M) (post : Int64 → mj_M → Prop) : Prop := post (((-1000000000000000)) + ((l0 : Int32).toInt64)) M
set_option maxHeartbeats 4000000 in
set_option maxRecDepth 100000 in
theorem ct_X11_lost {l : Launch} {base : Nat} {D : va_G} {A : ClassId × ClassId × ClassId} (l0 : Int32) (M : mj_M) (post : Int64 → mj_M → Prop) (h : vc_X11_lost l0 M post) : mj_Met l base D A mj_jL yX11_lost cX11_lost 1 (some .long) rm_X11_lost 0 0 [vI l0] M post := by
  refine mj_entry (by decide +kernel) (Nat.le_of_ble_eq_true rfl) (fun g hC hE h1 h2 h3 h4 => ?_)
  show mj_X g 0 [(0, vI l0)] [] M 0 0
  simp only [vc_X11_lost] at h
  refine mx_ldc2 (v := (-1000000000000000)) hC dX11_lost_0 tw551 ?_
  refine mx_iload_n (j := 0) hC dX11_lost_3 rfl rfl ?_
  refine mx_i2l hC dX11_lost_4 ?_
  refine mx_ladd hC dX11_lost_5 ?_
  exact mx_lret hC hE rfl dX11_lost_6 h
theorem tw548 : (Jvm.Cond.methodLink "LeaseLand" (190 : Nat) ({ cls := "LeaseLand", name := "lost", desc := "(I)J" } : Jvm.MethodName)) ∈ mj_tbl := mj_w 601 (by decide +kernel) (by decide +kernel)
theorem tw552 : (Jvm.Cond.methodLink "LeaseLand" (194 : Nat) ({ cls := "LeaseLand$Holding", name := "owedOver", desc := "(II)J" } : Jvm.MethodName)) ∈ mj_tbl := mj_w 605 (by decide +kernel) (by decide +kernel)
theorem tw550 : (Jvm.Cond.code ({ cls := "LeaseLand", name := "lost", desc := "(I)J" } : Jvm.MethodName) prog_1_method_70_code (1 : Nat) (Option.some Jvm.ClassFile.FieldType.long)) ∈ mj_tbl := mj_w 603 (by decide +kernel) (by decide +kernel)
theorem tw549 : (Jvm.Cond.static ({ cls := "LeaseLand", name := "lost", desc := "(I)J" } : Jvm.MethodName)) ∈ mj_tbl := mj_w 602 (by decide +kernel) (by decide +kernel)
theorem ty_X11_lost : mj_YS yX11_lost cX11_lost 1 (some .long) 1 := ⟨⟨tw550, tw1, by decide +kernel, by decide +kernel, by decide +kernel⟩, tw549⟩
theorem tw555 : (Jvm.Cond.code ({ cls := "LeaseLand$Holding", name := "owedOver", desc := "(II)J" } : Jvm.MethodName) prog_5_method_10_code (12 : Nat) (Option.some Jvm.ClassFile.FieldType.long)) ∈ mj_tbl := mj_w 608 (by decide +kernel) (by decide +kernel)
theorem tw553 : (Jvm.Cond.instanceMethod ({ cls := "LeaseLand$Holding", name := "owedOver", desc := "(II)J" } : Jvm.MethodName)) ∈ mj_tbl := mj_w 606 (by decide +kernel) (by decide +kernel)
theorem tw554 : (Jvm.Cond.selects "LeaseLand$Holding" ({ cls := "LeaseLand$Holding", name := "owedOver", desc := "(II)J" } : Jvm.MethodName) ({ cls := "LeaseLand$Holding", name := "owedOver", desc := "(II)J" } : Jvm.MethodName)) ∈ mj_tbl := mj_w 607 (by decide +kernel) (by decide +kernel)
theorem ty_X3_owedOver : mj_YV 3 yX3_owedOver cX3_owedOver 12 (some .long) 2 := ⟨⟨tw555, tw12, by decide +kernel, by decide +kernel, by decide +kernel⟩, tw553, tw554, _, rfl, rfl⟩
def rm_X11_owed : Room := { frames := 2, cells := 0, slots := 0, locals := 52 }
theorem dX11_owed_0 : decode cX11_owed 0 = .ok (.aload_n 0, 1) := by decide +kernel
theorem dX11_owed_1 : decode cX11_owed 1 = .ok (.getfield 10, 3) := by decide +kernel
theorem dX11_owed_4 : decode cX11_owed 4 = .ok (.iload_n 1, 1) := by decide +kernel
theorem dX11_owed_5 : decode cX11_owed 5 = .ok (.invokevirtual 93, 3) := by decide +kernel
theorem dX11_owed_8 : decode cX11_owed 8 = .ok (.astore 4, 2) := by decide +kernel
theorem dX11_owed_10 : decode cX11_owed 10 = .ok (.aload 4, 2) := by decide +kernel
theorem dX11_owed_12 : decode cX11_owed 12 = .ok (.ifnonnull 8, 3) := by decide +kernel
theorem dX11_owed_15 : decode cX11_owed 15 = .ok (.iconst (-1), 1) := by decide +kernel
theorem dX11_owed_16 : decode cX11_owed 16 = .ok (.invokestatic 190, 3) := by decide +kernel
theorem dX11_owed_19 : decode cX11_owed 19 = .ok (.lreturn, 1) := by decide +kernel
theorem dX11_owed_20 : decode cX11_owed 20 = .ok (.iload_n 2, 1) := by decide +kernel
theorem dX11_owed_21 : decode cX11_owed 21 = .ok (.invokestatic 62, 3) := by decide +kernel
theorem dX11_owed_24 : decode cX11_owed 24 = .ok (.ifCond .eq 15, 3) := by decide +kernel
theorem dX11_owed_27 : decode cX11_owed 27 = .ok (.iload_n 3, 1) := by decide +kernel
theorem dX11_owed_28 : decode cX11_owed 28 = .ok (.invokestatic 62, 3) := by decide +kernel
theorem dX11_owed_31 : decode cX11_owed 31 = .ok (.ifCond .eq 8, 3) := by decide +kernel
theorem dX11_owed_34 : decode cX11_owed 34 = .ok (.iload_n 2, 1) := by decide +kernel
theorem dX11_owed_35 : decode cX11_owed 35 = .ok (.iload_n 3, 1) := by decide +kernel
theorem dX11_owed_36 : decode cX11_owed 36 = .ok (.if_icmp .le 9, 3) := by decide +kernel
theorem dX11_owed_39 : decode cX11_owed 39 = .ok (.bipush (-2), 2) := by decide +kernel
theorem dX11_owed_41 : decode cX11_owed 41 = .ok (.invokestatic 190, 3) := by decide +kernel
theorem dX11_owed_44 : decode cX11_owed 44 = .ok (.lreturn, 1) := by decide +kernel
theorem dX11_owed_45 : decode cX11_owed 45 = .ok (.aload 4, 2) := by decide +kernel
theorem dX11_owed_47 : decode cX11_owed 47 = .ok (.iload_n 2, 1) := by decide +kernel
theorem dX11_owed_48 : decode cX11_owed 48 = .ok (.iload_n 3, 1) := by decide +kernel
theorem dX11_owed_49 : decode cX11_owed 49 = .ok (.invokevirtual 194, 3) := by decide +kernel
theorem dX11_owed_52 : decode cX11_owed 52 = .ok (.lreturn, 1) := by decide +kernel
def vb_X11_owed_39 (post : Int64 → mj_M → Prop) (M : mj_M) : Prop := vc_X11_lost ((-2)) M (fun r1 M2 => post r1 M2)
def vc_X11_owed (l0 : Nat) (l1 : Int32) (l2 : Int32) (l3 : Int32) (M : mj_M) (post : Int64 → mj_M → Prop) : Prop := mj_tag M l0 = 12 ∧ mj_tag M (mj_r M l0 0) = 5 ∧ vc_X4_find (mj_r M l0 0) l1 M (fun r5 M6 => if r5 = 0 then (vc_X11_lost ((-1)) M6 (fun r18 M19 => post r18 M19)) else (vc_X11_isDay l2 M6 (fun r8 M9 => if r8 = true then (vc_X11_isDay l3 M9 (fun r11 M12 => if r11 = true then (if l2 ≤ l3 then (mj_tag M12 r5 = 4 ∧ vc_X3_owedOver r5 l2 l3 M12 (fun r16 M17 => post r16 M17)) else (vb_X11_owed_39 post M12)) else (vb_X11_owed_39 post M12))) else (vb_X11_owed_39 post M9))))
set_option maxHeartbeats 4000000 in
set_option maxRecDepth 100000 in
theorem xb_X11_owed_39 {g : mj_G} {post : Int64 → mj_M → Prop} (hC : mj_C g yX11_owed cX11_owed 5 (some .long) rm_X11_owed) (hE : mj_E g mj_jL post 0 0) (M : mj_M) (h : vb_X11_owed_39 post M) : mj_X g 39 [] [] M 0 0 := by
  simp only [vb_X11_owed_39] at h
  refine mx_bipush (v := (-2)) hC dX11_owed_39 (by decide) ?_
  refine mx_callS (inj := mj_jL) (As := [vI ((-2))]) (st := []) hC (ct_X11_lost ((-2)) M _ h) ty_X11_lost tw548 rfl (Nat.le_of_ble_eq_true rfl) ⟨rfl, rfl, ⟨by decide, by decide⟩, by decide, by decide⟩ dX11_owed_41 (fun r1 M2 h => ?_)
  show mj_X g 44 [] [vL r1] M2 0 0
  exact mx_lret hC hE rfl dX11_owed_44 h
set_option maxHeartbeats 4000000 in
set_option maxRecDepth 100000 in
theorem ct_X11_owed {l : Launch} {base : Nat} {D : va_G} {A : ClassId × ClassId × ClassId} (l0 : Nat) (l1 : Int32) (l2 : Int32) (l3 : Int32) (M : mj_M) (post : Int64 → mj_M → Prop) (h : vc_X11_owed l0 l1 l2 l3 M post) : mj_Met l base D A mj_jL yX11_owed cX11_owed 5 (some .long) rm_X11_owed 0 0 [vR l0, vI l1, vI l2, vI l3] M post := by
  refine mj_entry (by decide +kernel) (Nat.le_of_ble_eq_true rfl) (fun g hC hE h1 h2 h3 h4 => ?_)
  show mj_X g 0 [(0, vR l0), (1, vI l1), (2, vI l2), (3, vI l3)] [] M 0 0
  simp only [vc_X11_owed] at h
  refine mx_aload_n (j := 0) hC dX11_owed_0 rfl rfl ?_
  obtain ⟨ht3, h⟩ := h
  refine mx_get (v := vR (mj_r M l0 0)) hC tf_X11_10 ht3 rfl dX11_owed_1 ?_
  refine mx_iload_n (j := 1) hC dX11_owed_4 rfl rfl ?_
  obtain ⟨ht4, h⟩ := h
  refine mx_callV (inj := mj_jR) (As := [vI l1]) (st := []) hC (ct_X4_find (mj_r M l0 0) l1 M _ h) ty_X4_find tw397 ht4 rfl (Nat.le_of_ble_eq_true rfl) ⟨rfl, rfl, ⟨by decide, by decide⟩, by decide, by decide⟩ dX11_owed_5 (fun r5 M6 h => ?_)
  show mj_X g 8 [(0, vR l0), (1, vI l1), (2, vI l2), (3, vI l3)] [vR r5] M6 0 0
  refine mx_astore (L' := [(4, vR r5), (0, vR l0), (1, vI l1), (2, vI l2), (3, vI l3)]) hC dX11_owed_8 (by decide) rfl ?_
  refine mx_aload (j := 0) hC dX11_owed_10 rfl ?_
  refine mx_ifnonnull (tgt := 20) hC dX11_owed_12 (by decide) (fun hc7 => ?_) (fun hc7 => ?_)
  · replace h := mj_nn hc7 h
    refine mx_iload_n (j := 3) hC dX11_owed_20 rfl rfl ?_
    refine mx_callS (inj := mj_jB) (As := [vI l2]) (st := []) hC (ct_X11_isDay l2 M6 _ h) ty_X11_isDay tw290 rfl (Nat.le_of_ble_eq_true rfl) ⟨rfl, rfl, ⟨by decide, by decide⟩, by decide, by decide⟩ dX11_owed_21 (fun r8 M9 h => ?_)
    show mj_X g 24 [(4, vR r5), (0, vR l0), (1, vI l1), (2, vI l2), (3, vI l3)] [vI (mj_b r8)] M9 0 0
    refine mx_ifeqB (tgt := 39) hC dX11_owed_24 (by decide) (fun hc10 => ?_) (fun hc10 => ?_)
    · replace h := mj_nn hc10 h
      refine mx_sub (L' := []) [] rfl ?_
      exact show mj_X g 39 [] [] M9 0 0 from (xb_X11_owed_39 hC hE M9 h)
    · replace h := mj_yy hc10 h
      refine mx_iload_n (j := 4) hC dX11_owed_27 rfl rfl ?_
      refine mx_callS (inj := mj_jB) (As := [vI l3]) (st := []) hC (ct_X11_isDay l3 M9 _ h) ty_X11_isDay tw290 rfl (Nat.le_of_ble_eq_true rfl) ⟨rfl, rfl, ⟨by decide, by decide⟩, by decide, by decide⟩ dX11_owed_28 (fun r11 M12 h => ?_)
      show mj_X g 31 [(4, vR r5), (0, vR l0), (1, vI l1), (2, vI l2), (3, vI l3)] [vI (mj_b r11)] M12 0 0
      refine mx_ifeqB (tgt := 39) hC dX11_owed_31 (by decide) (fun hc13 => ?_) (fun hc13 => ?_)
      · replace h := mj_nn hc13 h
        refine mx_sub (L' := []) [] rfl ?_
        exact show mj_X g 39 [] [] M12 0 0 from (xb_X11_owed_39 hC hE M12 h)
      · replace h := mj_yy hc13 h
        refine mx_iload_n (j := 3) hC dX11_owed_34 rfl rfl ?_
        refine mx_iload_n (j := 4) hC dX11_owed_35 rfl rfl ?_
        refine mx_icmple (tgt := 45) hC dX11_owed_36 (by decide) (fun hc14 => ?_) (fun hc14 => ?_)
        · replace h := mj_yy hc14 h
          refine mx_aload (j := 0) hC dX11_owed_45 rfl ?_
          refine mx_iload_n (j := 3) hC dX11_owed_47 rfl rfl ?_
          refine mx_iload_n (j := 4) hC dX11_owed_48 rfl rfl ?_
          obtain ⟨ht15, h⟩ := h
          refine mx_callV (inj := mj_jL) (As := [vI l2, vI l3]) (st := []) hC (ct_X3_owedOver r5 l2 l3 M12 _ h) ty_X3_owedOver tw552 ht15 rfl (Nat.le_of_ble_eq_true rfl) ⟨rfl, rfl, ⟨by decide, by decide⟩, by decide, by decide⟩ dX11_owed_49 (fun r16 M17 h => ?_)
          show mj_X g 52 [(4, vR r5), (0, vR l0), (1, vI l1), (2, vI l2), (3, vI l3)] [vL r16] M17 0 0
          exact mx_lret hC hE rfl dX11_owed_52 h
        · replace h := mj_nn hc14 h
          refine mx_sub (L' := []) [] rfl ?_
          exact show mj_X g 39 [] [] M12 0 0 from (xb_X11_owed_39 hC hE M12 h)
  · replace h := mj_yy hc7 h
    refine mx_iconst (v := (-1)) hC dX11_owed_15 (by decide) ?_
    refine mx_callS (inj := mj_jL) (As := [vI ((-1))]) (st := []) hC (ct_X11_lost ((-1)) M6 _ h) ty_X11_lost tw548 rfl (Nat.le_of_ble_eq_true rfl) ⟨rfl, rfl, ⟨by decide, by decide⟩, by decide, by decide⟩ dX11_owed_16 (fun r18 M19 h => ?_)
    show mj_X g 19 [(4, vR r5), (0, vR l0), (1, vI l1), (2, vI l2), (3, vI l3)] [vL r18] M19 0 0
    exact mx_lret hC hE rfl dX11_owed_19 h
theorem tw49 : (Jvm.Cond.fieldLink "LeaseLand" (198 : Nat) "LeaseLand$Land" "weights" "[I") ∈ mj_tbl := mj_w 102 (by decide +kernel) (by decide +kernel)
theorem tf_X11_198 : mj_F 4 5 (.array .int) true "LeaseLand" 198 := ⟨_, tk4, by decide, rfl, rfl, rfl, tw49⟩
def rm_X11_weight : Room := { frames := 1, cells := 0, slots := 0, locals := 20 }
theorem dX11_weight_0 : decode cX11_weight 0 = .ok (.iload_n 1, 1) := by decide +kernel
theorem dX11_weight_1 : decode cX11_weight 1 = .ok (.invokestatic 175, 3) := by decide +kernel
theorem dX11_weight_4 : decode cX11_weight 4 = .ok (.ifCond .ne 5, 3) := by decide +kernel
theorem dX11_weight_7 : decode cX11_weight 7 = .ok (.iconst (-1), 1) := by decide +kernel
theorem dX11_weight_8 : decode cX11_weight 8 = .ok (.ireturn, 1) := by decide +kernel
theorem dX11_weight_9 : decode cX11_weight 9 = .ok (.iload_n 2, 1) := by decide +kernel
theorem dX11_weight_10 : decode cX11_weight 10 = .ok (.iconst 1, 1) := by decide +kernel
theorem dX11_weight_11 : decode cX11_weight 11 = .ok (.if_icmp .lt 9, 3) := by decide +kernel
theorem dX11_weight_14 : decode cX11_weight 14 = .ok (.iload_n 2, 1) := by decide +kernel
theorem dX11_weight_15 : decode cX11_weight 15 = .ok (.bipush 100, 2) := by decide +kernel
theorem dX11_weight_17 : decode cX11_weight 17 = .ok (.if_icmp .le 6, 3) := by decide +kernel
theorem dX11_weight_20 : decode cX11_weight 20 = .ok (.bipush (-2), 2) := by decide +kernel
theorem dX11_weight_22 : decode cX11_weight 22 = .ok (.ireturn, 1) := by decide +kernel
theorem dX11_weight_23 : decode cX11_weight 23 = .ok (.aload_n 0, 1) := by decide +kernel
theorem dX11_weight_24 : decode cX11_weight 24 = .ok (.getfield 10, 3) := by decide +kernel
theorem dX11_weight_27 : decode cX11_weight 27 = .ok (.getfield 198, 3) := by decide +kernel
theorem dX11_weight_30 : decode cX11_weight 30 = .ok (.iload_n 1, 1) := by decide +kernel
theorem dX11_weight_31 : decode cX11_weight 31 = .ok (.iaload, 1) := by decide +kernel
theorem dX11_weight_32 : decode cX11_weight 32 = .ok (.istore_n 3, 1) := by decide +kernel
theorem dX11_weight_33 : decode cX11_weight 33 = .ok (.aload_n 0, 1) := by decide +kernel
theorem dX11_weight_34 : decode cX11_weight 34 = .ok (.getfield 10, 3) := by decide +kernel
theorem dX11_weight_37 : decode cX11_weight 37 = .ok (.getfield 198, 3) := by decide +kernel
theorem dX11_weight_40 : decode cX11_weight 40 = .ok (.iload_n 1, 1) := by decide +kernel
theorem dX11_weight_41 : decode cX11_weight 41 = .ok (.iload_n 2, 1) := by decide +kernel
theorem dX11_weight_42 : decode cX11_weight 42 = .ok (.iastore, 1) := by decide +kernel
theorem dX11_weight_43 : decode cX11_weight 43 = .ok (.iload_n 3, 1) := by decide +kernel
theorem dX11_weight_44 : decode cX11_weight 44 = .ok (.ireturn, 1) := by decide +kernel
def vc_X11_weight (l0 : Nat) (l1 : Int32) (l2 : Int32) (M : mj_M) (post : Int32 → mj_M → Prop) : Prop := vc_X11_isFloor l1 M (fun r1 M2 => if r1 = true then (if l2 < 1 then (post ((-2)) M2) else (if l2 ≤ 100 then (mj_tag M2 l0 = 12 ∧ mj_tag M2 (mj_r M2 l0 0) = 5 ∧ mj_tag M2 (mj_r M2 (mj_r M2 l0 0) 5) = 101 ∧ vp_in l1 (mj_len M2 (mj_r M2 (mj_r M2 l0 0) 5)) ∧ post (mj_i M2 (mj_r M2 (mj_r M2 l0 0) 5) (l1 : Int32).toNatClampNeg) (mj_wi M2 (mj_r M2 (mj_r M2 l0 0) 5) (l1 : Int32).toNatClampNeg l2)) else (post ((-2)) M2))) else (post ((-1)) M2))
set_option maxHeartbeats 4000000 in
set_option maxRecDepth 100000 in
theorem ct_X11_weight {l : Launch} {base : Nat} {D : va_G} {A : ClassId × ClassId × ClassId} (l0 : Nat) (l1 : Int32) (l2 : Int32) (M : mj_M) (post : Int32 → mj_M → Prop) (h : vc_X11_weight l0 l1 l2 M post) : mj_Met l base D A mj_jI yX11_weight cX11_weight 4 (some .int) rm_X11_weight 0 0 [vR l0, vI l1, vI l2] M post := by
  refine mj_entry (by decide +kernel) (Nat.le_of_ble_eq_true rfl) (fun g hC hE h1 h2 h3 h4 => ?_)
  show mj_X g 0 [(0, vR l0), (1, vI l1), (2, vI l2)] [] M 0 0
  simp only [vc_X11_weight] at h
  refine mx_iload_n (j := 1) hC dX11_weight_0 rfl rfl ?_
  refine mx_callS (inj := mj_jB) (As := [vI l1]) (st := []) hC (ct_X11_isFloor l1 M _ h) ty_X11_isFloor tw515 rfl (Nat.le_of_ble_eq_true rfl) ⟨rfl, rfl, ⟨by decide, by decide⟩, by decide, by decide⟩ dX11_weight_1 (fun r1 M2 h => ?_)
  show mj_X g 4 [(0, vR l0), (1, vI l1), (2, vI l2)] [vI (mj_b r1)] M2 0 0
  refine mx_ifneB (tgt := 9) hC dX11_weight_4 (by decide) (fun hc3 => ?_) (fun hc3 => ?_)
  · replace h := mj_yy hc3 h
    refine mx_iload_n (j := 2) hC dX11_weight_9 rfl rfl ?_
    refine mx_iconst (v := 1) hC dX11_weight_10 (by decide) ?_
    refine mx_icmplt (tgt := 20) hC dX11_weight_11 (by decide) (fun hc4 => ?_) (fun hc4 => ?_)
    · replace h := mj_yy hc4 h
      refine mx_bipush (v := (-2)) hC dX11_weight_20 (by decide) ?_
      exact mx_iret hC hE rfl dX11_weight_22 h
    · replace h := mj_nn hc4 h
      refine mx_iload_n (j := 2) hC dX11_weight_14 rfl rfl ?_
      refine mx_bipush (v := 100) hC dX11_weight_15 (by decide) ?_
      refine mx_icmple (tgt := 23) hC dX11_weight_17 (by decide) (fun hc5 => ?_) (fun hc5 => ?_)
      · replace h := mj_yy hc5 h
        refine mx_aload_n (j := 0) hC dX11_weight_23 rfl rfl ?_
        obtain ⟨ht6, h⟩ := h
        refine mx_get (v := vR (mj_r M2 l0 0)) hC tf_X11_10 ht6 rfl dX11_weight_24 ?_
        obtain ⟨ht7, h⟩ := h
        refine mx_get (v := vR (mj_r M2 (mj_r M2 l0 0) 5)) hC tf_X11_198 ht7 rfl dX11_weight_27 ?_
        refine mx_iload_n (j := 1) hC dX11_weight_30 rfl rfl ?_
        obtain ⟨ht8, h⟩ := h
        obtain ⟨hi9, h⟩ := h
        refine mx_iaload hC ht8 hi9 dX11_weight_31 ?_
        refine mx_istore_n (L' := [(3, vI (mj_i M2 (mj_r M2 (mj_r M2 l0 0) 5) (l1 : Int32).toNatClampNeg)), (0, vR l0), (1, vI l1), (2, vI l2)]) hC dX11_weight_32 rfl (by decide) rfl ?_
        refine mx_aload_n (j := 1) hC dX11_weight_33 rfl rfl ?_
        refine mx_get (v := vR (mj_r M2 l0 0)) hC tf_X11_10 ht6 rfl dX11_weight_34 ?_
        refine mx_get (v := vR (mj_r M2 (mj_r M2 l0 0) 5)) hC tf_X11_198 ht7 rfl dX11_weight_37 ?_
        refine mx_iload_n (j := 2) hC dX11_weight_40 rfl rfl ?_
        refine mx_iload_n (j := 3) hC dX11_weight_41 rfl rfl ?_
        refine mx_iastore hC ht8 hi9 dX11_weight_42 ?_
        refine mx_iload_n (j := 0) hC dX11_weight_43 rfl rfl ?_
        exact mx_iret hC hE rfl dX11_weight_44 h
      · replace h := mj_nn hc5 h
        refine mx_bipush (v := (-2)) hC dX11_weight_20 (by decide) ?_
        exact mx_iret hC hE rfl dX11_weight_22 h
  · replace h := mj_nn hc3 h
    refine mx_iconst (v := (-1)) hC dX11_weight_7 (by decide) ?_
    exact mx_iret hC hE rfl dX11_weight_8 h
def rm_X11_isSign : Room := { frames := 0, cells := 0, slots := 0, locals := 0 }
theorem dX11_isSign_0 : decode cX11_isSign 0 = .ok (.iload_n 0, 1) := by decide +kernel
theorem dX11_isSign_1 : decode cX11_isSign 1 = .ok (.bipush 33, 2) := by decide +kernel
theorem dX11_isSign_3 : decode cX11_isSign 3 = .ok (.if_icmp .lt 13, 3) := by decide +kernel
theorem dX11_isSign_6 : decode cX11_isSign 6 = .ok (.iload_n 0, 1) := by decide +kernel
theorem dX11_isSign_7 : decode cX11_isSign 7 = .ok (.bipush 126, 2) := by decide +kernel
theorem dX11_isSign_9 : decode cX11_isSign 9 = .ok (.if_icmp .gt 7, 3) := by decide +kernel
theorem dX11_isSign_12 : decode cX11_isSign 12 = .ok (.iconst 1, 1) := by decide +kernel
theorem dX11_isSign_13 : decode cX11_isSign 13 = .ok (.goto 4, 3) := by decide +kernel
theorem dX11_isSign_16 : decode cX11_isSign 16 = .ok (.iconst 0, 1) := by decide +kernel
theorem dX11_isSign_17 : decode cX11_isSign 17 = .ok (.ireturn, 1) := by decide +kernel
def vc_X11_isSign (l0 : Int32) (M : mj_M) (post : Bool → mj_M → Prop) : Prop := if l0 < 33 then (post false M) else (if 126 < l0 then (post false M) else (post true M))
set_option maxHeartbeats 4000000 in
set_option maxRecDepth 100000 in
theorem ct_X11_isSign {l : Launch} {base : Nat} {D : va_G} {A : ClassId × ClassId × ClassId} (l0 : Int32) (M : mj_M) (post : Bool → mj_M → Prop) (h : vc_X11_isSign l0 M post) : mj_Met l base D A mj_jB yX11_isSign cX11_isSign 1 (some .boolean) rm_X11_isSign 0 0 [vI l0] M post := by
  refine mj_entry (by decide +kernel) (Nat.le_of_ble_eq_true rfl) (fun g hC hE h1 h2 h3 h4 => ?_)
  show mj_X g 0 [(0, vI l0)] [] M 0 0
  simp only [vc_X11_isSign] at h
  refine mx_iload_n (j := 0) hC dX11_isSign_0 rfl rfl ?_
  refine mx_bipush (v := 33) hC dX11_isSign_1 (by decide) ?_
  refine mx_icmplt (tgt := 16) hC dX11_isSign_3 (by decide) (fun hc1 => ?_) (fun hc1 => ?_)
  · replace h := mj_yy hc1 h
    refine mx_iconst (v := 0) hC dX11_isSign_16 (by decide) ?_
    exact mx_zret (b := false) hC hE rfl dX11_isSign_17 h
  · replace h := mj_nn hc1 h
    refine mx_iload_n (j := 0) hC dX11_isSign_6 rfl rfl ?_
    refine mx_bipush (v := 126) hC dX11_isSign_7 (by decide) ?_
    refine mx_icmpgt (tgt := 16) hC dX11_isSign_9 (by decide) (fun hc2 => ?_) (fun hc2 => ?_)
    · replace h := mj_yy hc2 h
      refine mx_iconst (v := 0) hC dX11_isSign_16 (by decide) ?_
      exact mx_zret (b := false) hC hE rfl dX11_isSign_17 h
    · replace h := mj_nn hc2 h
      refine mx_iconst (v := 1) hC dX11_isSign_12 (by decide) ?_
      refine mx_goto (tgt := 17) hC dX11_isSign_13 (by decide) ?_
      exact mx_zret (b := true) hC hE rfl dX11_isSign_17 h
theorem tw565 : (Jvm.Cond.methodLink "LeaseLand" (201 : Nat) ({ cls := "LeaseLand", name := "isSign", desc := "(I)Z" } : Jvm.MethodName)) ∈ mj_tbl := mj_w 618 (by decide +kernel) (by decide +kernel)
theorem tw568 : (Jvm.Cond.methodLink "LeaseLand" (204 : Nat) ({ cls := "LeaseLand$Acts", name := "addSign", desc := "(I)I" } : Jvm.MethodName)) ∈ mj_tbl := mj_w 621 (by decide +kernel) (by decide +kernel)
theorem tw567 : (Jvm.Cond.code ({ cls := "LeaseLand", name := "isSign", desc := "(I)Z" } : Jvm.MethodName) prog_1_method_66_code (1 : Nat) (Option.some Jvm.ClassFile.FieldType.boolean)) ∈ mj_tbl := mj_w 620 (by decide +kernel) (by decide +kernel)
theorem tw566 : (Jvm.Cond.static ({ cls := "LeaseLand", name := "isSign", desc := "(I)Z" } : Jvm.MethodName)) ∈ mj_tbl := mj_w 619 (by decide +kernel) (by decide +kernel)
theorem ty_X11_isSign : mj_YS yX11_isSign cX11_isSign 1 (some .boolean) 1 := ⟨⟨tw567, tw1, by decide +kernel, by decide +kernel, by decide +kernel⟩, tw566⟩
theorem tw571 : (Jvm.Cond.code ({ cls := "LeaseLand$Acts", name := "addSign", desc := "(I)I" } : Jvm.MethodName) prog_3_method_2_code (2 : Nat) (Option.some Jvm.ClassFile.FieldType.int)) ∈ mj_tbl := mj_w 624 (by decide +kernel) (by decide +kernel)
theorem tw569 : (Jvm.Cond.instanceMethod ({ cls := "LeaseLand$Acts", name := "addSign", desc := "(I)I" } : Jvm.MethodName)) ∈ mj_tbl := mj_w 622 (by decide +kernel) (by decide +kernel)
theorem tw570 : (Jvm.Cond.selects "LeaseLand$Acts" ({ cls := "LeaseLand$Acts", name := "addSign", desc := "(I)I" } : Jvm.MethodName) ({ cls := "LeaseLand$Acts", name := "addSign", desc := "(I)I" } : Jvm.MethodName)) ∈ mj_tbl := mj_w 623 (by decide +kernel) (by decide +kernel)
theorem ty_X1_addSign : mj_YV 1 yX1_addSign cX1_addSign 2 (some .int) 1 := ⟨⟨tw571, tw4, by decide +kernel, by decide +kernel, by decide +kernel⟩, tw569, tw570, _, rfl, rfl⟩
def rm_X11_say : Room := { frames := 1, cells := 0, slots := 0, locals := 21 }
theorem dX11_say_0 : decode cX11_say 0 = .ok (.iload_n 1, 1) := by decide +kernel
theorem dX11_say_1 : decode cX11_say 1 = .ok (.invokestatic 201, 3) := by decide +kernel
theorem dX11_say_4 : decode cX11_say 4 = .ok (.ifCond .eq 14, 3) := by decide +kernel
theorem dX11_say_7 : decode cX11_say 7 = .ok (.aload_n 0, 1) := by decide +kernel
theorem dX11_say_8 : decode cX11_say 8 = .ok (.getfield 19, 3) := by decide +kernel
theorem dX11_say_11 : decode cX11_say 11 = .ok (.iload_n 1, 1) := by decide +kernel
theorem dX11_say_12 : decode cX11_say 12 = .ok (.invokevirtual 204, 3) := by decide +kernel
theorem dX11_say_15 : decode cX11_say 15 = .ok (.goto 5, 3) := by decide +kernel
theorem dX11_say_18 : decode cX11_say 18 = .ok (.bipush (-2), 2) := by decide +kernel
theorem dX11_say_20 : decode cX11_say 20 = .ok (.ireturn, 1) := by decide +kernel
def vc_X11_say (l0 : Nat) (l1 : Int32) (M : mj_M) (post : Int32 → mj_M → Prop) : Prop := vc_X11_isSign l1 M (fun r1 M2 => if r1 = true then (mj_tag M2 l0 = 12 ∧ mj_tag M2 (mj_r M2 l0 1) = 2 ∧ vc_X1_addSign (mj_r M2 l0 1) l1 M2 (fun r6 M7 => post r6 M7)) else (post ((-2)) M2))
set_option maxHeartbeats 4000000 in
set_option maxRecDepth 100000 in
theorem ct_X11_say {l : Launch} {base : Nat} {D : va_G} {A : ClassId × ClassId × ClassId} (l0 : Nat) (l1 : Int32) (M : mj_M) (post : Int32 → mj_M → Prop) (h : vc_X11_say l0 l1 M post) : mj_Met l base D A mj_jI yX11_say cX11_say 2 (some .int) rm_X11_say 0 0 [vR l0, vI l1] M post := by
  refine mj_entry (by decide +kernel) (Nat.le_of_ble_eq_true rfl) (fun g hC hE h1 h2 h3 h4 => ?_)
  show mj_X g 0 [(0, vR l0), (1, vI l1)] [] M 0 0
  simp only [vc_X11_say] at h
  refine mx_iload_n (j := 1) hC dX11_say_0 rfl rfl ?_
  refine mx_callS (inj := mj_jB) (As := [vI l1]) (st := []) hC (ct_X11_isSign l1 M _ h) ty_X11_isSign tw565 rfl (Nat.le_of_ble_eq_true rfl) ⟨rfl, rfl, ⟨by decide, by decide⟩, by decide, by decide⟩ dX11_say_1 (fun r1 M2 h => ?_)
  show mj_X g 4 [(0, vR l0), (1, vI l1)] [vI (mj_b r1)] M2 0 0
  refine mx_ifeqB (tgt := 18) hC dX11_say_4 (by decide) (fun hc3 => ?_) (fun hc3 => ?_)
  · replace h := mj_nn hc3 h
    refine mx_bipush (v := (-2)) hC dX11_say_18 (by decide) ?_
    exact mx_iret hC hE rfl dX11_say_20 h
  · replace h := mj_yy hc3 h
    refine mx_aload_n (j := 0) hC dX11_say_7 rfl rfl ?_
    obtain ⟨ht4, h⟩ := h
    refine mx_get (v := vR (mj_r M2 l0 1)) hC tf_X11_19 ht4 rfl dX11_say_8 ?_
    refine mx_iload_n (j := 1) hC dX11_say_11 rfl rfl ?_
    obtain ⟨ht5, h⟩ := h
    refine mx_callV (inj := mj_jI) (As := [vI l1]) (st := []) hC (ct_X1_addSign (mj_r M2 l0 1) l1 M2 _ h) ty_X1_addSign tw568 ht5 rfl (Nat.le_of_ble_eq_true rfl) ⟨rfl, rfl, ⟨by decide, by decide⟩, by decide, by decide⟩ dX11_say_12 (fun r6 M7 h => ?_)
    show mj_X g 15 [(0, vR l0), (1, vI l1)] [vI r6] M7 0 0
    refine mx_goto (tgt := 20) hC dX11_say_15 (by decide) ?_
    exact mx_iret hC hE rfl dX11_say_20 h
theorem tw89 : (Jvm.Cond.fieldLink "LeaseLand" (207 : Nat) "LeaseLand$Acts" "length" "I") ∈ mj_tbl := mj_w 142 (by decide +kernel) (by decide +kernel)
theorem tf_X11_207 : mj_F 1 2 .int false "LeaseLand" 207 := ⟨_, tk1, by decide, rfl, rfl, rfl, tw89⟩
def rm_X11_wipe : Room := { frames := 0, cells := 0, slots := 0, locals := 0 }
theorem dX11_wipe_0 : decode cX11_wipe 0 = .ok (.aload_n 0, 1) := by decide +kernel
theorem dX11_wipe_1 : decode cX11_wipe 1 = .ok (.getfield 19, 3) := by decide +kernel
theorem dX11_wipe_4 : decode cX11_wipe 4 = .ok (.getfield 207, 3) := by decide +kernel
theorem dX11_wipe_7 : decode cX11_wipe 7 = .ok (.istore_n 1, 1) := by decide +kernel
theorem dX11_wipe_8 : decode cX11_wipe 8 = .ok (.aload_n 0, 1) := by decide +kernel
theorem dX11_wipe_9 : decode cX11_wipe 9 = .ok (.getfield 19, 3) := by decide +kernel
theorem dX11_wipe_12 : decode cX11_wipe 12 = .ok (.iconst 0, 1) := by decide +kernel
theorem dX11_wipe_13 : decode cX11_wipe 13 = .ok (.putfield 207, 3) := by decide +kernel
theorem dX11_wipe_16 : decode cX11_wipe 16 = .ok (.iload_n 1, 1) := by decide +kernel
theorem dX11_wipe_17 : decode cX11_wipe 17 = .ok (.ireturn, 1) := by decide +kernel
def vc_X11_wipe (l0 : Nat) (M : mj_M) (post : Int32 → mj_M → Prop) : Prop := mj_tag M l0 = 12 ∧ mj_tag M (mj_r M l0 1) = 2 ∧ post (mj_i M (mj_r M l0 1) 2) (mj_wi M (mj_r M l0 1) 2 0)
set_option maxHeartbeats 4000000 in
set_option maxRecDepth 100000 in
theorem ct_X11_wipe {l : Launch} {base : Nat} {D : va_G} {A : ClassId × ClassId × ClassId} (l0 : Nat) (M : mj_M) (post : Int32 → mj_M → Prop) (h : vc_X11_wipe l0 M post) : mj_Met l base D A mj_jI yX11_wipe cX11_wipe 2 (some .int) rm_X11_wipe 0 0 [vR l0] M post := by
  refine mj_entry (by decide +kernel) (Nat.le_of_ble_eq_true rfl) (fun g hC hE h1 h2 h3 h4 => ?_)
  show mj_X g 0 [(0, vR l0)] [] M 0 0
  simp only [vc_X11_wipe] at h
  refine mx_aload_n (j := 0) hC dX11_wipe_0 rfl rfl ?_
  obtain ⟨ht1, h⟩ := h
  refine mx_get (v := vR (mj_r M l0 1)) hC tf_X11_19 ht1 rfl dX11_wipe_1 ?_
  obtain ⟨ht2, h⟩ := h
  refine mx_get (v := vI (mj_i M (mj_r M l0 1) 2)) hC tf_X11_207 ht2 rfl dX11_wipe_4 ?_
  refine mx_istore_n (L' := [(1, vI (mj_i M (mj_r M l0 1) 2)), (0, vR l0)]) hC dX11_wipe_7 rfl (by decide) rfl ?_
  refine mx_aload_n (j := 1) hC dX11_wipe_8 rfl rfl ?_
  refine mx_get (v := vR (mj_r M l0 1)) hC tf_X11_19 ht1 rfl dX11_wipe_9 ?_
  refine mx_iconst (v := 0) hC dX11_wipe_12 (by decide) ?_
  refine mx_put (v := vI 0) (M1 := mj_wi M (mj_r M l0 1) 2 0) hC tf_X11_207 ht2 (Or.inl rfl) ⟨rfl, rfl⟩ (mj_off_wi _ _ _ _) mj_put_wi dX11_wipe_13 ?_
  refine mx_iload_n (j := 0) hC dX11_wipe_16 rfl rfl ?_
  exact mx_iret hC hE rfl dX11_wipe_17 h
theorem tw580 : (Jvm.Cond.methodLink "LeaseLand" (210 : Nat) ({ cls := "LeaseLand$Acts", name := "faultPlace", desc := "()I" } : Jvm.MethodName)) ∈ mj_tbl := mj_w 633 (by decide +kernel) (by decide +kernel)
theorem tw583 : (Jvm.Cond.code ({ cls := "LeaseLand$Acts", name := "faultPlace", desc := "()I" } : Jvm.MethodName) prog_3_method_3_code (2 : Nat) (Option.some Jvm.ClassFile.FieldType.int)) ∈ mj_tbl := mj_w 636 (by decide +kernel) (by decide +kernel)
theorem tw581 : (Jvm.Cond.instanceMethod ({ cls := "LeaseLand$Acts", name := "faultPlace", desc := "()I" } : Jvm.MethodName)) ∈ mj_tbl := mj_w 634 (by decide +kernel) (by decide +kernel)
theorem tw582 : (Jvm.Cond.selects "LeaseLand$Acts" ({ cls := "LeaseLand$Acts", name := "faultPlace", desc := "()I" } : Jvm.MethodName) ({ cls := "LeaseLand$Acts", name := "faultPlace", desc := "()I" } : Jvm.MethodName)) ∈ mj_tbl := mj_w 635 (by decide +kernel) (by decide +kernel)
theorem ty_X1_faultPlace : mj_YV 1 yX1_faultPlace cX1_faultPlace 2 (some .int) 0 := ⟨⟨tw583, tw4, by decide +kernel, by decide +kernel, by decide +kernel⟩, tw581, tw582, _, rfl, rfl⟩
def rm_X11_fault : Room := { frames := 12, cells := 0, slots := 0, locals := 333 }
theorem dX11_fault_0 : decode cX11_fault 0 = .ok (.aload_n 0, 1) := by decide +kernel
theorem dX11_fault_1 : decode cX11_fault 1 = .ok (.getfield 19, 3) := by decide +kernel
theorem dX11_fault_4 : decode cX11_fault 4 = .ok (.invokevirtual 210, 3) := by decide +kernel
theorem dX11_fault_7 : decode cX11_fault 7 = .ok (.ireturn, 1) := by decide +kernel
def vc_X11_fault (l0 : Nat) (M : mj_M) (post : Int32 → mj_M → Prop) : Prop := mj_tag M l0 = 12 ∧ mj_tag M (mj_r M l0 1) = 2 ∧ vc_X1_faultPlace (mj_r M l0 1) M (fun r3 M4 => post r3 M4)
set_option maxHeartbeats 4000000 in
set_option maxRecDepth 100000 in
theorem ct_X11_fault {l : Launch} {base : Nat} {D : va_G} {A : ClassId × ClassId × ClassId} (l0 : Nat) (M : mj_M) (post : Int32 → mj_M → Prop) (h : vc_X11_fault l0 M post) : mj_Met l base D A mj_jI yX11_fault cX11_fault 1 (some .int) rm_X11_fault 0 0 [vR l0] M post := by
  refine mj_entry (by decide +kernel) (Nat.le_of_ble_eq_true rfl) (fun g hC hE h1 h2 h3 h4 => ?_)
  show mj_X g 0 [(0, vR l0)] [] M 0 0
  simp only [vc_X11_fault] at h
  refine mx_aload_n (j := 0) hC dX11_fault_0 rfl rfl ?_
  obtain ⟨ht1, h⟩ := h
  refine mx_get (v := vR (mj_r M l0 1)) hC tf_X11_19 ht1 rfl dX11_fault_1 ?_
  obtain ⟨ht2, h⟩ := h
  refine mx_callV (inj := mj_jI) (As := []) (st := []) hC (ct_X1_faultPlace (mj_r M l0 1) M _ h) ty_X1_faultPlace tw580 ht2 rfl (Nat.le_of_ble_eq_true rfl) ⟨rfl, rfl, ⟨by decide, by decide⟩, by decide, by decide⟩ dX11_fault_4 (fun r3 M4 h => ?_)
  show mj_X g 7 [(0, vR l0)] [vI r3] M4 0 0
  exact mx_iret hC hE rfl dX11_fault_7 h
def rm_X11_isKind : Room := { frames := 0, cells := 0, slots := 0, locals := 0 }
theorem dX11_isKind_0 : decode cX11_isKind 0 = .ok (.iload_n 0, 1) := by decide +kernel
theorem dX11_isKind_1 : decode cX11_isKind 1 = .ok (.ifCond .lt 12, 3) := by decide +kernel
theorem dX11_isKind_4 : decode cX11_isKind 4 = .ok (.iload_n 0, 1) := by decide +kernel
theorem dX11_isKind_5 : decode cX11_isKind 5 = .ok (.iconst 4, 1) := by decide +kernel
theorem dX11_isKind_6 : decode cX11_isKind 6 = .ok (.if_icmp .ge 7, 3) := by decide +kernel
theorem dX11_isKind_9 : decode cX11_isKind 9 = .ok (.iconst 1, 1) := by decide +kernel
theorem dX11_isKind_10 : decode cX11_isKind 10 = .ok (.goto 4, 3) := by decide +kernel
theorem dX11_isKind_13 : decode cX11_isKind 13 = .ok (.iconst 0, 1) := by decide +kernel
theorem dX11_isKind_14 : decode cX11_isKind 14 = .ok (.ireturn, 1) := by decide +kernel
def vc_X11_isKind (l0 : Int32) (M : mj_M) (post : Bool → mj_M → Prop) : Prop := if l0 < 0 then (post false M) else (if 4 ≤ l0 then (post false M) else (post true M))
set_option maxHeartbeats 4000000 in
set_option maxRecDepth 100000 in
theorem ct_X11_isKind {l : Launch} {base : Nat} {D : va_G} {A : ClassId × ClassId × ClassId} (l0 : Int32) (M : mj_M) (post : Bool → mj_M → Prop) (h : vc_X11_isKind l0 M post) : mj_Met l base D A mj_jB yX11_isKind cX11_isKind 1 (some .boolean) rm_X11_isKind 0 0 [vI l0] M post := by
  refine mj_entry (by decide +kernel) (Nat.le_of_ble_eq_true rfl) (fun g hC hE h1 h2 h3 h4 => ?_)
  show mj_X g 0 [(0, vI l0)] [] M 0 0
  simp only [vc_X11_isKind] at h
  refine mx_iload_n (j := 0) hC dX11_isKind_0 rfl rfl ?_
  refine mx_iflt (tgt := 13) hC dX11_isKind_1 (by decide) (fun hc1 => ?_) (fun hc1 => ?_)
  · replace h := mj_yy hc1 h
    refine mx_iconst (v := 0) hC dX11_isKind_13 (by decide) ?_
    exact mx_zret (b := false) hC hE rfl dX11_isKind_14 h
  · replace h := mj_nn hc1 h
    refine mx_iload_n (j := 0) hC dX11_isKind_4 rfl rfl ?_
    refine mx_iconst (v := 4) hC dX11_isKind_5 (by decide) ?_
    refine mx_icmpge (tgt := 13) hC dX11_isKind_6 (by decide) (fun hc2 => ?_) (fun hc2 => ?_)
    · replace h := mj_yy hc2 h
      refine mx_iconst (v := 0) hC dX11_isKind_13 (by decide) ?_
      exact mx_zret (b := false) hC hE rfl dX11_isKind_14 h
    · replace h := mj_nn hc2 h
      refine mx_iconst (v := 1) hC dX11_isKind_9 (by decide) ?_
      refine mx_goto (tgt := 14) hC dX11_isKind_10 (by decide) ?_
      exact mx_zret (b := true) hC hE rfl dX11_isKind_14 h
theorem tw91 : (Jvm.Cond.fieldLink "LeaseLand" (216 : Nat) "LeaseLand$Acts" "count" "I") ∈ mj_tbl := mj_w 144 (by decide +kernel) (by decide +kernel)
theorem tf_X11_216 : mj_F 1 3 .int false "LeaseLand" 216 := ⟨_, tk1, by decide, rfl, rfl, rfl, tw91⟩
theorem tw713 : (Jvm.Cond.methodLink "LeaseLand" (213 : Nat) ({ cls := "LeaseLand", name := "isKind", desc := "(I)Z" } : Jvm.MethodName)) ∈ mj_tbl := mj_w 766 (by decide +kernel) (by decide +kernel)
theorem tw716 : (Jvm.Cond.methodLink "LeaseLand" (219 : Nat) ({ cls := "LeaseLand$Acts", name := "pass", desc := "(II)I" } : Jvm.MethodName)) ∈ mj_tbl := mj_w 769 (by decide +kernel) (by decide +kernel)
theorem tw715 : (Jvm.Cond.code ({ cls := "LeaseLand", name := "isKind", desc := "(I)Z" } : Jvm.MethodName) prog_1_method_65_code (1 : Nat) (Option.some Jvm.ClassFile.FieldType.boolean)) ∈ mj_tbl := mj_w 768 (by decide +kernel) (by decide +kernel)
theorem tw714 : (Jvm.Cond.static ({ cls := "LeaseLand", name := "isKind", desc := "(I)Z" } : Jvm.MethodName)) ∈ mj_tbl := mj_w 767 (by decide +kernel) (by decide +kernel)
theorem ty_X11_isKind : mj_YS yX11_isKind cX11_isKind 1 (some .boolean) 1 := ⟨⟨tw715, tw1, by decide +kernel, by decide +kernel, by decide +kernel⟩, tw714⟩
theorem tw719 : (Jvm.Cond.code ({ cls := "LeaseLand$Acts", name := "pass", desc := "(II)I" } : Jvm.MethodName) prog_3_method_4_code (3 : Nat) (Option.some Jvm.ClassFile.FieldType.int)) ∈ mj_tbl := mj_w 772 (by decide +kernel) (by decide +kernel)
theorem tw717 : (Jvm.Cond.instanceMethod ({ cls := "LeaseLand$Acts", name := "pass", desc := "(II)I" } : Jvm.MethodName)) ∈ mj_tbl := mj_w 770 (by decide +kernel) (by decide +kernel)
theorem tw718 : (Jvm.Cond.selects "LeaseLand$Acts" ({ cls := "LeaseLand$Acts", name := "pass", desc := "(II)I" } : Jvm.MethodName) ({ cls := "LeaseLand$Acts", name := "pass", desc := "(II)I" } : Jvm.MethodName)) ∈ mj_tbl := mj_w 771 (by decide +kernel) (by decide +kernel)
theorem ty_X1_pass : mj_YV 1 yX1_pass cX1_pass 3 (some .int) 2 := ⟨⟨tw719, tw4, by decide +kernel, by decide +kernel, by decide +kernel⟩, tw717, tw718, _, rfl, rfl⟩
def rm_X11_act : Room := { frames := 12, cells := 2, slots := 52, locals := 333 }
theorem dX11_act_0 : decode cX11_act 0 = .ok (.iload_n 1, 1) := by decide +kernel
theorem dX11_act_1 : decode cX11_act 1 = .ok (.invokestatic 213, 3) := by decide +kernel
theorem dX11_act_4 : decode cX11_act 4 = .ok (.ifCond .ne 5, 3) := by decide +kernel
theorem dX11_act_7 : decode cX11_act 7 = .ok (.iconst (-1), 1) := by decide +kernel
theorem dX11_act_8 : decode cX11_act 8 = .ok (.ireturn, 1) := by decide +kernel
theorem dX11_act_9 : decode cX11_act 9 = .ok (.iload_n 2, 1) := by decide +kernel
theorem dX11_act_10 : decode cX11_act 10 = .ok (.invokestatic 62, 3) := by decide +kernel
theorem dX11_act_13 : decode cX11_act 13 = .ok (.ifCond .ne 6, 3) := by decide +kernel
theorem dX11_act_16 : decode cX11_act 16 = .ok (.bipush (-2), 2) := by decide +kernel
theorem dX11_act_18 : decode cX11_act 18 = .ok (.ireturn, 1) := by decide +kernel
theorem dX11_act_19 : decode cX11_act 19 = .ok (.aload_n 0, 1) := by decide +kernel
theorem dX11_act_20 : decode cX11_act 20 = .ok (.getfield 19, 3) := by decide +kernel
theorem dX11_act_23 : decode cX11_act 23 = .ok (.getfield 216, 3) := by decide +kernel
theorem dX11_act_26 : decode cX11_act 26 = .ok (.bipush 12, 2) := by decide +kernel
theorem dX11_act_28 : decode cX11_act 28 = .ok (.if_icmp .ne 6, 3) := by decide +kernel
theorem dX11_act_31 : decode cX11_act 31 = .ok (.bipush (-4), 2) := by decide +kernel
theorem dX11_act_33 : decode cX11_act 33 = .ok (.ireturn, 1) := by decide +kernel
theorem dX11_act_34 : decode cX11_act 34 = .ok (.aload_n 0, 1) := by decide +kernel
theorem dX11_act_35 : decode cX11_act 35 = .ok (.getfield 19, 3) := by decide +kernel
theorem dX11_act_38 : decode cX11_act 38 = .ok (.invokevirtual 210, 3) := by decide +kernel
theorem dX11_act_41 : decode cX11_act 41 = .ok (.bipush (-6), 2) := by decide +kernel
theorem dX11_act_43 : decode cX11_act 43 = .ok (.if_icmp .ne 15, 3) := by decide +kernel
theorem dX11_act_46 : decode cX11_act 46 = .ok (.aload_n 0, 1) := by decide +kernel
theorem dX11_act_47 : decode cX11_act 47 = .ok (.getfield 19, 3) := by decide +kernel
theorem dX11_act_50 : decode cX11_act 50 = .ok (.iload_n 1, 1) := by decide +kernel
theorem dX11_act_51 : decode cX11_act 51 = .ok (.iload_n 2, 1) := by decide +kernel
theorem dX11_act_52 : decode cX11_act 52 = .ok (.invokevirtual 219, 3) := by decide +kernel
theorem dX11_act_55 : decode cX11_act 55 = .ok (.goto 5, 3) := by decide +kernel
theorem dX11_act_58 : decode cX11_act 58 = .ok (.bipush (-5), 2) := by decide +kernel
theorem dX11_act_60 : decode cX11_act 60 = .ok (.ireturn, 1) := by decide +kernel
def vc_X11_act (l0 : Nat) (l1 : Int32) (l2 : Int32) (M : mj_M) (post : Int32 → mj_M → Prop) : Prop := vc_X11_isKind l1 M (fun r1 M2 => if r1 = true then (vc_X11_isDay l2 M2 (fun r4 M5 => if r4 = true then (mj_tag M5 l0 = 12 ∧ mj_tag M5 (mj_r M5 l0 1) = 2 ∧ if (mj_i M5 (mj_r M5 l0 1) 3) = 12 then (post ((-4)) M5) else (vc_X1_faultPlace (mj_r M5 l0 1) M5 (fun r10 M11 => if r10 = ((-6)) then (mj_tag M11 l0 = 12 ∧ mj_tag M11 (mj_r M11 l0 1) = 2 ∧ vc_X1_pass (mj_r M11 l0 1) l1 l2 M11 (fun r15 M16 => post r15 M16)) else (post ((-5)) M11)))) else (post ((-2)) M5))) else (post ((-1)) M2))
set_option maxHeartbeats 4000000 in
set_option maxRecDepth 100000 in
theorem ct_X11_act {l : Launch} {base : Nat} {D : va_G} {A : ClassId × ClassId × ClassId} (l0 : Nat) (l1 : Int32) (l2 : Int32) (M : mj_M) (post : Int32 → mj_M → Prop) (h : vc_X11_act l0 l1 l2 M post) : mj_Met l base D A mj_jI yX11_act cX11_act 3 (some .int) rm_X11_act 2 52 [vR l0, vI l1, vI l2] M post := by
  refine mj_entry (by decide +kernel) (Nat.le_of_ble_eq_true rfl) (fun g hC hE h1 h2 h3 h4 => ?_)
  show mj_X g 0 [(0, vR l0), (1, vI l1), (2, vI l2)] [] M 0 0
  simp only [vc_X11_act] at h
  refine mx_iload_n (j := 1) hC dX11_act_0 rfl rfl ?_
  refine mx_callS (inj := mj_jB) (As := [vI l1]) (st := []) hC (ct_X11_isKind l1 M _ h) ty_X11_isKind tw713 rfl (Nat.le_of_ble_eq_true rfl) ⟨rfl, rfl, ⟨by decide, by decide⟩, by decide, by decide⟩ dX11_act_1 (fun r1 M2 h => ?_)
  show mj_X g 4 [(0, vR l0), (1, vI l1), (2, vI l2)] [vI (mj_b r1)] M2 0 0
  refine mx_ifneB (tgt := 9) hC dX11_act_4 (by decide) (fun hc3 => ?_) (fun hc3 => ?_)
  · replace h := mj_yy hc3 h
    refine mx_iload_n (j := 2) hC dX11_act_9 rfl rfl ?_
    refine mx_callS (inj := mj_jB) (As := [vI l2]) (st := []) hC (ct_X11_isDay l2 M2 _ h) ty_X11_isDay tw290 rfl (Nat.le_of_ble_eq_true rfl) ⟨rfl, rfl, ⟨by decide, by decide⟩, by decide, by decide⟩ dX11_act_10 (fun r4 M5 h => ?_)
    show mj_X g 13 [(0, vR l0), (1, vI l1), (2, vI l2)] [vI (mj_b r4)] M5 0 0
    refine mx_ifneB (tgt := 19) hC dX11_act_13 (by decide) (fun hc6 => ?_) (fun hc6 => ?_)
    · replace h := mj_yy hc6 h
      refine mx_aload_n (j := 0) hC dX11_act_19 rfl rfl ?_
      obtain ⟨ht7, h⟩ := h
      refine mx_get (v := vR (mj_r M5 l0 1)) hC tf_X11_19 ht7 rfl dX11_act_20 ?_
      obtain ⟨ht8, h⟩ := h
      refine mx_get (v := vI (mj_i M5 (mj_r M5 l0 1) 3)) hC tf_X11_216 ht8 rfl dX11_act_23 ?_
      refine mx_bipush (v := 12) hC dX11_act_26 (by decide) ?_
      refine mx_icmpne (tgt := 34) hC dX11_act_28 (by decide) (fun hc9 => ?_) (fun hc9 => ?_)
      · replace h := mj_nn hc9 h
        refine mx_aload_n (j := 0) hC dX11_act_34 rfl rfl ?_
        refine mx_get (v := vR (mj_r M5 l0 1)) hC tf_X11_19 ht7 rfl dX11_act_35 ?_
        refine mx_callV (inj := mj_jI) (As := []) (st := []) hC (ct_X1_faultPlace (mj_r M5 l0 1) M5 _ h) ty_X1_faultPlace tw580 ht8 rfl (Nat.le_of_ble_eq_true rfl) ⟨rfl, rfl, ⟨by decide, by decide⟩, by decide, by decide⟩ dX11_act_38 (fun r10 M11 h => ?_)
        show mj_X g 41 [(0, vR l0), (1, vI l1), (2, vI l2)] [vI r10] M11 0 0
        refine mx_bipush (v := (-6)) hC dX11_act_41 (by decide) ?_
        refine mx_icmpne (tgt := 58) hC dX11_act_43 (by decide) (fun hc12 => ?_) (fun hc12 => ?_)
        · replace h := mj_nn hc12 h
          refine mx_bipush (v := (-5)) hC dX11_act_58 (by decide) ?_
          refine mx_widen (k' := 2) (n' := 52) (by decide) (by decide) ?_
          exact mx_iret hC hE rfl dX11_act_60 h
        · replace h := mj_yy hc12 h
          refine mx_aload_n (j := 0) hC dX11_act_46 rfl rfl ?_
          obtain ⟨ht13, h⟩ := h
          refine mx_get (v := vR (mj_r M11 l0 1)) hC tf_X11_19 ht13 rfl dX11_act_47 ?_
          refine mx_iload_n (j := 1) hC dX11_act_50 rfl rfl ?_
          refine mx_iload_n (j := 2) hC dX11_act_51 rfl rfl ?_
          obtain ⟨ht14, h⟩ := h
          refine mx_callV (inj := mj_jI) (As := [vI l1, vI l2]) (st := []) hC (ct_X1_pass (mj_r M11 l0 1) l1 l2 M11 _ h) ty_X1_pass tw716 ht14 rfl (Nat.le_of_ble_eq_true rfl) ⟨rfl, rfl, ⟨by decide, by decide⟩, by decide, by decide⟩ dX11_act_52 (fun r15 M16 h => ?_)
          show mj_X g 55 [(0, vR l0), (1, vI l1), (2, vI l2)] [vI r15] M16 2 52
          refine mx_goto (tgt := 60) hC dX11_act_55 (by decide) ?_
          exact mx_iret hC hE rfl dX11_act_60 h
      · replace h := mj_yy hc9 h
        refine mx_bipush (v := (-4)) hC dX11_act_31 (by decide) ?_
        refine mx_widen (k' := 2) (n' := 52) (by decide) (by decide) ?_
        exact mx_iret hC hE rfl dX11_act_33 h
    · replace h := mj_nn hc6 h
      refine mx_bipush (v := (-2)) hC dX11_act_16 (by decide) ?_
      refine mx_widen (k' := 2) (n' := 52) (by decide) (by decide) ?_
      exact mx_iret hC hE rfl dX11_act_18 h
  · replace h := mj_nn hc3 h
    refine mx_iconst (v := (-1)) hC dX11_act_7 (by decide) ?_
    refine mx_widen (k' := 2) (n' := 52) (by decide) (by decide) ?_
    exact mx_iret hC hE rfl dX11_act_8 h
def rm_X11_refusalOfRight : Room := { frames := 3, cells := 0, slots := 0, locals := 62 }
theorem dX11_refusalOfRight_0 : decode cX11_refusalOfRight 0 = .ok (.aload_n 1, 1) := by decide +kernel
theorem dX11_refusalOfRight_1 : decode cX11_refusalOfRight 1 = .ok (.ifnull 10, 3) := by decide +kernel
theorem dX11_refusalOfRight_4 : decode cX11_refusalOfRight 4 = .ok (.iload_n 2, 1) := by decide +kernel
theorem dX11_refusalOfRight_5 : decode cX11_refusalOfRight 5 = .ok (.invokestatic 213, 3) := by decide +kernel
theorem dX11_refusalOfRight_8 : decode cX11_refusalOfRight 8 = .ok (.ifCond .ne 5, 3) := by decide +kernel
theorem dX11_refusalOfRight_11 : decode cX11_refusalOfRight 11 = .ok (.iconst (-1), 1) := by decide +kernel
theorem dX11_refusalOfRight_12 : decode cX11_refusalOfRight 12 = .ok (.ireturn, 1) := by decide +kernel
theorem dX11_refusalOfRight_13 : decode cX11_refusalOfRight 13 = .ok (.aload_n 0, 1) := by decide +kernel
theorem dX11_refusalOfRight_14 : decode cX11_refusalOfRight 14 = .ok (.getfield 10, 3) := by decide +kernel
theorem dX11_refusalOfRight_17 : decode cX11_refusalOfRight 17 = .ok (.aload_n 1, 1) := by decide +kernel
theorem dX11_refusalOfRight_18 : decode cX11_refusalOfRight 18 = .ok (.invokevirtual 111, 3) := by decide +kernel
theorem dX11_refusalOfRight_21 : decode cX11_refusalOfRight 21 = .ok (.ifCond .eq 8, 3) := by decide +kernel
theorem dX11_refusalOfRight_24 : decode cX11_refusalOfRight 24 = .ok (.bipush (-6), 2) := by decide +kernel
theorem dX11_refusalOfRight_26 : decode cX11_refusalOfRight 26 = .ok (.goto 5, 3) := by decide +kernel
theorem dX11_refusalOfRight_29 : decode cX11_refusalOfRight 29 = .ok (.bipush (-3), 2) := by decide +kernel
theorem dX11_refusalOfRight_31 : decode cX11_refusalOfRight 31 = .ok (.ireturn, 1) := by decide +kernel
def vc_X11_refusalOfRight (l0 : Nat) (l1 : Nat) (l2 : Int32) (M : mj_M) (post : Int32 → mj_M → Prop) : Prop := if l1 = 0 then (post ((-1)) M) else (vc_X11_isKind l2 M (fun r2 M3 => if r2 = true then (mj_tag M3 l0 = 12 ∧ mj_tag M3 (mj_r M3 l0 0) = 5 ∧ vc_X4_isInForce (mj_r M3 l0 0) l1 M3 (fun r7 M8 => if r7 = true then (post ((-6)) M8) else (post ((-3)) M8))) else (post ((-1)) M3)))
set_option maxHeartbeats 4000000 in
set_option maxRecDepth 100000 in
theorem ct_X11_refusalOfRight {l : Launch} {base : Nat} {D : va_G} {A : ClassId × ClassId × ClassId} (l0 : Nat) (l1 : Nat) (l2 : Int32) (M : mj_M) (post : Int32 → mj_M → Prop) (h : vc_X11_refusalOfRight l0 l1 l2 M post) : mj_Met l base D A mj_jI yX11_refusalOfRight cX11_refusalOfRight 3 (some .int) rm_X11_refusalOfRight 0 0 [vR l0, vR l1, vI l2] M post := by
  refine mj_entry (by decide +kernel) (Nat.le_of_ble_eq_true rfl) (fun g hC hE h1 h2 h3 h4 => ?_)
  show mj_X g 0 [(0, vR l0), (1, vR l1), (2, vI l2)] [] M 0 0
  simp only [vc_X11_refusalOfRight] at h
  refine mx_aload_n (j := 1) hC dX11_refusalOfRight_0 rfl rfl ?_
  refine mx_ifnull (tgt := 11) hC dX11_refusalOfRight_1 (by decide) (fun hc1 => ?_) (fun hc1 => ?_)
  · replace h := mj_yy hc1 h
    refine mx_iconst (v := (-1)) hC dX11_refusalOfRight_11 (by decide) ?_
    exact mx_iret hC hE rfl dX11_refusalOfRight_12 h
  · replace h := mj_nn hc1 h
    refine mx_iload_n (j := 2) hC dX11_refusalOfRight_4 rfl rfl ?_
    refine mx_callS (inj := mj_jB) (As := [vI l2]) (st := []) hC (ct_X11_isKind l2 M _ h) ty_X11_isKind tw713 rfl (Nat.le_of_ble_eq_true rfl) ⟨rfl, rfl, ⟨by decide, by decide⟩, by decide, by decide⟩ dX11_refusalOfRight_5 (fun r2 M3 h => ?_)
    show mj_X g 8 [(0, vR l0), (1, vR l1), (2, vI l2)] [vI (mj_b r2)] M3 0 0
    refine mx_ifneB (tgt := 13) hC dX11_refusalOfRight_8 (by decide) (fun hc4 => ?_) (fun hc4 => ?_)
    · replace h := mj_yy hc4 h
      refine mx_aload_n (j := 0) hC dX11_refusalOfRight_13 rfl rfl ?_
      obtain ⟨ht5, h⟩ := h
      refine mx_get (v := vR (mj_r M3 l0 0)) hC tf_X11_10 ht5 rfl dX11_refusalOfRight_14 ?_
      refine mx_aload_n (j := 1) hC dX11_refusalOfRight_17 rfl rfl ?_
      obtain ⟨ht6, h⟩ := h
      refine mx_callV (inj := mj_jB) (As := [vR l1]) (st := []) hC (ct_X4_isInForce (mj_r M3 l0 0) l1 M3 _ h) ty_X4_isInForce tw458 ht6 rfl (Nat.le_of_ble_eq_true rfl) ⟨rfl, rfl, ⟨by decide, by decide⟩, by decide, by decide⟩ dX11_refusalOfRight_18 (fun r7 M8 h => ?_)
      show mj_X g 21 [(0, vR l0), (1, vR l1), (2, vI l2)] [vI (mj_b r7)] M8 0 0
      refine mx_ifeqB (tgt := 29) hC dX11_refusalOfRight_21 (by decide) (fun hc9 => ?_) (fun hc9 => ?_)
      · replace h := mj_nn hc9 h
        refine mx_bipush (v := (-3)) hC dX11_refusalOfRight_29 (by decide) ?_
        exact mx_iret hC hE rfl dX11_refusalOfRight_31 h
      · replace h := mj_yy hc9 h
        refine mx_bipush (v := (-6)) hC dX11_refusalOfRight_24 (by decide) ?_
        refine mx_goto (tgt := 31) hC dX11_refusalOfRight_26 (by decide) ?_
        exact mx_iret hC hE rfl dX11_refusalOfRight_31 h
    · replace h := mj_nn hc4 h
      refine mx_iconst (v := (-1)) hC dX11_refusalOfRight_11 (by decide) ?_
      exact mx_iret hC hE rfl dX11_refusalOfRight_12 h
theorem tw745 : (Jvm.Cond.fieldLink "LeaseLand" (231 : Nat) "LeaseLand$Act" "text" "[I") ∈ mj_tbl := mj_w 798 (by decide +kernel) (by decide +kernel)
theorem tf_X11_231 : mj_F 0 2 (.array .int) true "LeaseLand" 231 := ⟨_, tk0, by decide, rfl, rfl, rfl, tw745⟩
theorem tw761 : (Jvm.Cond.methodLink "LeaseLand" (223 : Nat) ({ cls := "LeaseLand$Acts", name := "inForce", desc := "(II)LLeaseLand$Act;" } : Jvm.MethodName)) ∈ mj_tbl := mj_w 814 (by decide +kernel) (by decide +kernel)
theorem tw765 : (Jvm.Cond.methodLink "LeaseLand" (227 : Nat) ({ cls := "LeaseLand", name := "refusalOfRight", desc := "(LLeaseLand$Holding;I)I" } : Jvm.MethodName)) ∈ mj_tbl := mj_w 818 (by decide +kernel) (by decide +kernel)
theorem tw769 : (Jvm.Cond.methodLink "LeaseLand" (236 : Nat) ({ cls := "LeaseLand$Reading", name := "isSo", desc := "([ILLeaseLand$Land;LLeaseLand$Holding;II)Z" } : Jvm.MethodName)) ∈ mj_tbl := mj_w 822 (by decide +kernel) (by decide +kernel)
theorem tw768 : (Jvm.Cond.code ({ cls := "LeaseLand", name := "refusalOfRight", desc := "(LLeaseLand$Holding;I)I" } : Jvm.MethodName) prog_1_method_23_code (3 : Nat) (Option.some Jvm.ClassFile.FieldType.int)) ∈ mj_tbl := mj_w 821 (by decide +kernel) (by decide +kernel)
theorem tw767 : (Jvm.Cond.instanceMethod ({ cls := "LeaseLand", name := "refusalOfRight", desc := "(LLeaseLand$Holding;I)I" } : Jvm.MethodName)) ∈ mj_tbl := mj_w 820 (by decide +kernel) (by decide +kernel)
theorem ty_X11_refusalOfRight : mj_YV 11 yX11_refusalOfRight cX11_refusalOfRight 3 (some .int) 2 := ⟨⟨tw768, tw1, by decide +kernel, by decide +kernel, by decide +kernel⟩, tw767, mj_w 1 (by decide +kernel) (by decide +kernel), _, rfl, rfl⟩
theorem tw764 : (Jvm.Cond.code ({ cls := "LeaseLand$Acts", name := "inForce", desc := "(II)LLeaseLand$Act;" } : Jvm.MethodName) prog_3_method_5_code (5 : Nat) (Option.some (Jvm.ClassFile.FieldType.object "LeaseLand$Act"))) ∈ mj_tbl := mj_w 817 (by decide +kernel) (by decide +kernel)
theorem tw762 : (Jvm.Cond.instanceMethod ({ cls := "LeaseLand$Acts", name := "inForce", desc := "(II)LLeaseLand$Act;" } : Jvm.MethodName)) ∈ mj_tbl := mj_w 815 (by decide +kernel) (by decide +kernel)
theorem tw763 : (Jvm.Cond.selects "LeaseLand$Acts" ({ cls := "LeaseLand$Acts", name := "inForce", desc := "(II)LLeaseLand$Act;" } : Jvm.MethodName) ({ cls := "LeaseLand$Acts", name := "inForce", desc := "(II)LLeaseLand$Act;" } : Jvm.MethodName)) ∈ mj_tbl := mj_w 816 (by decide +kernel) (by decide +kernel)
theorem ty_X1_inForce : mj_YV 1 yX1_inForce cX1_inForce 5 (some (.object "LeaseLand$Act")) 2 := ⟨⟨tw764, tw4, by decide +kernel, by decide +kernel, by decide +kernel⟩, tw762, tw763, _, rfl, rfl⟩
theorem tw772 : (Jvm.Cond.code ({ cls := "LeaseLand$Reading", name := "isSo", desc := "([ILLeaseLand$Land;LLeaseLand$Holding;II)Z" } : Jvm.MethodName) prog_10_method_2_code (8 : Nat) (Option.some Jvm.ClassFile.FieldType.boolean)) ∈ mj_tbl := mj_w 825 (by decide +kernel) (by decide +kernel)
theorem tw770 : (Jvm.Cond.instanceMethod ({ cls := "LeaseLand$Reading", name := "isSo", desc := "([ILLeaseLand$Land;LLeaseLand$Holding;II)Z" } : Jvm.MethodName)) ∈ mj_tbl := mj_w 823 (by decide +kernel) (by decide +kernel)
theorem tw771 : (Jvm.Cond.selects "LeaseLand$Reading" ({ cls := "LeaseLand$Reading", name := "isSo", desc := "([ILLeaseLand$Land;LLeaseLand$Holding;II)Z" } : Jvm.MethodName) ({ cls := "LeaseLand$Reading", name := "isSo", desc := "([ILLeaseLand$Land;LLeaseLand$Holding;II)Z" } : Jvm.MethodName)) ∈ mj_tbl := mj_w 824 (by decide +kernel) (by decide +kernel)
theorem ty_X8_isSo : mj_YV 8 yX8_isSo cX8_isSo 8 (some .boolean) 5 := ⟨⟨tw772, tw6, by decide +kernel, by decide +kernel, by decide +kernel⟩, tw770, tw771, _, rfl, rfl⟩
def rm_X11_right : Room := { frames := 10, cells := 0, slots := 0, locals := 297 }
theorem dX11_right_0 : decode cX11_right 0 = .ok (.aload_n 0, 1) := by decide +kernel
theorem dX11_right_1 : decode cX11_right 1 = .ok (.getfield 10, 3) := by decide +kernel
theorem dX11_right_4 : decode cX11_right 4 = .ok (.iload_n 1, 1) := by decide +kernel
theorem dX11_right_5 : decode cX11_right 5 = .ok (.invokevirtual 93, 3) := by decide +kernel
theorem dX11_right_8 : decode cX11_right 8 = .ok (.astore_n 3, 1) := by decide +kernel
theorem dX11_right_9 : decode cX11_right 9 = .ok (.aload_n 0, 1) := by decide +kernel
theorem dX11_right_10 : decode cX11_right 10 = .ok (.getfield 19, 3) := by decide +kernel
theorem dX11_right_13 : decode cX11_right 13 = .ok (.iload_n 2, 1) := by decide +kernel
theorem dX11_right_14 : decode cX11_right 14 = .ok (.aload_n 0, 1) := by decide +kernel
theorem dX11_right_15 : decode cX11_right 15 = .ok (.getfield 10, 3) := by decide +kernel
theorem dX11_right_18 : decode cX11_right 18 = .ok (.getfield 66, 3) := by decide +kernel
theorem dX11_right_21 : decode cX11_right 21 = .ok (.invokevirtual 223, 3) := by decide +kernel
theorem dX11_right_24 : decode cX11_right 24 = .ok (.astore 4, 2) := by decide +kernel
theorem dX11_right_26 : decode cX11_right 26 = .ok (.aload_n 3, 1) := by decide +kernel
theorem dX11_right_27 : decode cX11_right 27 = .ok (.ifnull 19, 3) := by decide +kernel
theorem dX11_right_30 : decode cX11_right 30 = .ok (.aload 4, 2) := by decide +kernel
theorem dX11_right_32 : decode cX11_right 32 = .ok (.ifnull 14, 3) := by decide +kernel
theorem dX11_right_35 : decode cX11_right 35 = .ok (.aload_n 0, 1) := by decide +kernel
theorem dX11_right_36 : decode cX11_right 36 = .ok (.getfield 10, 3) := by decide +kernel
theorem dX11_right_39 : decode cX11_right 39 = .ok (.aload_n 3, 1) := by decide +kernel
theorem dX11_right_40 : decode cX11_right 40 = .ok (.invokevirtual 111, 3) := by decide +kernel
theorem dX11_right_43 : decode cX11_right 43 = .ok (.ifCond .ne 10, 3) := by decide +kernel
theorem dX11_right_46 : decode cX11_right 46 = .ok (.aload_n 0, 1) := by decide +kernel
theorem dX11_right_47 : decode cX11_right 47 = .ok (.aload_n 3, 1) := by decide +kernel
theorem dX11_right_48 : decode cX11_right 48 = .ok (.iload_n 2, 1) := by decide +kernel
theorem dX11_right_49 : decode cX11_right 49 = .ok (.invokevirtual 227, 3) := by decide +kernel
theorem dX11_right_52 : decode cX11_right 52 = .ok (.ireturn, 1) := by decide +kernel
theorem dX11_right_53 : decode cX11_right 53 = .ok (.aload_n 0, 1) := by decide +kernel
theorem dX11_right_54 : decode cX11_right 54 = .ok (.getfield 26, 3) := by decide +kernel
theorem dX11_right_57 : decode cX11_right 57 = .ok (.aload 4, 2) := by decide +kernel
theorem dX11_right_59 : decode cX11_right 59 = .ok (.getfield 231, 3) := by decide +kernel
theorem dX11_right_62 : decode cX11_right 62 = .ok (.aload_n 0, 1) := by decide +kernel
theorem dX11_right_63 : decode cX11_right 63 = .ok (.getfield 10, 3) := by decide +kernel
theorem dX11_right_66 : decode cX11_right 66 = .ok (.aload_n 3, 1) := by decide +kernel
theorem dX11_right_67 : decode cX11_right 67 = .ok (.aload_n 0, 1) := by decide +kernel
theorem dX11_right_68 : decode cX11_right 68 = .ok (.getfield 10, 3) := by decide +kernel
theorem dX11_right_71 : decode cX11_right 71 = .ok (.getfield 66, 3) := by decide +kernel
theorem dX11_right_74 : decode cX11_right 74 = .ok (.bipush (-6), 2) := by decide +kernel
theorem dX11_right_76 : decode cX11_right 76 = .ok (.invokevirtual 236, 3) := by decide +kernel
theorem dX11_right_79 : decode cX11_right 79 = .ok (.ifCond .eq 7, 3) := by decide +kernel
theorem dX11_right_82 : decode cX11_right 82 = .ok (.iconst 1, 1) := by decide +kernel
theorem dX11_right_83 : decode cX11_right 83 = .ok (.goto 4, 3) := by decide +kernel
theorem dX11_right_86 : decode cX11_right 86 = .ok (.iconst 0, 1) := by decide +kernel
theorem dX11_right_87 : decode cX11_right 87 = .ok (.ireturn, 1) := by decide +kernel
def vb_X11_right_46 (post : Int32 → mj_M → Prop) (l0 : Nat) (l2 : Int32) (l3 : Nat) (M : mj_M) : Prop := mj_tag M l0 = 12 ∧ vc_X11_refusalOfRight l0 l3 l2 M (fun r2 M3 => post r2 M3)
def vc_X11_right (l0 : Nat) (l1 : Int32) (l2 : Int32) (M : mj_M) (post : Int32 → mj_M → Prop) : Prop := mj_tag M l0 = 12 ∧ mj_tag M (mj_r M l0 0) = 5 ∧ vc_X4_find (mj_r M l0 0) l1 M (fun r6 M7 => mj_tag M7 l0 = 12 ∧ mj_tag M7 (mj_r M7 l0 0) = 5 ∧ mj_tag M7 (mj_r M7 l0 1) = 2 ∧ vc_X1_inForce (mj_r M7 l0 1) l2 (mj_i M7 (mj_r M7 l0 0) 0) M7 (fun r11 M12 => if r6 = 0 then (vb_X11_right_46 post l0 l2 r6 M12) else (if r11 = 0 then (vb_X11_right_46 post l0 l2 r6 M12) else (mj_tag M12 l0 = 12 ∧ mj_tag M12 (mj_r M12 l0 0) = 5 ∧ vc_X4_isInForce (mj_r M12 l0 0) r6 M12 (fun r17 M18 => if r17 = true then (mj_tag M18 l0 = 12 ∧ mj_tag M18 r11 = 1 ∧ mj_tag M18 (mj_r M18 l0 0) = 5 ∧ mj_tag M18 (mj_r M18 l0 2) = 9 ∧ vc_X8_isSo (mj_r M18 l0 2) (mj_r M18 r11 2) (mj_r M18 l0 0) r6 (mj_i M18 (mj_r M18 l0 0) 0) ((-6)) M18 (fun r24 M25 => if r24 = true then (post 1 M25) else (post 0 M25))) else (vb_X11_right_46 post l0 l2 r6 M18))))))
set_option maxHeartbeats 4000000 in
set_option maxRecDepth 100000 in
theorem xb_X11_right_46 {g : mj_G} {post : Int32 → mj_M → Prop} (hC : mj_C g yX11_right cX11_right 5 (some .int) rm_X11_right) (hE : mj_E g mj_jI post 0 0) (l0 : Nat) (l2 : Int32) (l3 : Nat) (M : mj_M) (h : vb_X11_right_46 post l0 l2 l3 M) : mj_X g 46 [(0, vR l0), (2, vI l2), (3, vR l3)] [] M 0 0 := by
  simp only [vb_X11_right_46] at h
  refine mx_aload_n (j := 0) hC dX11_right_46 rfl rfl ?_
  refine mx_aload_n (j := 2) hC dX11_right_47 rfl rfl ?_
  refine mx_iload_n (j := 1) hC dX11_right_48 rfl rfl ?_
  obtain ⟨ht1, h⟩ := h
  refine mx_callV (inj := mj_jI) (As := [vR l3, vI l2]) (st := []) hC (ct_X11_refusalOfRight l0 l3 l2 M _ h) ty_X11_refusalOfRight tw765 ht1 rfl (Nat.le_of_ble_eq_true rfl) ⟨rfl, rfl, ⟨by decide, by decide⟩, by decide, by decide⟩ dX11_right_49 (fun r2 M3 h => ?_)
  show mj_X g 52 [(0, vR l0), (2, vI l2), (3, vR l3)] [vI r2] M3 0 0
  exact mx_iret hC hE rfl dX11_right_52 h
set_option maxHeartbeats 4000000 in
set_option maxRecDepth 100000 in
theorem ct_X11_right {l : Launch} {base : Nat} {D : va_G} {A : ClassId × ClassId × ClassId} (l0 : Nat) (l1 : Int32) (l2 : Int32) (M : mj_M) (post : Int32 → mj_M → Prop) (h : vc_X11_right l0 l1 l2 M post) : mj_Met l base D A mj_jI yX11_right cX11_right 5 (some .int) rm_X11_right 0 0 [vR l0, vI l1, vI l2] M post := by
  refine mj_entry (by decide +kernel) (Nat.le_of_ble_eq_true rfl) (fun g hC hE h1 h2 h3 h4 => ?_)
  show mj_X g 0 [(0, vR l0), (1, vI l1), (2, vI l2)] [] M 0 0
  simp only [vc_X11_right] at h
  refine mx_aload_n (j := 0) hC dX11_right_0 rfl rfl ?_
  obtain ⟨ht4, h⟩ := h
  refine mx_get (v := vR (mj_r M l0 0)) hC tf_X11_10 ht4 rfl dX11_right_1 ?_
  refine mx_iload_n (j := 1) hC dX11_right_4 rfl rfl ?_
  obtain ⟨ht5, h⟩ := h
  refine mx_callV (inj := mj_jR) (As := [vI l1]) (st := []) hC (ct_X4_find (mj_r M l0 0) l1 M _ h) ty_X4_find tw397 ht5 rfl (Nat.le_of_ble_eq_true rfl) ⟨rfl, rfl, ⟨by decide, by decide⟩, by decide, by decide⟩ dX11_right_5 (fun r6 M7 h => ?_)
  show mj_X g 8 [(0, vR l0), (1, vI l1), (2, vI l2)] [vR r6] M7 0 0
  refine mx_astore_n (L' := [(3, vR r6), (0, vR l0), (1, vI l1), (2, vI l2)]) hC dX11_right_8 rfl (by decide) rfl ?_
  refine mx_aload_n (j := 1) hC dX11_right_9 rfl rfl ?_
  obtain ⟨ht8, h⟩ := h
  refine mx_get (v := vR (mj_r M7 l0 1)) hC tf_X11_19 ht8 rfl dX11_right_10 ?_
  refine mx_iload_n (j := 3) hC dX11_right_13 rfl rfl ?_
  refine mx_aload_n (j := 1) hC dX11_right_14 rfl rfl ?_
  refine mx_get (v := vR (mj_r M7 l0 0)) hC tf_X11_10 ht8 rfl dX11_right_15 ?_
  obtain ⟨ht9, h⟩ := h
  refine mx_get (v := vI (mj_i M7 (mj_r M7 l0 0) 0)) hC tf_X11_66 ht9 rfl dX11_right_18 ?_
  obtain ⟨ht10, h⟩ := h
  refine mx_callV (inj := mj_jR) (As := [vI l2, vI (mj_i M7 (mj_r M7 l0 0) 0)]) (st := []) hC (ct_X1_inForce (mj_r M7 l0 1) l2 (mj_i M7 (mj_r M7 l0 0) 0) M7 _ h) ty_X1_inForce tw761 ht10 rfl (Nat.le_of_ble_eq_true rfl) ⟨rfl, rfl, ⟨by decide, by decide⟩, by decide, by decide⟩ dX11_right_21 (fun r11 M12 h => ?_)
  show mj_X g 24 [(3, vR r6), (0, vR l0), (1, vI l1), (2, vI l2)] [vR r11] M12 0 0
  refine mx_astore (L' := [(4, vR r11), (3, vR r6), (0, vR l0), (1, vI l1), (2, vI l2)]) hC dX11_right_24 (by decide) rfl ?_
  refine mx_aload_n (j := 1) hC dX11_right_26 rfl rfl ?_
  refine mx_ifnull (tgt := 46) hC dX11_right_27 (by decide) (fun hc13 => ?_) (fun hc13 => ?_)
  · replace h := mj_yy hc13 h
    refine mx_sub (L' := [(0, vR l0), (2, vI l2), (3, vR r6)]) [2, 4, 1] rfl ?_
    exact show mj_X g 46 [(0, vR l0), (2, vI l2), (3, vR r6)] [] M12 0 0 from (xb_X11_right_46 hC hE l0 l2 r6 M12 h)
  · replace h := mj_nn hc13 h
    refine mx_aload (j := 0) hC dX11_right_30 rfl ?_
    refine mx_ifnull (tgt := 46) hC dX11_right_32 (by decide) (fun hc14 => ?_) (fun hc14 => ?_)
    · replace h := mj_yy hc14 h
      refine mx_sub (L' := [(0, vR l0), (2, vI l2), (3, vR r6)]) [2, 4, 1] rfl ?_
      exact show mj_X g 46 [(0, vR l0), (2, vI l2), (3, vR r6)] [] M12 0 0 from (xb_X11_right_46 hC hE l0 l2 r6 M12 h)
    · replace h := mj_nn hc14 h
      refine mx_aload_n (j := 2) hC dX11_right_35 rfl rfl ?_
      obtain ⟨ht15, h⟩ := h
      refine mx_get (v := vR (mj_r M12 l0 0)) hC tf_X11_10 ht15 rfl dX11_right_36 ?_
      refine mx_aload_n (j := 1) hC dX11_right_39 rfl rfl ?_
      obtain ⟨ht16, h⟩ := h
      refine mx_callV (inj := mj_jB) (As := [vR r6]) (st := []) hC (ct_X4_isInForce (mj_r M12 l0 0) r6 M12 _ h) ty_X4_isInForce tw458 ht16 rfl (Nat.le_of_ble_eq_true rfl) ⟨rfl, rfl, ⟨by decide, by decide⟩, by decide, by decide⟩ dX11_right_40 (fun r17 M18 h => ?_)
      show mj_X g 43 [(4, vR r11), (3, vR r6), (0, vR l0), (1, vI l1), (2, vI l2)] [vI (mj_b r17)] M18 0 0
      refine mx_ifneB (tgt := 53) hC dX11_right_43 (by decide) (fun hc19 => ?_) (fun hc19 => ?_)
      · replace h := mj_yy hc19 h
        refine mx_aload_n (j := 2) hC dX11_right_53 rfl rfl ?_
        obtain ⟨ht20, h⟩ := h
        refine mx_get (v := vR (mj_r M18 l0 2)) hC tf_X11_26 ht20 rfl dX11_right_54 ?_
        refine mx_aload (j := 0) hC dX11_right_57 rfl ?_
        obtain ⟨ht21, h⟩ := h
        refine mx_get (v := vR (mj_r M18 r11 2)) hC tf_X11_231 ht21 rfl dX11_right_59 ?_
        refine mx_aload_n (j := 2) hC dX11_right_62 rfl rfl ?_
        refine mx_get (v := vR (mj_r M18 l0 0)) hC tf_X11_10 ht20 rfl dX11_right_63 ?_
        refine mx_aload_n (j := 1) hC dX11_right_66 rfl rfl ?_
        refine mx_aload_n (j := 2) hC dX11_right_67 rfl rfl ?_
        refine mx_get (v := vR (mj_r M18 l0 0)) hC tf_X11_10 ht20 rfl dX11_right_68 ?_
        obtain ⟨ht22, h⟩ := h
        refine mx_get (v := vI (mj_i M18 (mj_r M18 l0 0) 0)) hC tf_X11_66 ht22 rfl dX11_right_71 ?_
        refine mx_bipush (v := (-6)) hC dX11_right_74 (by decide) ?_
        obtain ⟨ht23, h⟩ := h
        refine mx_callV (inj := mj_jB) (As := [vR (mj_r M18 r11 2), vR (mj_r M18 l0 0), vR r6, vI (mj_i M18 (mj_r M18 l0 0) 0), vI ((-6))]) (st := []) hC (ct_X8_isSo (mj_r M18 l0 2) (mj_r M18 r11 2) (mj_r M18 l0 0) r6 (mj_i M18 (mj_r M18 l0 0) 0) ((-6)) M18 _ h) ty_X8_isSo tw769 ht23 rfl (Nat.le_of_ble_eq_true rfl) ⟨rfl, rfl, ⟨by decide, by decide⟩, by decide, by decide⟩ dX11_right_76 (fun r24 M25 h => ?_)
        show mj_X g 79 [(4, vR r11), (3, vR r6), (0, vR l0), (1, vI l1), (2, vI l2)] [vI (mj_b r24)] M25 0 0
        refine mx_ifeqB (tgt := 86) hC dX11_right_79 (by decide) (fun hc26 => ?_) (fun hc26 => ?_)
        · replace h := mj_nn hc26 h
          refine mx_iconst (v := 0) hC dX11_right_86 (by decide) ?_
          exact mx_iret hC hE rfl dX11_right_87 h
        · replace h := mj_yy hc26 h
          refine mx_iconst (v := 1) hC dX11_right_82 (by decide) ?_
          refine mx_goto (tgt := 87) hC dX11_right_83 (by decide) ?_
          exact mx_iret hC hE rfl dX11_right_87 h
      · replace h := mj_nn hc19 h
        refine mx_sub (L' := [(0, vR l0), (2, vI l2), (3, vR r6)]) [2, 4, 1] rfl ?_
        exact show mj_X g 46 [(0, vR l0), (2, vI l2), (3, vR r6)] [] M18 0 0 from (xb_X11_right_46 hC hE l0 l2 r6 M18 h)

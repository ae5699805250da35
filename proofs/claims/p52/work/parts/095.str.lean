/-! String.indexOf of the one String constant, by hand: Latin-1, seven bytes. -/
theorem s9_X11_isFact_0 : decode cX11_isFact 0 = .ok (.iload_n 0, 1) := by decide +kernel
theorem s9_X11_isFact_1 : decode cX11_isFact 1 = .ok (.invokestatic 201, 3) := by decide +kernel
theorem s9_X11_isFact_4 : decode cX11_isFact 4 = .ok (.ifCond .eq 18, 3) := by decide +kernel
theorem s9_X11_isFact_7 : decode cX11_isFact 7 = .ok (.ldc_w 434, 3) := by decide +kernel
theorem s9_X11_isFact_10 : decode cX11_isFact 10 = .ok (.iload_n 0, 1) := by decide +kernel
theorem s9_X11_isFact_11 : decode cX11_isFact 11 = .ok (.i2c, 1) := by decide +kernel
theorem s9_X11_isFact_12 : decode cX11_isFact 12 = .ok (.invokevirtual 436, 3) := by decide +kernel
theorem s9_X11_isFact_15 : decode cX11_isFact 15 = .ok (.ifCond .lt 7, 3) := by decide +kernel
theorem s9_X11_isFact_18 : decode cX11_isFact 18 = .ok (.iconst 1, 1) := by decide +kernel
theorem s9_X11_isFact_19 : decode cX11_isFact 19 = .ok (.goto 4, 3) := by decide +kernel
theorem s9_X11_isFact_22 : decode cX11_isFact 22 = .ok (.iconst 0, 1) := by decide +kernel
theorem s9_X11_isFact_23 : decode cX11_isFact 23 = .ok (.ireturn, 1) := by decide +kernel
theorem s9_X11_isSign_0 : decode cX11_isSign 0 = .ok (.iload_n 0, 1) := by decide +kernel
theorem s9_X11_isSign_1 : decode cX11_isSign 1 = .ok (.bipush 33, 2) := by decide +kernel
theorem s9_X11_isSign_3 : decode cX11_isSign 3 = .ok (.if_icmp .lt 13, 3) := by decide +kernel
theorem s9_X11_isSign_6 : decode cX11_isSign 6 = .ok (.iload_n 0, 1) := by decide +kernel
theorem s9_X11_isSign_7 : decode cX11_isSign 7 = .ok (.bipush 126, 2) := by decide +kernel
theorem s9_X11_isSign_9 : decode cX11_isSign 9 = .ok (.if_icmp .gt 7, 3) := by decide +kernel
theorem s9_X11_isSign_12 : decode cX11_isSign 12 = .ok (.iconst 1, 1) := by decide +kernel
theorem s9_X11_isSign_13 : decode cX11_isSign 13 = .ok (.goto 4, 3) := by decide +kernel
theorem s9_X11_isSign_16 : decode cX11_isSign 16 = .ok (.iconst 0, 1) := by decide +kernel
theorem s9_X11_isSign_17 : decode cX11_isSign 17 = .ok (.ireturn, 1) := by decide +kernel
theorem s9_J0_indexOf_0f7a4_0 : decode cJ0_indexOf_0f7a4 0 = .ok (.aload_n 0, 1) := by decide +kernel
theorem s9_J0_indexOf_0f7a4_1 : decode cJ0_indexOf_0f7a4 1 = .ok (.iload_n 1, 1) := by decide +kernel
theorem s9_J0_indexOf_0f7a4_2 : decode cJ0_indexOf_0f7a4 2 = .ok (.iconst 0, 1) := by decide +kernel
theorem s9_J0_indexOf_0f7a4_3 : decode cJ0_indexOf_0f7a4 3 = .ok (.invokevirtual 633, 3) := by decide +kernel
theorem s9_J0_indexOf_0f7a4_6 : decode cJ0_indexOf_0f7a4 6 = .ok (.ireturn, 1) := by decide +kernel
theorem s9_J0_indexOf_7cf53_0 : decode cJ0_indexOf_7cf53 0 = .ok (.aload_n 0, 1) := by decide +kernel
theorem s9_J0_indexOf_7cf53_1 : decode cJ0_indexOf_7cf53 1 = .ok (.invokevirtual 492, 3) := by decide +kernel
theorem s9_J0_indexOf_7cf53_4 : decode cJ0_indexOf_7cf53 4 = .ok (.ifCond .eq 19, 3) := by decide +kernel
theorem s9_J0_indexOf_7cf53_7 : decode cJ0_indexOf_7cf53 7 = .ok (.aload_n 0, 1) := by decide +kernel
theorem s9_J0_indexOf_7cf53_8 : decode cJ0_indexOf_7cf53 8 = .ok (.getfield 9, 3) := by decide +kernel
theorem s9_J0_indexOf_7cf53_11 : decode cJ0_indexOf_7cf53 11 = .ok (.iload_n 1, 1) := by decide +kernel
theorem s9_J0_indexOf_7cf53_12 : decode cJ0_indexOf_7cf53 12 = .ok (.iload_n 2, 1) := by decide +kernel
theorem s9_J0_indexOf_7cf53_13 : decode cJ0_indexOf_7cf53 13 = .ok (.aload_n 0, 1) := by decide +kernel
theorem s9_J0_indexOf_7cf53_14 : decode cJ0_indexOf_7cf53 14 = .ok (.invokevirtual 505, 3) := by decide +kernel
theorem s9_J0_indexOf_7cf53_17 : decode cJ0_indexOf_7cf53 17 = .ok (.invokestatic 637, 3) := by decide +kernel
theorem s9_J0_indexOf_7cf53_20 : decode cJ0_indexOf_7cf53 20 = .ok (.goto 16, 3) := by decide +kernel
theorem s9_J0_indexOf_7cf53_36 : decode cJ0_indexOf_7cf53 36 = .ok (.ireturn, 1) := by decide +kernel
theorem s9_J0_length_8abf5_0 : decode cJ0_length_8abf5 0 = .ok (.aload_n 0, 1) := by decide +kernel
theorem s9_J0_length_8abf5_1 : decode cJ0_length_8abf5 1 = .ok (.getfield 9, 3) := by decide +kernel
theorem s9_J0_length_8abf5_4 : decode cJ0_length_8abf5 4 = .ok (.arraylength, 1) := by decide +kernel
theorem s9_J0_length_8abf5_5 : decode cJ0_length_8abf5 5 = .ok (.aload_n 0, 1) := by decide +kernel
theorem s9_J0_length_8abf5_6 : decode cJ0_length_8abf5 6 = .ok (.invokevirtual 335, 3) := by decide +kernel
theorem s9_J0_length_8abf5_9 : decode cJ0_length_8abf5 9 = .ok (.ishr, 1) := by decide +kernel
theorem s9_J0_length_8abf5_10 : decode cJ0_length_8abf5 10 = .ok (.ireturn, 1) := by decide +kernel
theorem s9_J0_coder_7d493_0 : decode cJ0_coder_7d493 0 = .ok (.getstatic 38, 3) := by decide +kernel
theorem s9_J0_coder_7d493_3 : decode cJ0_coder_7d493 3 = .ok (.ifCond .eq 10, 3) := by decide +kernel
theorem s9_J0_coder_7d493_6 : decode cJ0_coder_7d493 6 = .ok (.aload_n 0, 1) := by decide +kernel
theorem s9_J0_coder_7d493_7 : decode cJ0_coder_7d493 7 = .ok (.getfield 15, 3) := by decide +kernel
theorem s9_J0_coder_7d493_10 : decode cJ0_coder_7d493 10 = .ok (.goto 4, 3) := by decide +kernel
theorem s9_J0_coder_7d493_13 : decode cJ0_coder_7d493 13 = .ok (.iconst 1, 1) := by decide +kernel
theorem s9_J0_coder_7d493_14 : decode cJ0_coder_7d493 14 = .ok (.ireturn, 1) := by decide +kernel
theorem s9_J0_isLatin1_aae02_0 : decode cJ0_isLatin1_aae02 0 = .ok (.getstatic 38, 3) := by decide +kernel
theorem s9_J0_isLatin1_aae02_3 : decode cJ0_isLatin1_aae02 3 = .ok (.ifCond .eq 14, 3) := by decide +kernel
theorem s9_J0_isLatin1_aae02_6 : decode cJ0_isLatin1_aae02 6 = .ok (.aload_n 0, 1) := by decide +kernel
theorem s9_J0_isLatin1_aae02_7 : decode cJ0_isLatin1_aae02 7 = .ok (.getfield 15, 3) := by decide +kernel
theorem s9_J0_isLatin1_aae02_10 : decode cJ0_isLatin1_aae02 10 = .ok (.ifCond .ne 7, 3) := by decide +kernel
theorem s9_J0_isLatin1_aae02_13 : decode cJ0_isLatin1_aae02 13 = .ok (.iconst 1, 1) := by decide +kernel
theorem s9_J0_isLatin1_aae02_14 : decode cJ0_isLatin1_aae02 14 = .ok (.goto 4, 3) := by decide +kernel
theorem s9_J0_isLatin1_aae02_17 : decode cJ0_isLatin1_aae02 17 = .ok (.iconst 0, 1) := by decide +kernel
theorem s9_J0_isLatin1_aae02_18 : decode cJ0_isLatin1_aae02 18 = .ok (.ireturn, 1) := by decide +kernel
theorem s9_J1_indexOf_4cfef_0 : decode cJ1_indexOf_4cfef 0 = .ok (.iload_n 1, 1) := by decide +kernel
theorem s9_J1_indexOf_4cfef_1 : decode cJ1_indexOf_4cfef 1 = .ok (.invokestatic 88, 3) := by decide +kernel
theorem s9_J1_indexOf_4cfef_4 : decode cJ1_indexOf_4cfef 4 = .ok (.ifCond .ne 5, 3) := by decide +kernel
theorem s9_J1_indexOf_4cfef_7 : decode cJ1_indexOf_4cfef 7 = .ok (.iconst (-1), 1) := by decide +kernel
theorem s9_J1_indexOf_4cfef_8 : decode cJ1_indexOf_4cfef 8 = .ok (.ireturn, 1) := by decide +kernel
theorem s9_J1_indexOf_4cfef_9 : decode cJ1_indexOf_4cfef 9 = .ok (.iload_n 2, 1) := by decide +kernel
theorem s9_J1_indexOf_4cfef_10 : decode cJ1_indexOf_4cfef 10 = .ok (.iconst 0, 1) := by decide +kernel
theorem s9_J1_indexOf_4cfef_11 : decode cJ1_indexOf_4cfef 11 = .ok (.invokestatic 92, 3) := by decide +kernel
theorem s9_J1_indexOf_4cfef_14 : decode cJ1_indexOf_4cfef 14 = .ok (.istore_n 2, 1) := by decide +kernel
theorem s9_J1_indexOf_4cfef_15 : decode cJ1_indexOf_4cfef 15 = .ok (.iload_n 3, 1) := by decide +kernel
theorem s9_J1_indexOf_4cfef_16 : decode cJ1_indexOf_4cfef 16 = .ok (.aload_n 0, 1) := by decide +kernel
theorem s9_J1_indexOf_4cfef_17 : decode cJ1_indexOf_4cfef 17 = .ok (.arraylength, 1) := by decide +kernel
theorem s9_J1_indexOf_4cfef_18 : decode cJ1_indexOf_4cfef 18 = .ok (.invokestatic 38, 3) := by decide +kernel
theorem s9_J1_indexOf_4cfef_21 : decode cJ1_indexOf_4cfef 21 = .ok (.istore_n 3, 1) := by decide +kernel
theorem s9_J1_indexOf_4cfef_22 : decode cJ1_indexOf_4cfef 22 = .ok (.iload_n 2, 1) := by decide +kernel
theorem s9_J1_indexOf_4cfef_23 : decode cJ1_indexOf_4cfef 23 = .ok (.iload_n 3, 1) := by decide +kernel
theorem s9_J1_indexOf_4cfef_24 : decode cJ1_indexOf_4cfef 24 = .ok (.if_icmp .lt 5, 3) := by decide +kernel
theorem s9_J1_indexOf_4cfef_27 : decode cJ1_indexOf_4cfef 27 = .ok (.iconst (-1), 1) := by decide +kernel
theorem s9_J1_indexOf_4cfef_28 : decode cJ1_indexOf_4cfef 28 = .ok (.ireturn, 1) := by decide +kernel
theorem s9_J1_indexOf_4cfef_29 : decode cJ1_indexOf_4cfef 29 = .ok (.aload_n 0, 1) := by decide +kernel
theorem s9_J1_indexOf_4cfef_30 : decode cJ1_indexOf_4cfef 30 = .ok (.iload_n 1, 1) := by decide +kernel
theorem s9_J1_indexOf_4cfef_31 : decode cJ1_indexOf_4cfef 31 = .ok (.iload_n 2, 1) := by decide +kernel
theorem s9_J1_indexOf_4cfef_32 : decode cJ1_indexOf_4cfef 32 = .ok (.iload_n 3, 1) := by decide +kernel
theorem s9_J1_indexOf_4cfef_33 : decode cJ1_indexOf_4cfef 33 = .ok (.invokestatic 95, 3) := by decide +kernel
theorem s9_J1_indexOf_4cfef_36 : decode cJ1_indexOf_4cfef 36 = .ok (.ireturn, 1) := by decide +kernel
theorem s9_J1_indexOfChar_4cfef_0 : decode cJ1_indexOfChar_4cfef 0 = .ok (.iload_n 1, 1) := by decide +kernel
theorem s9_J1_indexOfChar_4cfef_1 : decode cJ1_indexOfChar_4cfef 1 = .ok (.i2b, 1) := by decide +kernel
theorem s9_J1_indexOfChar_4cfef_2 : decode cJ1_indexOfChar_4cfef 2 = .ok (.istore 4, 2) := by decide +kernel
theorem s9_J1_indexOfChar_4cfef_4 : decode cJ1_indexOfChar_4cfef 4 = .ok (.iload_n 2, 1) := by decide +kernel
theorem s9_J1_indexOfChar_4cfef_5 : decode cJ1_indexOfChar_4cfef 5 = .ok (.istore 5, 2) := by decide +kernel
theorem s9_J1_indexOfChar_4cfef_7 : decode cJ1_indexOfChar_4cfef 7 = .ok (.iload 5, 2) := by decide +kernel
theorem s9_J1_indexOfChar_4cfef_9 : decode cJ1_indexOfChar_4cfef 9 = .ok (.iload_n 3, 1) := by decide +kernel
theorem s9_J1_indexOfChar_4cfef_10 : decode cJ1_indexOfChar_4cfef 10 = .ok (.if_icmp .ge 21, 3) := by decide +kernel
theorem s9_J1_indexOfChar_4cfef_13 : decode cJ1_indexOfChar_4cfef 13 = .ok (.aload_n 0, 1) := by decide +kernel
theorem s9_J1_indexOfChar_4cfef_14 : decode cJ1_indexOfChar_4cfef 14 = .ok (.iload 5, 2) := by decide +kernel
theorem s9_J1_indexOfChar_4cfef_16 : decode cJ1_indexOfChar_4cfef 16 = .ok (.baload, 1) := by decide +kernel
theorem s9_J1_indexOfChar_4cfef_17 : decode cJ1_indexOfChar_4cfef 17 = .ok (.iload 4, 2) := by decide +kernel
theorem s9_J1_indexOfChar_4cfef_19 : decode cJ1_indexOfChar_4cfef 19 = .ok (.if_icmp .ne 6, 3) := by decide +kernel
theorem s9_J1_indexOfChar_4cfef_22 : decode cJ1_indexOfChar_4cfef 22 = .ok (.iload 5, 2) := by decide +kernel
theorem s9_J1_indexOfChar_4cfef_24 : decode cJ1_indexOfChar_4cfef 24 = .ok (.ireturn, 1) := by decide +kernel
theorem s9_J1_indexOfChar_4cfef_25 : decode cJ1_indexOfChar_4cfef 25 = .ok (.iinc 5 1, 3) := by decide +kernel
theorem s9_J1_indexOfChar_4cfef_28 : decode cJ1_indexOfChar_4cfef 28 = .ok (.goto (-21), 3) := by decide +kernel
theorem s9_J1_indexOfChar_4cfef_31 : decode cJ1_indexOfChar_4cfef 31 = .ok (.iconst (-1), 1) := by decide +kernel
theorem s9_J1_indexOfChar_4cfef_32 : decode cJ1_indexOfChar_4cfef 32 = .ok (.ireturn, 1) := by decide +kernel
theorem s9_J1_canEncode_9a6ad_0 : decode cJ1_canEncode_9a6ad 0 = .ok (.iload_n 0, 1) := by decide +kernel
theorem s9_J1_canEncode_9a6ad_1 : decode cJ1_canEncode_9a6ad 1 = .ok (.ifCond .lt 14, 3) := by decide +kernel
theorem s9_J1_canEncode_9a6ad_4 : decode cJ1_canEncode_9a6ad 4 = .ok (.iload_n 0, 1) := by decide +kernel
theorem s9_J1_canEncode_9a6ad_5 : decode cJ1_canEncode_9a6ad 5 = .ok (.sipush 255, 3) := by decide +kernel
theorem s9_J1_canEncode_9a6ad_8 : decode cJ1_canEncode_9a6ad 8 = .ok (.if_icmp .gt 7, 3) := by decide +kernel
theorem s9_J1_canEncode_9a6ad_11 : decode cJ1_canEncode_9a6ad 11 = .ok (.iconst 1, 1) := by decide +kernel
theorem s9_J1_canEncode_9a6ad_12 : decode cJ1_canEncode_9a6ad 12 = .ok (.goto 4, 3) := by decide +kernel
theorem s9_J1_canEncode_9a6ad_15 : decode cJ1_canEncode_9a6ad 15 = .ok (.iconst 0, 1) := by decide +kernel
theorem s9_J1_canEncode_9a6ad_16 : decode cJ1_canEncode_9a6ad 16 = .ok (.ireturn, 1) := by decide +kernel
theorem w9_ll : (Jvm.Cond.initialized "LeaseLand") ∈ mj_tbl := mj_w 7 (by decide +kernel) (by decide +kernel)
theorem w9_sgS : (Jvm.Cond.static ({ cls := "LeaseLand", name := "isSign", desc := "(I)Z" } : Jvm.MethodName)) ∈ mj_tbl := mj_w 464 (by decide +kernel) (by decide +kernel)
theorem w9_sgK : (Jvm.Cond.code ({ cls := "LeaseLand", name := "isSign", desc := "(I)Z" } : Jvm.MethodName) prog_1_method_66_code (1 : Nat) (Option.some Jvm.ClassFile.FieldType.boolean)) ∈ mj_tbl := mj_w 465 (by decide +kernel) (by decide +kernel)
theorem w9_sgL : (Jvm.Cond.methodLink "LeaseLand" (201 : Nat) ({ cls := "LeaseLand", name := "isSign", desc := "(I)Z" } : Jvm.MethodName)) ∈ mj_tbl := mj_w 463 (by decide +kernel) (by decide +kernel)
theorem w9_str : (Jvm.Cond.initialized "java/lang/String") ∈ mj_tbl := mj_w 19 (by decide +kernel) (by decide +kernel)
theorem w9_l1 : (Jvm.Cond.initialized "java/lang/StringLatin1") ∈ mj_tbl := mj_w 20 (by decide +kernel) (by decide +kernel)
theorem w9_mth : (Jvm.Cond.initialized "java/lang/Math") ∈ mj_tbl := mj_w 18 (by decide +kernel) (by decide +kernel)
theorem w9_maxS : (Jvm.Cond.static ({ cls := "java/lang/Math", name := "max", desc := "(II)I" } : Jvm.MethodName)) ∈ mj_tbl := mj_w 416 (by decide +kernel) (by decide +kernel)
theorem w9_maxK : (Jvm.Cond.code ({ cls := "java/lang/Math", name := "max", desc := "(II)I" } : Jvm.MethodName) prog_18_method_65_code (2 : Nat) (Option.some Jvm.ClassFile.FieldType.int)) ∈ mj_tbl := mj_w 417 (by decide +kernel) (by decide +kernel)
theorem w9_x1L : (Jvm.Cond.methodLink "LeaseLand" (436 : Nat) ({ cls := "java/lang/String", name := "indexOf", desc := "(I)I" } : Jvm.MethodName)) ∈ mj_tbl := mj_w 497 (by decide +kernel) (by decide +kernel)
theorem w9_x1I : (Jvm.Cond.instanceMethod ({ cls := "java/lang/String", name := "indexOf", desc := "(I)I" } : Jvm.MethodName)) ∈ mj_tbl := mj_w 498 (by decide +kernel) (by decide +kernel)
theorem w9_x1E : (Jvm.Cond.selects "java/lang/String" ({ cls := "java/lang/String", name := "indexOf", desc := "(I)I" } : Jvm.MethodName) ({ cls := "java/lang/String", name := "indexOf", desc := "(I)I" } : Jvm.MethodName)) ∈ mj_tbl := mj_w 499 (by decide +kernel) (by decide +kernel)
theorem w9_x1K : (Jvm.Cond.code ({ cls := "java/lang/String", name := "indexOf", desc := "(I)I" } : Jvm.MethodName) prog_19_method_79_code (2 : Nat) (Option.some Jvm.ClassFile.FieldType.int)) ∈ mj_tbl := mj_w 500 (by decide +kernel) (by decide +kernel)
theorem w9_x2L : (Jvm.Cond.methodLink "java/lang/String" (633 : Nat) ({ cls := "java/lang/String", name := "indexOf", desc := "(II)I" } : Jvm.MethodName)) ∈ mj_tbl := mj_w 501 (by decide +kernel) (by decide +kernel)
theorem w9_x2I : (Jvm.Cond.instanceMethod ({ cls := "java/lang/String", name := "indexOf", desc := "(II)I" } : Jvm.MethodName)) ∈ mj_tbl := mj_w 502 (by decide +kernel) (by decide +kernel)
theorem w9_x2E : (Jvm.Cond.selects "java/lang/String" ({ cls := "java/lang/String", name := "indexOf", desc := "(II)I" } : Jvm.MethodName) ({ cls := "java/lang/String", name := "indexOf", desc := "(II)I" } : Jvm.MethodName)) ∈ mj_tbl := mj_w 503 (by decide +kernel) (by decide +kernel)
theorem w9_x2K : (Jvm.Cond.code ({ cls := "java/lang/String", name := "indexOf", desc := "(II)I" } : Jvm.MethodName) prog_19_method_80_code (3 : Nat) (Option.some Jvm.ClassFile.FieldType.int)) ∈ mj_tbl := mj_w 504 (by decide +kernel) (by decide +kernel)
theorem w9_isL : (Jvm.Cond.methodLink "java/lang/String" (492 : Nat) ({ cls := "java/lang/String", name := "isLatin1", desc := "()Z" } : Jvm.MethodName)) ∈ mj_tbl := mj_w 505 (by decide +kernel) (by decide +kernel)
theorem w9_isI : (Jvm.Cond.instanceMethod ({ cls := "java/lang/String", name := "isLatin1", desc := "()Z" } : Jvm.MethodName)) ∈ mj_tbl := mj_w 506 (by decide +kernel) (by decide +kernel)
theorem w9_isE : (Jvm.Cond.selects "java/lang/String" ({ cls := "java/lang/String", name := "isLatin1", desc := "()Z" } : Jvm.MethodName) ({ cls := "java/lang/String", name := "isLatin1", desc := "()Z" } : Jvm.MethodName)) ∈ mj_tbl := mj_w 507 (by decide +kernel) (by decide +kernel)
theorem w9_isK : (Jvm.Cond.code ({ cls := "java/lang/String", name := "isLatin1", desc := "()Z" } : Jvm.MethodName) prog_19_method_154_code (1 : Nat) (Option.some Jvm.ClassFile.FieldType.boolean)) ∈ mj_tbl := mj_w 508 (by decide +kernel) (by decide +kernel)
theorem w9_csF : (Jvm.Cond.fieldLink "java/lang/String" (38 : Nat) "java/lang/String" "COMPACT_STRINGS" "Z") ∈ mj_tbl := mj_w 509 (by decide +kernel) (by decide +kernel)
theorem w9_leL : (Jvm.Cond.methodLink "java/lang/String" (505 : Nat) ({ cls := "java/lang/String", name := "length", desc := "()I" } : Jvm.MethodName)) ∈ mj_tbl := mj_w 511 (by decide +kernel) (by decide +kernel)
theorem w9_leI : (Jvm.Cond.instanceMethod ({ cls := "java/lang/String", name := "length", desc := "()I" } : Jvm.MethodName)) ∈ mj_tbl := mj_w 512 (by decide +kernel) (by decide +kernel)
theorem w9_leE : (Jvm.Cond.selects "java/lang/String" ({ cls := "java/lang/String", name := "length", desc := "()I" } : Jvm.MethodName) ({ cls := "java/lang/String", name := "length", desc := "()I" } : Jvm.MethodName)) ∈ mj_tbl := mj_w 513 (by decide +kernel) (by decide +kernel)
theorem w9_leK : (Jvm.Cond.code ({ cls := "java/lang/String", name := "length", desc := "()I" } : Jvm.MethodName) prog_19_method_54_code (1 : Nat) (Option.some Jvm.ClassFile.FieldType.int)) ∈ mj_tbl := mj_w 514 (by decide +kernel) (by decide +kernel)
theorem w9_coL : (Jvm.Cond.methodLink "java/lang/String" (335 : Nat) ({ cls := "java/lang/String", name := "coder", desc := "()B" } : Jvm.MethodName)) ∈ mj_tbl := mj_w 515 (by decide +kernel) (by decide +kernel)
theorem w9_coI : (Jvm.Cond.instanceMethod ({ cls := "java/lang/String", name := "coder", desc := "()B" } : Jvm.MethodName)) ∈ mj_tbl := mj_w 516 (by decide +kernel) (by decide +kernel)
theorem w9_coE : (Jvm.Cond.selects "java/lang/String" ({ cls := "java/lang/String", name := "coder", desc := "()B" } : Jvm.MethodName) ({ cls := "java/lang/String", name := "coder", desc := "()B" } : Jvm.MethodName)) ∈ mj_tbl := mj_w 517 (by decide +kernel) (by decide +kernel)
theorem w9_coK : (Jvm.Cond.code ({ cls := "java/lang/String", name := "coder", desc := "()B" } : Jvm.MethodName) prog_19_method_152_code (1 : Nat) (Option.some Jvm.ClassFile.FieldType.byte)) ∈ mj_tbl := mj_w 518 (by decide +kernel) (by decide +kernel)
theorem w9_x3L : (Jvm.Cond.methodLink "java/lang/String" (637 : Nat) ({ cls := "java/lang/StringLatin1", name := "indexOf", desc := "([BIII)I" } : Jvm.MethodName)) ∈ mj_tbl := mj_w 519 (by decide +kernel) (by decide +kernel)
theorem w9_x3S : (Jvm.Cond.static ({ cls := "java/lang/StringLatin1", name := "indexOf", desc := "([BIII)I" } : Jvm.MethodName)) ∈ mj_tbl := mj_w 520 (by decide +kernel) (by decide +kernel)
theorem w9_x3K : (Jvm.Cond.code ({ cls := "java/lang/StringLatin1", name := "indexOf", desc := "([BIII)I" } : Jvm.MethodName) prog_20_method_22_code (4 : Nat) (Option.some Jvm.ClassFile.FieldType.int)) ∈ mj_tbl := mj_w 521 (by decide +kernel) (by decide +kernel)
theorem w9_ceL : (Jvm.Cond.methodLink "java/lang/StringLatin1" (88 : Nat) ({ cls := "java/lang/StringLatin1", name := "canEncode", desc := "(I)Z" } : Jvm.MethodName)) ∈ mj_tbl := mj_w 522 (by decide +kernel) (by decide +kernel)
theorem w9_ceS : (Jvm.Cond.static ({ cls := "java/lang/StringLatin1", name := "canEncode", desc := "(I)Z" } : Jvm.MethodName)) ∈ mj_tbl := mj_w 523 (by decide +kernel) (by decide +kernel)
theorem w9_ceK : (Jvm.Cond.code ({ cls := "java/lang/StringLatin1", name := "canEncode", desc := "(I)Z" } : Jvm.MethodName) prog_20_method_4_code (1 : Nat) (Option.some Jvm.ClassFile.FieldType.boolean)) ∈ mj_tbl := mj_w 524 (by decide +kernel) (by decide +kernel)
theorem w9_maxL : (Jvm.Cond.methodLink "java/lang/StringLatin1" (92 : Nat) ({ cls := "java/lang/Math", name := "max", desc := "(II)I" } : Jvm.MethodName)) ∈ mj_tbl := mj_w 525 (by decide +kernel) (by decide +kernel)
theorem w9_minL : (Jvm.Cond.methodLink "java/lang/StringLatin1" (38 : Nat) ({ cls := "java/lang/Math", name := "min", desc := "(II)I" } : Jvm.MethodName)) ∈ mj_tbl := mj_w 526 (by decide +kernel) (by decide +kernel)
theorem w9_x4L : (Jvm.Cond.methodLink "java/lang/StringLatin1" (95 : Nat) ({ cls := "java/lang/StringLatin1", name := "indexOfChar", desc := "([BIII)I" } : Jvm.MethodName)) ∈ mj_tbl := mj_w 527 (by decide +kernel) (by decide +kernel)
theorem w9_x4S : (Jvm.Cond.static ({ cls := "java/lang/StringLatin1", name := "indexOfChar", desc := "([BIII)I" } : Jvm.MethodName)) ∈ mj_tbl := mj_w 528 (by decide +kernel) (by decide +kernel)
theorem w9_x4K : (Jvm.Cond.code ({ cls := "java/lang/StringLatin1", name := "indexOfChar", desc := "([BIII)I" } : Jvm.MethodName) prog_20_method_23_code (6 : Nat) (Option.some Jvm.ClassFile.FieldType.int)) ∈ mj_tbl := mj_w 529 (by decide +kernel) (by decide +kernel)
theorem w9_fco : (Jvm.Cond.fieldLink "java/lang/String" (15 : Nat) "java/lang/String" "coder" "B") ∈ mj_tbl := mj_w 961 (by decide +kernel) (by decide +kernel)
theorem w9_fva : (Jvm.Cond.fieldLink "java/lang/String" (9 : Nat) "java/lang/String" "value" "[B") ∈ mj_tbl := mj_w 962 (by decide +kernel) (by decide +kernel)
def sj_byte : List Int32 := [108, 116, 104, 114, 102, 111, 115]
def sj_K (a v base : Nat) (U : State) (H : Heap) : Prop := vk_S 1 [7] [sj_byte] (fun _ => a) (fun _ => v) (fun q => base ≤ q) U H
/-- at the start of a walk: where the one String constant lies -/
def sj_CS : mj_G → Nat → Nat → Prop := fun g a v => sj_K a v (mj_bs g) g.2.2.2.2.1 g.2.2.2.2.1.heap
def sj_RS : mj_G → Nat → Prop := fun g a => vk_R "LeaseLand" 434 "lthrfos" a g.2.2.2.2.1
def sj_Met {α : Type} (a v : Nat) (l : Launch) (base : Nat) (D : va_G) (A : mj_AT) (inj : α → Option mj_Vt) (y : MethodName) (cc : ByteArray) (nL : Nat) (ret : Option FieldType) (rm : Room) (mc ms : Nat) (av : List mj_Vt) (M : mj_M) (post : α → mj_M → Prop) : Prop :=
  Met l y (.code y cc nL ret :: mj_tbl) rm (va_Pc (av.map mj_val) (fun U => mj_U base D A M U ∧ sj_K a v base U U.heap)) (mj_Qc inj base D A post) mc ms (fun q => base ≤ q)
theorem sj_entry {α : Type} {a v : Nat} {l : Launch} {base : Nat} {D : va_G} {A : mj_AT} {inj : α → Option mj_Vt} {y : MethodName} {cc : ByteArray} {nL : Nat} {ret : Option FieldType} {rm : Room} {mc ms : Nat} {av : List mj_Vt} {M : mj_M} {post : α → mj_M → Prop}
    (hy : plainFor y = true) (hn : mj_nS av ≤ nL)
    (body : ∀ g : mj_G, mj_C g y cc nL ret rm → sj_CS g a v → mj_E g inj post mc ms → mj_l1 g = l → mj_bs g = base → mj_dd g = D → mj_aa g = A → mj_X g 0 (mj_av 0 av) [] M 0 0) : sj_Met a v l base D A inj y cc nL ret rm mc ms av M post := by
  refine va_MetF (cc := cc) (maxL := nL) (ret := ret) hy rfl ?_
  intro p e s m args below meth c s₁ B hml hv
  obtain ⟨rfl, ⟨hR, hK, hN, hZ, hbs⟩, hSK⟩ := hv
  have hts : ∀ w ∈ (Cond.code y cc nL ret :: mj_tbl), w.before _ s = true := atoms_spec (ws := Cond.code y cc nL ret :: mj_tbl) B.pre
  have hC : mj_C (p, l, e, (headSpec (Cond.code y cc nL ret :: mj_tbl) rm).room, s, m, (av.map mj_val).toArray, below, meth, c, MQ below (mj_Qc inj base D A post) (av.map mj_val).toArray s mc ms (fun q => base ≤ q), base, D, A) y cc nL ret rm :=
    ⟨B.exec, B.bytes, hml, B.returns, findClass_of_methodNamed B.named, (name_of_methodNamed B.named B.method).1, rfl, fun w hw => hts w (List.mem_cons_of_mem _ hw), hK, hN, hZ, hbs, B.notSynchronized⟩
  have hl := lv_entry (av.map mj_val) (n := nL) (by rw [mj_nS_eq]; exact hn)
  rw [lg_entry_eq]
  rw [mj_av_eq] at hl
  have hX := body _ hC hSK rfl rfl rfl rfl rfl
  exact hX s.heap _ [] hR (by rw [hml]; exact hl) va_S.rf
theorem sj_K.same {a v base : Nat} {u U : State} {H : Heap} (hv : U.vm = u.vm) (h : sj_K a v base u H) : sj_K a v base U H := vk_S.moved (by rw [hv]; exact Vm.Alike.refl _) h
theorem sj_blind {a v base : Nat} {D : va_G} {A : mj_AT} {M : mj_M} {av : List Value} : FrameBlind (va_Pc av (fun U => mj_U base D A M U ∧ sj_K a v base U U.heap)) := fun b U g mk q => by
  obtain ⟨q0, ⟨q1, q2, q3, q4, q5⟩, q6⟩ := q
  refine ⟨q0, ⟨q1, va_K.moved (u := U) (U := U.calling g mk b) (Vm.Alike.refl U.vm) q2, fun w hw => ?_, mj_Z.same (u := U) (U := U.calling g mk b) rfl q4, q5⟩, sj_K.same (u := U) (U := U.calling g mk b) rfl q6⟩
  obtain ⟨_, _, _, _, rfl⟩ := mj_nest_form hw
  exact va_Nw.same rfl (u := U) (U := U.calling g mk b) rfl (q3 _ hw)
section SJCALL
variable {g : mj_G} {y : MethodName} {cc : ByteArray} {nL : Nat} {ret : Option FieldType} {rm : Room} {pc : Nat} {L : List (Nat × mj_Vt)} {st stk : List mj_Vt} {M : mj_M} {k n : Nat}
theorem sj_UofC {a v : Nat} {p : Program} {l : Launch} {e : Env} {R : Room} {s : State} {m : MethodId} {args : Array Value} {below : List Frame} {meth : Method} {c : Code} {Q : State → Prop} {base : Nat} {D : va_G} {A : mj_AT} {H : Heap} {lc : List Loc} (hC : mj_C (p, l, e, R, s, m, args, below, meth, c, Q, base, D, A) y cc nL ret rm) (hSK : sj_K a v base s s.heap) (hR : mj_R base D A M H) (hS : va_S (fun q => base ≤ q) s.heap H lc) {U : State} (hU : U.heap = H) (hW : s.WarmedH U.vm) : mj_U base D A M U ∧ sj_K a v base U U.heap := by
  refine ⟨mj_UofC hC hR hS hU hW, ?_⟩
  rw [hU]
  exact (vk_S.kept hSK hS.2.1).moved hW.alike
theorem sj_callV {α : Type} {inj : α → Option mj_Vt} {y2 : MethodName} {b2 : ByteArray} {nL2 mc ms idx a v : Nat} {ret2 : Option FieldType} {rm2 : Room} {As : List mj_Vt} {post1 : α → mj_M → Prop} (hC : mj_C g y cc nL ret rm) (hSK : sj_CS g a v) (hM : sj_Met a v (mj_l1 g) (mj_bs g) (mj_dd g) (mj_aa g) inj y2 b2 nL2 ret2 rm2 mc ms (vR (a + 1) :: As) M post1) (hY : mj_Y y2 b2 nL2 ret2 As.length ∧ Cond.instanceMethod y2 ∈ mj_tbl ∧ Cond.selects y2.cls y2 y2 ∈ mj_tbl ∧ y2.cls = "java/lang/String") (hlk : Cond.methodLink y.cls idx y2 ∈ mj_tbl)
    (hstk : stk = As.reverse ++ vR (a + 1) :: st) (hcat : (st.map mj_cat).sum ≤ 8) (hrm : mj_rok rm rm2 nL2 mc ms k n) (hd : decode cc pc = .ok (.invokevirtual idx, 3)) (kk : ∀ r M1, post1 r M1 → mj_X g (pc + 3) L ((inj r).toList ++ st) M1 (k + mc) (n + ms)) : mj_X g pc L stk M k n := by
  obtain ⟨p, l, e, R, s, m, args, below, meth, c, Q, base, D, A⟩ := g
  subst hstk
  intro H ls lc hR hl hS
  have hC' := hC
  obtain ⟨hx, hb, hml, hr, hown, hnm, rfl, hts, hK, hN, hZ, hbs, -⟩ := hC
  obtain ⟨⟨y1, y3, y4⟩, y5, y6, y8⟩ := hY
  obtain ⟨r1, r2, r3, r4⟩ := hrm
  have hst : (List.map mj_val (As.reverse ++ vR (a + 1) :: st)) = (As.map mj_val).reverse ++ .ref a :: st.map mj_val := by
    rw [List.map_append, List.map_reverse, List.map_cons, show mj_val (vR (a + 1)) = .ref a from mj_rfs (Nat.succ_ne_zero a)]
  rw [hst]
  have hrecv : ∃ cellB : Cell, H[a]? = some cellB ∧ cellB.vm.isStatics = false ∧ s.vm.findClass y2.cls = some cellB.cls := by
    rw [y8]
    exact vk_recv (i := 0) hSK (by decide) hS
  refine mj_go (a := #[]) ?_ hl hS kk
  exact va_runV (g := F0 m pc ls ((As.map mj_val).reverse ++ .ref a :: st.map mj_val)) (rest := st.map mj_val) (C := y2.cls) (nL := nL) ⟨hx, hb, hml, hown, hts⟩ hM ⟨callB_of As.length hts (mj_good y1) rfl r1 r2 (hts _ y3) (hts _ hlk) y4 r3, hts _ y5, hts _ y6⟩ (As := As.map mj_val) ⟨sj_blind, hrecv, fun U hU hW => ⟨by rw [List.map_cons, show mj_val (vR (a + 1)) = .ref a from mj_rfs (Nat.succ_ne_zero a)], sj_UofC hC' hSK hR hS hU hW⟩⟩ rfl (by simp) (by rw [← hml]; exact hl.1) rfl (lv_room (by rw [mj_catL]; exact hcat)) hd r4
theorem sj_callS {α : Type} {inj : α → Option mj_Vt} {y2 : MethodName} {b2 : ByteArray} {nL2 mc ms idx a v : Nat} {ret2 : Option FieldType} {rm2 : Room} {As : List mj_Vt} {post1 : α → mj_M → Prop} (hC : mj_C g y cc nL ret rm) (hSK : sj_CS g a v) (hM : sj_Met a v (mj_l1 g) (mj_bs g) (mj_dd g) (mj_aa g) inj y2 b2 nL2 ret2 rm2 mc ms As M post1) (hY : mj_YS y2 b2 nL2 ret2 As.length) (hlk : Cond.methodLink y.cls idx y2 ∈ mj_tbl)
    (hstk : stk = As.reverse ++ st) (hcat : (st.map mj_cat).sum ≤ 8) (hrm : mj_rok rm rm2 nL2 mc ms k n) (hd : decode cc pc = .ok (.invokestatic idx, 3)) (kk : ∀ r M1, post1 r M1 → mj_X g (pc + 3) L ((inj r).toList ++ st) M1 (k + mc) (n + ms)) : mj_X g pc L stk M k n := by
  obtain ⟨p, l, e, R, s, m, args, below, meth, c, Q, base, D, A⟩ := g
  subst hstk
  intro H ls lc hR hl hS
  have hC' := hC
  obtain ⟨hx, hb, hml, hr, hown, hnm, rfl, hts, hK, hN, hZ, hbs, -⟩ := hC
  obtain ⟨⟨y1, y3, y4⟩, y5⟩ := hY
  obtain ⟨r1, r2, r3, r4⟩ := hrm
  have hst : (List.map mj_val (As.reverse ++ st)) = (As.map mj_val).reverse ++ st.map mj_val := by
    rw [List.map_append, List.map_reverse]
  rw [hst]
  refine mj_go (a := #[]) ?_ hl hS kk
  exact va_runS (g := F0 m pc ls ((As.map mj_val).reverse ++ st.map mj_val)) (rest := st.map mj_val) (nL := nL) ⟨hx, hb, hml, hown, hts⟩ hM ⟨callB_of As.length hts (mj_good y1) rfl r1 r2 (hts _ y3) (hts _ hlk) y4 r3, hts _ y5⟩ (As := As.map mj_val) ⟨sj_blind, fun U hU hW => ⟨rfl, sj_UofC hC' hSK hR hS hU hW⟩⟩ rfl (by simp) (by rw [← hml]; exact hl.1) rfl (lv_room (by rw [mj_catL]; exact hcat)) hd r4
theorem sj_get (hC : mj_C g y cc nL ret rm) : ∃ a v, sj_CS g a v ∧ sj_RS g a := by
  obtain ⟨p, l, e, R, s, m, args, below, meth, c, Q, base, D, A⟩ := g
  obtain ⟨hx, hb, hml, hr, hown, hnm, hRm, hts, hK, hN, ⟨⟨adK, adV, h1, h2⟩, -⟩, -⟩ := hC
  refine ⟨adK 0, adV 0, ⟨fun i hi => ?_, fun i j hi hj _ => by omega⟩, h2⟩
  obtain rfl : i = 0 := by omega
  exact h1.1 0 hi
theorem sj_ldc {a : Nat} (hC : mj_C g y cc nL ret rm) (hcl : y.cls = "LeaseLand") (hRS : sj_RS g a) (hd : decode cc pc = .ok (.ldc_w 434, 3)) (kk : mj_X g (pc + 3) L (vR (a + 1) :: st) M k n) : mj_X g pc L st M k n := by
  obtain ⟨p, l, e, R, s, m, args, below, meth, c, Q, base, D, A⟩ := g
  obtain ⟨hx, hb, hml, hr, hown, hnm, hRm, hts, -⟩ := hC
  intro H ls lc hR hl hS
  rw [hcl] at hown
  intro T hT X
  have h9 := kk H ls lc hR hl hS
  simp only [List.map_cons] at h9
  rw [show mj_val (vR (a + 1)) = .ref a from mj_rfs (Nat.succ_ne_zero a)] at h9
  obtain ⟨t, a1, b1⟩ := h9 T hT X
  exact ⟨t, X.ldcStringW hx hown (text := "lthrfos") (a := a) hRS.1 hRS.2 (g := F0 m pc ls (st.map mj_val)) rfl (by rw [hb]; exact hd) t a1, b1⟩
theorem sj_cs {idx : Nat} (hC : mj_C g y cc nL ret rm) (hlk : Cond.fieldLink y.cls idx "java/lang/String" "COMPACT_STRINGS" "Z" ∈ mj_tbl) (hd : decode cc pc = .ok (.getstatic idx, 3)) (kk : mj_X g (pc + 3) L (vI 1 :: st) M k n) : mj_X g pc L st M k n := by
  obtain ⟨p, l, e, R, s, m, args, below, meth, c, Q, base, D, A⟩ := g
  obtain ⟨hx, hb, hml, hr, hown, hnm, hRm, hts, hK, hN, ⟨-, h2, -⟩, -⟩ := hC
  exact fun H ls lc hR hl hS => va_gets hx hb h2 hS hown (hts _ hlk) (fun x hx => hx) hd (kk H ls lc hR hl hS)
theorem sj_coder {idx a v : Nat} (hC : mj_C g y cc nL ret rm) (hSK : sj_CS g a v) (hlk : Cond.fieldLink y.cls idx "java/lang/String" "coder" "B" ∈ mj_tbl) (hd : decode cc pc = .ok (.getfield idx, 3)) (kk : mj_X g (pc + 3) L (vI 0 :: st) M k n) : mj_X g pc L (vR (a + 1) :: st) M k n := by
  obtain ⟨p, l, e, R, s, m, args, below, meth, c, Q, base, D, A⟩ := g
  obtain ⟨hx, hb, hml, hr, hown, hnm, hRm, hts, -⟩ := hC
  intro H ls lc hR hl hS
  simp only [List.map_cons]
  rw [show mj_val (vR (a + 1)) = .ref a from mj_rfs (Nat.succ_ne_zero a)]
  exact vk_getf hx hb (hSK.1 0 (by decide)).2.1 hS hown (hts _ hlk) (fun x hx => hx) hd (kk H ls lc hR hl hS)
theorem sj_value {idx a v : Nat} (hC : mj_C g y cc nL ret rm) (hSK : sj_CS g a v) (hlk : Cond.fieldLink y.cls idx "java/lang/String" "value" "[B" ∈ mj_tbl) (hd : decode cc pc = .ok (.getfield idx, 3)) (kk : mj_X g (pc + 3) L (vR (v + 1) :: st) M k n) : mj_X g pc L (vR (a + 1) :: st) M k n := by
  obtain ⟨p, l, e, R, s, m, args, below, meth, c, Q, base, D, A⟩ := g
  obtain ⟨hx, hb, hml, hr, hown, hnm, hRm, hts, -⟩ := hC
  intro H ls lc hR hl hS
  have h9 := kk H ls lc hR hl hS
  simp only [List.map_cons] at h9 ⊢
  rw [show mj_val (vR (v + 1)) = .ref v from mj_rfs (Nat.succ_ne_zero v)] at h9
  rw [show mj_val (vR (a + 1)) = .ref a from mj_rfs (Nat.succ_ne_zero a)]
  exact vk_getf hx hb (hSK.1 0 (by decide)).2.2.1 hS hown (hts _ hlk) (fun x hx => hx) hd h9
theorem sj_alen {a v : Nat} (hC : mj_C g y cc nL ret rm) (hSK : sj_CS g a v) (hd : decode cc pc = .ok (.arraylength, 1)) (kk : mj_X g (pc + 1) L (vI 7 :: st) M k n) : mj_X g pc L (vR (v + 1) :: st) M k n := by
  obtain ⟨p, l, e, R, s, m, args, below, meth, c, Q, base, D, A⟩ := g
  obtain ⟨hx, hb, hml, hr, hown, hnm, hRm, hts, -⟩ := hC
  intro H ls lc hR hl hS
  simp only [List.map_cons]
  rw [show mj_val (vR (v + 1)) = .ref v from mj_rfs (Nat.succ_ne_zero v)]
  exact va_tlen hx hb (hSK.1 0 (by decide)).2.2.2 hS (v := 7) rfl hd (kk H ls lc hR hl hS)
theorem sj_bald {a v j : Nat} (hC : mj_C g y cc nL ret rm) (hSK : sj_CS g a v) (hj : j < 7) (hd : decode cc pc = .ok (.baload, 1)) (kk : mj_X g (pc + 1) L (vI (sj_byte.getD j 0) :: st) M k n) : mj_X g pc L (vI (nI j) :: vR (v + 1) :: st) M k n := by
  obtain ⟨p, l, e, R, s, m, args, below, meth, c, Q, base, D, A⟩ := g
  obtain ⟨hx, hb, hml, hr, hown, hnm, hRm, hts, -⟩ := hC
  intro H ls lc hR hl hS
  simp only [List.map_cons]
  rw [show mj_val (vR (v + 1)) = .ref v from mj_rfs (Nat.succ_ne_zero v)]
  have e1 : (nI j).toNatClampNeg = j := nI_clamp (by omega)
  have e2 : ¬ nI j < 0 := by rw [← nI_0]; exact fun z => by have := (nI_ltI (by omega) (by omega)).mp z; omega
  refine va_tb hx hb (hSK.1 0 (by decide)).2.2.2 hS (i := nI j) (v := .int (sj_byte.getD j 0)) (fun q => ?_) ?_ hd (kk H ls lc hR hl hS)
  · rcases q with q | q
    · exact e2 q
    · rw [e1] at q
      have q' : 7 ≤ j := q
      omega
  · rw [e1]
    rfl
theorem sj_i2b {x v : Int32} (hC : mj_C g y cc nL ret rm) (hd : decode cc pc = .ok (.i2b, 1)) (hv : x.toInt8.toInt32 = v) (kk : mj_X g (pc + 1) L (vI v :: st) M k n) : mj_X g pc L (vI x :: st) M k n := by
  obtain ⟨p, l, e, R, s, m, args, below, meth, c, Q, base, D, A⟩ := g
  exact fun H ls lc hR hl hS => lv_i2b hC.1 hC.2.1 hd hv (kk H ls lc hR hl hS)
theorem sj_bret {post : Int32 → mj_M → Prop} (hC : mj_C g y cc nL ret rm) (hE : mj_E g mj_jI post k n) (hr : ret = some .byte) (hd : decode cc pc = .ok (.ireturn, 1)) (h : post 0 M) : mj_X g pc L [vI 0] M k n := by
  obtain ⟨p, l, e, R, s, m, args, below, meth, c, Q, base, D, A⟩ := g
  obtain ⟨hx, hb, hml, hr2, hown, hnm, hRm, hts, hK, hN2, hZ, hbs, hlk⟩ := hC
  intro H ls lc hR hl hS
  simp only [mj_E] at hE
  subst hE
  exact W.zret (ty := .byte) hx hb (hr2.trans hr) rfl (fun t ht hW => ⟨⟨0, M, rfl, h, by rw [ht]; exact hR⟩, hS.F ht⟩) hS.2.2 hd hlk
end SJCALL
theorem t9_sign : mj_YS yX11_isSign cX11_isSign 1 (some .boolean) 1 := ⟨⟨w9_sgK, w9_ll, by decide +kernel, by decide +kernel, by decide +kernel⟩, w9_sgS⟩
theorem t9_max : mj_YS yJ9_max_7cf53 cJ9_max_7cf53 2 (some .int) 2 := ⟨⟨w9_maxK, w9_mth, by decide +kernel, by decide +kernel, by decide +kernel⟩, w9_maxS⟩
theorem t9_can : mj_YS yJ1_canEncode_9a6ad cJ1_canEncode_9a6ad 1 (some .boolean) 1 := ⟨⟨w9_ceK, w9_l1, by decide +kernel, by decide +kernel, by decide +kernel⟩, w9_ceS⟩
theorem t9_ixc : mj_YS yJ1_indexOfChar_4cfef cJ1_indexOfChar_4cfef 6 (some .int) 4 := ⟨⟨w9_x4K, w9_l1, by decide +kernel, by decide +kernel, by decide +kernel⟩, w9_x4S⟩
theorem t9_ix1 : mj_YS yJ1_indexOf_4cfef cJ1_indexOf_4cfef 4 (some .int) 4 := ⟨⟨w9_x3K, w9_l1, by decide +kernel, by decide +kernel, by decide +kernel⟩, w9_x3S⟩
theorem t9_lat : mj_Y yJ0_isLatin1_aae02 cJ0_isLatin1_aae02 1 (some .boolean) 0 ∧ Cond.instanceMethod yJ0_isLatin1_aae02 ∈ mj_tbl ∧ Cond.selects yJ0_isLatin1_aae02.cls yJ0_isLatin1_aae02 yJ0_isLatin1_aae02 ∈ mj_tbl ∧ yJ0_isLatin1_aae02.cls = "java/lang/String" := ⟨⟨w9_isK, w9_str, by decide +kernel, by decide +kernel, by decide +kernel⟩, w9_isI, w9_isE, rfl⟩
theorem t9_len : mj_Y yJ0_length_8abf5 cJ0_length_8abf5 1 (some .int) 0 ∧ Cond.instanceMethod yJ0_length_8abf5 ∈ mj_tbl ∧ Cond.selects yJ0_length_8abf5.cls yJ0_length_8abf5 yJ0_length_8abf5 ∈ mj_tbl ∧ yJ0_length_8abf5.cls = "java/lang/String" := ⟨⟨w9_leK, w9_str, by decide +kernel, by decide +kernel, by decide +kernel⟩, w9_leI, w9_leE, rfl⟩
theorem t9_cod : mj_Y yJ0_coder_7d493 cJ0_coder_7d493 1 (some .byte) 0 ∧ Cond.instanceMethod yJ0_coder_7d493 ∈ mj_tbl ∧ Cond.selects yJ0_coder_7d493.cls yJ0_coder_7d493 yJ0_coder_7d493 ∈ mj_tbl ∧ yJ0_coder_7d493.cls = "java/lang/String" := ⟨⟨w9_coK, w9_str, by decide +kernel, by decide +kernel, by decide +kernel⟩, w9_coI, w9_coE, rfl⟩
theorem t9_x2 : mj_Y yJ0_indexOf_7cf53 cJ0_indexOf_7cf53 3 (some .int) 2 ∧ Cond.instanceMethod yJ0_indexOf_7cf53 ∈ mj_tbl ∧ Cond.selects yJ0_indexOf_7cf53.cls yJ0_indexOf_7cf53 yJ0_indexOf_7cf53 ∈ mj_tbl ∧ yJ0_indexOf_7cf53.cls = "java/lang/String" := ⟨⟨w9_x2K, w9_str, by decide +kernel, by decide +kernel, by decide +kernel⟩, w9_x2I, w9_x2E, rfl⟩
theorem t9_x1 : mj_Y yJ0_indexOf_0f7a4 cJ0_indexOf_0f7a4 2 (some .int) 1 ∧ Cond.instanceMethod yJ0_indexOf_0f7a4 ∈ mj_tbl ∧ Cond.selects yJ0_indexOf_0f7a4.cls yJ0_indexOf_0f7a4 yJ0_indexOf_0f7a4 ∈ mj_tbl ∧ yJ0_indexOf_0f7a4.cls = "java/lang/String" := ⟨⟨w9_x1K, w9_str, by decide +kernel, by decide +kernel, by decide +kernel⟩, w9_x1I, w9_x1E, rfl⟩
/-- what the search for the sign c answers -/
def sj_ans (c r : Int32) : Prop := (∃ j, j < 7 ∧ sj_byte.getD j 0 = c ∧ r = nI j) ∨ (r = -1 ∧ ∀ i < 7, ¬ sj_byte.getD i 0 = c)
/-- a sign: 33 to 126 -/
def sj_sg (x : Int32) : Prop := ∃ j : Nat, 33 ≤ j ∧ j ≤ 126 ∧ x = nI j
theorem sj_sg_of {x : Int32} (h1 : ¬ x < 33) (h2 : ¬ 126 < x) : sj_sg x := by
  have h0 : ¬ x < 0 := fun z => h1 (Int32.lt_trans z (by decide))
  obtain ⟨j, hj, rfl⟩ := nI_of h0
  have e33 : (33 : Int32) = nI 33 := rfl
  have e126 : (126 : Int32) = nI 126 := rfl
  rw [e33, nI_ltI (by omega) (by omega)] at h1
  rw [e126, nI_ltI (by omega) (by omega)] at h2
  exact ⟨j, by omega, by omega, rfl⟩
theorem sj_i2c : ∀ j : Fin 127, ((nI j.val).toUInt32 % 65536).toInt32 = nI j.val ∧ (nI j.val).toInt8.toInt32 = nI j.val := by decide
def rm9_0 : Room := { frames := 0, cells := 0, slots := 0, locals := 0 }
def rm9_1 : Room := { frames := 1, cells := 0, slots := 0, locals := 40 }
def rm9_2 : Room := { frames := 2, cells := 0, slots := 0, locals := 80 }
def rm9_3 : Room := { frames := 3, cells := 0, slots := 0, locals := 120 }
set_option maxHeartbeats 4000000 in
theorem ct9_isSign {l : Launch} {base : Nat} {D : va_G} {A : mj_AT} (l0 : Int32) (M : mj_M) (post : Bool → mj_M → Prop) (h : ∀ b : Bool, (b = true ↔ sj_sg l0) → post b M) : mj_Met l base D A mj_jB yX11_isSign cX11_isSign 1 (some .boolean) rm9_0 0 0 [vI l0] M post := by
  refine mj_entry (by decide +kernel) (Nat.le_of_ble_eq_true rfl) (fun g hC hE h1 h2 h3 h4 => ?_)
  show mj_X g 0 [(0, vI l0)] [] M 0 0
  refine mx_iload_n (j := 0) hC s9_X11_isSign_0 rfl rfl ?_
  refine mx_bipush (v := 33) hC s9_X11_isSign_1 (by decide) ?_
  refine mx_icmplt (tgt := 16) hC s9_X11_isSign_3 (by decide) (fun hc1 => ?_) (fun hc1 => ?_)
  · refine mx_iconst (v := 0) hC s9_X11_isSign_16 (by decide) ?_
    refine mx_zret (b := false) hC hE rfl s9_X11_isSign_17 (h false ⟨fun z => absurd z (by decide), fun z => ?_⟩)
    obtain ⟨j, q1, q2, rfl⟩ := z
    have e33 : (33 : Int32) = nI 33 := rfl
    rw [e33, nI_ltI (by omega) (by omega)] at hc1
    omega
  · refine mx_iload_n (j := 0) hC s9_X11_isSign_6 rfl rfl ?_
    refine mx_bipush (v := 126) hC s9_X11_isSign_7 (by decide) ?_
    refine mx_icmpgt (tgt := 16) hC s9_X11_isSign_9 (by decide) (fun hc2 => ?_) (fun hc2 => ?_)
    · refine mx_iconst (v := 0) hC s9_X11_isSign_16 (by decide) ?_
      refine mx_zret (b := false) hC hE rfl s9_X11_isSign_17 (h false ⟨fun z => absurd z (by decide), fun z => ?_⟩)
      obtain ⟨j, q1, q2, rfl⟩ := z
      have e126 : (126 : Int32) = nI 126 := rfl
      rw [e126, nI_ltI (by omega) (by omega)] at hc2
      omega
    · refine mx_iconst (v := 1) hC s9_X11_isSign_12 (by decide) ?_
      refine mx_goto (tgt := 17) hC s9_X11_isSign_13 (by decide) ?_
      exact mx_zret (b := true) hC hE rfl s9_X11_isSign_17 (h true ⟨fun _ => sj_sg_of hc1 hc2, fun _ => rfl⟩)
set_option maxHeartbeats 4000000 in
theorem ct9_can {l : Launch} {base : Nat} {D : va_G} {A : mj_AT} (l0 : Int32) (M : mj_M) (post : Bool → mj_M → Prop) (hs : sj_sg l0) (h : post true M) : mj_Met l base D A mj_jB yJ1_canEncode_9a6ad cJ1_canEncode_9a6ad 1 (some .boolean) rm9_0 0 0 [vI l0] M post := by
  refine mj_entry (by decide +kernel) (Nat.le_of_ble_eq_true rfl) (fun g hC hE h1 h2 h3 h4 => ?_)
  show mj_X g 0 [(0, vI l0)] [] M 0 0
  obtain ⟨j, q1, q2, rfl⟩ := hs
  refine mx_iload_n (j := 0) hC s9_J1_canEncode_9a6ad_0 rfl rfl ?_
  refine mx_iflt (tgt := 15) hC s9_J1_canEncode_9a6ad_1 (by decide) (fun hc => ?_) (fun hc => ?_)
  · rw [← nI_0, nI_ltI (by omega) (by omega)] at hc
    omega
  refine mx_iload_n (j := 0) hC s9_J1_canEncode_9a6ad_4 rfl rfl ?_
  refine mx_sipush (v := 255) hC s9_J1_canEncode_9a6ad_5 (by decide) ?_
  refine mx_icmpgt (tgt := 15) hC s9_J1_canEncode_9a6ad_8 (by decide) (fun hc => ?_) (fun hc => ?_)
  · have e255 : (255 : Int32) = nI 255 := rfl
    rw [e255, nI_ltI (by omega) (by omega)] at hc
    omega
  refine mx_iconst (v := 1) hC s9_J1_canEncode_9a6ad_11 (by decide) ?_
  refine mx_goto (tgt := 16) hC s9_J1_canEncode_9a6ad_12 (by decide) ?_
  exact mx_zret (b := true) hC hE rfl s9_J1_canEncode_9a6ad_16 h
theorem sj_loop {g : mj_G} {a v : Nat} {c : Int32} {M : mj_M} {post : Int32 → mj_M → Prop} (hC : mj_C g yJ1_indexOfChar_4cfef cJ1_indexOfChar_4cfef 6 (some .int) rm9_0) (hSK : sj_CS g a v) (hE : mj_E g mj_jI post 0 0) (h : ∀ r, sj_ans c r → post r M) : ∀ (d j : Nat), j + d = 7 → (∀ i < j, ¬ sj_byte.getD i 0 = c) → mj_X g 7 [(5, vI (nI j)), (4, vI c), (0, vR (v + 1)), (1, vI c), (2, vI 0), (3, vI 7)] [] M 0 0 := by
  intro d
  induction d with
  | zero =>
    intro j hj hno
    obtain rfl : j = 7 := by omega
    refine mx_iload (j := 0) hC s9_J1_indexOfChar_4cfef_7 rfl ?_
    refine mx_iload_n (j := 5) hC s9_J1_indexOfChar_4cfef_9 rfl rfl ?_
    refine mx_icmpge (tgt := 31) hC s9_J1_indexOfChar_4cfef_10 (by decide) (fun hc => ?_) (fun hc => absurd (by decide) hc)
    refine mx_iconst (v := -1) hC s9_J1_indexOfChar_4cfef_31 (by decide) ?_
    exact mx_iret hC hE rfl s9_J1_indexOfChar_4cfef_32 (h _ (Or.inr ⟨rfl, hno⟩))
  | succ d ih =>
    intro j hj hno
    refine mx_iload (j := 0) hC s9_J1_indexOfChar_4cfef_7 rfl ?_
    refine mx_iload_n (j := 5) hC s9_J1_indexOfChar_4cfef_9 rfl rfl ?_
    refine mx_icmpge (tgt := 31) hC s9_J1_indexOfChar_4cfef_10 (by decide) (fun hc => ?_) (fun hc => ?_)
    · have e7 : (7 : Int32) = nI 7 := rfl
      rw [e7] at hc
      exact absurd (nI_lt (show j < 7 by omega) (by omega)) (Int32.not_lt.mpr hc)
    refine mx_aload_n (j := 2) hC s9_J1_indexOfChar_4cfef_13 rfl rfl ?_
    refine mx_iload (j := 0) hC s9_J1_indexOfChar_4cfef_14 rfl ?_
    refine sj_bald hC hSK (by omega) s9_J1_indexOfChar_4cfef_16 ?_
    refine mx_iload (j := 1) hC s9_J1_indexOfChar_4cfef_17 rfl ?_
    refine mx_icmpne (tgt := 25) hC s9_J1_indexOfChar_4cfef_19 (by decide) (fun hc => ?_) (fun hc => ?_)
    · refine mx_iinc (j := 0) (v := nI (j + 1)) (L' := [(5, vI (nI (j + 1))), (4, vI c), (0, vR (v + 1)), (1, vI c), (2, vI 0), (3, vI 7)]) hC s9_J1_indexOfChar_4cfef_25 rfl (show nI j + Int32.ofInt 1 = nI (j + 1) from (Int32.ofNat_add j 1).symm) (by decide) rfl ?_
      refine mx_goto (tgt := 7) hC s9_J1_indexOfChar_4cfef_28 (by decide) ?_
      refine ih (j + 1) (by omega) (fun i hi => ?_)
      by_cases hij : i = j
      · rw [hij]; exact hc
      · exact hno i (by omega)
    · refine mx_iload (j := 0) hC s9_J1_indexOfChar_4cfef_22 rfl ?_
      exact mx_iret hC hE rfl s9_J1_indexOfChar_4cfef_24 (h _ (Or.inl ⟨j, by omega, hc, rfl⟩))
set_option maxHeartbeats 4000000 in
theorem ct9_ixc {a v : Nat} {l : Launch} {base : Nat} {D : va_G} {A : mj_AT} (c : Int32) (M : mj_M) (post : Int32 → mj_M → Prop) (hs : sj_sg c) (h : ∀ r, sj_ans c r → post r M) : sj_Met a v l base D A mj_jI yJ1_indexOfChar_4cfef cJ1_indexOfChar_4cfef 6 (some .int) rm9_0 0 0 [vR (v + 1), vI c, vI 0, vI 7] M post := by
  refine sj_entry (by decide +kernel) (Nat.le_of_ble_eq_true rfl) (fun g hC hSK hE h1 h2 h3 h4 => ?_)
  show mj_X g 0 [(0, vR (v + 1)), (1, vI c), (2, vI 0), (3, vI 7)] [] M 0 0
  have e1 : c.toInt8.toInt32 = c := by
    obtain ⟨j, q1, q2, rfl⟩ := hs
    exact (sj_i2c ⟨j, by omega⟩).2
  refine mx_iload_n (j := 1) hC s9_J1_indexOfChar_4cfef_0 rfl rfl ?_
  refine sj_i2b hC s9_J1_indexOfChar_4cfef_1 e1 ?_
  refine mx_istore (L' := [(4, vI c), (0, vR (v + 1)), (1, vI c), (2, vI 0), (3, vI 7)]) hC s9_J1_indexOfChar_4cfef_2 (by decide) rfl ?_
  refine mx_iload_n (j := 3) hC s9_J1_indexOfChar_4cfef_4 rfl rfl ?_
  refine mx_istore (L' := [(5, vI 0), (4, vI c), (0, vR (v + 1)), (1, vI c), (2, vI 0), (3, vI 7)]) hC s9_J1_indexOfChar_4cfef_5 (by decide) rfl ?_
  exact sj_loop hC hSK hE h 7 0 rfl (fun i hi => absurd hi (Nat.not_lt_zero i))
set_option maxHeartbeats 4000000 in
theorem ct9_ix1 {a v : Nat} {l : Launch} {base : Nat} {D : va_G} {A : mj_AT} (c : Int32) (M : mj_M) (post : Int32 → mj_M → Prop) (hs : sj_sg c) (h : ∀ r, sj_ans c r → post r M) : sj_Met a v l base D A mj_jI yJ1_indexOf_4cfef cJ1_indexOf_4cfef 4 (some .int) rm9_1 0 0 [vR (v + 1), vI c, vI 0, vI 7] M post := by
  refine sj_entry (by decide +kernel) (Nat.le_of_ble_eq_true rfl) (fun g hC hSK hE h1 h2 h3 h4 => ?_)
  show mj_X g 0 [(0, vR (v + 1)), (1, vI c), (2, vI 0), (3, vI 7)] [] M 0 0
  refine mx_iload_n (j := 1) hC s9_J1_indexOf_4cfef_0 rfl rfl ?_
  refine mx_callS (inj := mj_jB) (As := [vI c]) (st := []) hC (ct9_can c M (fun b M1 => b = true ∧ M1 = M) hs ⟨rfl, rfl⟩) t9_can w9_ceL rfl (Nat.le_of_ble_eq_true rfl) ⟨rfl, rfl, ⟨by decide, by decide⟩, by decide, by decide⟩ s9_J1_indexOf_4cfef_1 (fun r M1 hr => ?_)
  obtain ⟨rfl, rfl⟩ := hr
  show mj_X g 4 [(0, vR (v + 1)), (1, vI c), (2, vI 0), (3, vI 7)] [vI (mj_b true)] M1 0 0
  refine mx_ifneB (tgt := 9) hC s9_J1_indexOf_4cfef_4 (by decide) (fun _ => ?_) (fun hb => absurd rfl hb)
  refine mx_iload_n (j := 2) hC s9_J1_indexOf_4cfef_9 rfl rfl ?_
  refine mx_iconst (v := 0) hC s9_J1_indexOf_4cfef_10 (by decide) ?_
  refine mx_callS (inj := mj_jI) (As := [vI 0, vI 0]) (st := []) hC (ct_J9_max_7cf53 0 0 M1 (fun r M2 => r = 0 ∧ M2 = M1) (by unfold vc_J9_max_7cf53; split <;> exact ⟨rfl, rfl⟩)) t9_max w9_maxL rfl (Nat.le_of_ble_eq_true rfl) ⟨rfl, rfl, ⟨by decide, by decide⟩, by decide, by decide⟩ s9_J1_indexOf_4cfef_11 (fun r M2 hr => ?_)
  obtain ⟨rfl, rfl⟩ := hr
  show mj_X g 14 [(0, vR (v + 1)), (1, vI c), (2, vI 0), (3, vI 7)] [vI 0] M2 0 0
  refine mx_istore_n (L' := [(2, vI 0), (0, vR (v + 1)), (1, vI c), (3, vI 7)]) hC s9_J1_indexOf_4cfef_14 rfl (by decide) rfl ?_
  refine mx_iload_n (j := 3) hC s9_J1_indexOf_4cfef_15 rfl rfl ?_
  refine mx_aload_n (j := 1) hC s9_J1_indexOf_4cfef_16 rfl rfl ?_
  refine sj_alen hC hSK s9_J1_indexOf_4cfef_17 ?_
  refine mx_callS (inj := mj_jI) (As := [vI 7, vI 7]) (st := []) hC (ct_J9_min_7cf53 7 7 M2 (fun r M3 => r = 7 ∧ M3 = M2) (by unfold vc_J9_min_7cf53; split <;> exact ⟨rfl, rfl⟩)) t9_min w9_minL rfl (Nat.le_of_ble_eq_true rfl) ⟨rfl, rfl, ⟨by decide, by decide⟩, by decide, by decide⟩ s9_J1_indexOf_4cfef_18 (fun r M3 hr => ?_)
  obtain ⟨rfl, rfl⟩ := hr
  show mj_X g 21 [(2, vI 0), (0, vR (v + 1)), (1, vI c), (3, vI 7)] [vI 7] M3 0 0
  refine mx_istore_n (L' := [(3, vI 7), (2, vI 0), (0, vR (v + 1)), (1, vI c)]) hC s9_J1_indexOf_4cfef_21 rfl (by decide) rfl ?_
  refine mx_iload_n (j := 1) hC s9_J1_indexOf_4cfef_22 rfl rfl ?_
  refine mx_iload_n (j := 0) hC s9_J1_indexOf_4cfef_23 rfl rfl ?_
  refine mx_icmplt (tgt := 29) hC s9_J1_indexOf_4cfef_24 (by decide) (fun _ => ?_) (fun hb => absurd (by decide) hb)
  refine mx_aload_n (j := 2) hC s9_J1_indexOf_4cfef_29 rfl rfl ?_
  refine mx_iload_n (j := 3) hC s9_J1_indexOf_4cfef_30 rfl rfl ?_
  refine mx_iload_n (j := 1) hC s9_J1_indexOf_4cfef_31 rfl rfl ?_
  refine mx_iload_n (j := 0) hC s9_J1_indexOf_4cfef_32 rfl rfl ?_
  refine sj_callS (inj := mj_jI) (As := [vR (v + 1), vI c, vI 0, vI 7]) (st := []) hC hSK (ct9_ixc c M3 (fun r M4 => post r M4) hs (fun r hr => h r hr)) t9_ixc w9_x4L rfl (Nat.le_of_ble_eq_true rfl) ⟨rfl, rfl, ⟨by decide, by decide⟩, by decide, by decide⟩ s9_J1_indexOf_4cfef_33 (fun r M4 hr => ?_)
  exact mx_iret hC hE rfl s9_J1_indexOf_4cfef_36 hr
set_option maxHeartbeats 4000000 in
theorem ct9_lat {a v : Nat} {l : Launch} {base : Nat} {D : va_G} {A : mj_AT} (M : mj_M) (post : Bool → mj_M → Prop) (h : post true M) : sj_Met a v l base D A mj_jB yJ0_isLatin1_aae02 cJ0_isLatin1_aae02 1 (some .boolean) rm9_0 0 0 [vR (a + 1)] M post := by
  refine sj_entry (by decide +kernel) (Nat.le_of_ble_eq_true rfl) (fun g hC hSK hE h1 h2 h3 h4 => ?_)
  show mj_X g 0 [(0, vR (a + 1))] [] M 0 0
  refine sj_cs hC w9_csF s9_J0_isLatin1_aae02_0 ?_
  refine mx_ifeq (tgt := 17) hC s9_J0_isLatin1_aae02_3 (by decide) (fun z => absurd z (by decide)) (fun _ => ?_)
  refine mx_aload_n (j := 0) hC s9_J0_isLatin1_aae02_6 rfl rfl ?_
  refine sj_coder hC hSK w9_fco s9_J0_isLatin1_aae02_7 ?_
  refine mx_ifne (tgt := 17) hC s9_J0_isLatin1_aae02_10 (by decide) (fun z => absurd rfl z) (fun _ => ?_)
  refine mx_iconst (v := 1) hC s9_J0_isLatin1_aae02_13 (by decide) ?_
  refine mx_goto (tgt := 18) hC s9_J0_isLatin1_aae02_14 (by decide) ?_
  exact mx_zret (b := true) hC hE rfl s9_J0_isLatin1_aae02_18 h
set_option maxHeartbeats 4000000 in
theorem ct9_cod {a v : Nat} {l : Launch} {base : Nat} {D : va_G} {A : mj_AT} (M : mj_M) (post : Int32 → mj_M → Prop) (h : post 0 M) : sj_Met a v l base D A mj_jI yJ0_coder_7d493 cJ0_coder_7d493 1 (some .byte) rm9_0 0 0 [vR (a + 1)] M post := by
  refine sj_entry (by decide +kernel) (Nat.le_of_ble_eq_true rfl) (fun g hC hSK hE h1 h2 h3 h4 => ?_)
  show mj_X g 0 [(0, vR (a + 1))] [] M 0 0
  refine sj_cs hC w9_csF s9_J0_coder_7d493_0 ?_
  refine mx_ifeq (tgt := 13) hC s9_J0_coder_7d493_3 (by decide) (fun z => absurd z (by decide)) (fun _ => ?_)
  refine mx_aload_n (j := 0) hC s9_J0_coder_7d493_6 rfl rfl ?_
  refine sj_coder hC hSK w9_fco s9_J0_coder_7d493_7 ?_
  refine mx_goto (tgt := 14) hC s9_J0_coder_7d493_10 (by decide) ?_
  exact sj_bret hC hE rfl s9_J0_coder_7d493_14 h
set_option maxHeartbeats 4000000 in
theorem ct9_len {a v : Nat} {l : Launch} {base : Nat} {D : va_G} {A : mj_AT} (M : mj_M) (post : Int32 → mj_M → Prop) (h : post 7 M) : sj_Met a v l base D A mj_jI yJ0_length_8abf5 cJ0_length_8abf5 1 (some .int) rm9_1 0 0 [vR (a + 1)] M post := by
  refine sj_entry (by decide +kernel) (Nat.le_of_ble_eq_true rfl) (fun g hC hSK hE h1 h2 h3 h4 => ?_)
  show mj_X g 0 [(0, vR (a + 1))] [] M 0 0
  refine mx_aload_n (j := 0) hC s9_J0_length_8abf5_0 rfl rfl ?_
  refine sj_value hC hSK w9_fva s9_J0_length_8abf5_1 ?_
  refine sj_alen hC hSK s9_J0_length_8abf5_4 ?_
  refine mx_aload_n (j := 0) hC s9_J0_length_8abf5_5 rfl rfl ?_
  refine sj_callV (inj := mj_jI) (As := []) (st := [vI 7]) hC hSK (ct9_cod M (fun r M1 => r = 0 ∧ M1 = M) ⟨rfl, rfl⟩) t9_cod w9_coL rfl (Nat.le_of_ble_eq_true rfl) ⟨rfl, rfl, ⟨by decide, by decide⟩, by decide, by decide⟩ s9_J0_length_8abf5_6 (fun r M1 hr => ?_)
  obtain ⟨rfl, rfl⟩ := hr
  show mj_X g 9 [(0, vR (a + 1))] [vI 0, vI 7] M1 0 0
  refine mx_ishr hC s9_J0_length_8abf5_9 ?_
  exact mx_iret hC hE rfl s9_J0_length_8abf5_10 h
set_option maxHeartbeats 4000000 in
theorem ct9_x2 {a v : Nat} {l : Launch} {base : Nat} {D : va_G} {A : mj_AT} (c : Int32) (M : mj_M) (post : Int32 → mj_M → Prop) (hs : sj_sg c) (h : ∀ r, sj_ans c r → post r M) : sj_Met a v l base D A mj_jI yJ0_indexOf_7cf53 cJ0_indexOf_7cf53 3 (some .int) rm9_2 0 0 [vR (a + 1), vI c, vI 0] M post := by
  refine sj_entry (by decide +kernel) (Nat.le_of_ble_eq_true rfl) (fun g hC hSK hE h1 h2 h3 h4 => ?_)
  show mj_X g 0 [(0, vR (a + 1)), (1, vI c), (2, vI 0)] [] M 0 0
  refine mx_aload_n (j := 0) hC s9_J0_indexOf_7cf53_0 rfl rfl ?_
  refine sj_callV (inj := mj_jB) (As := []) (st := []) hC hSK (ct9_lat M (fun b M1 => b = true ∧ M1 = M) ⟨rfl, rfl⟩) t9_lat w9_isL rfl (Nat.le_of_ble_eq_true rfl) ⟨rfl, rfl, ⟨by decide, by decide⟩, by decide, by decide⟩ s9_J0_indexOf_7cf53_1 (fun r M1 hr => ?_)
  obtain ⟨rfl, rfl⟩ := hr
  show mj_X g 4 [(0, vR (a + 1)), (1, vI c), (2, vI 0)] [vI (mj_b true)] M1 0 0
  refine mx_ifeqB (tgt := 23) hC s9_J0_indexOf_7cf53_4 (by decide) (fun hb => absurd rfl hb) (fun _ => ?_)
  refine mx_aload_n (j := 0) hC s9_J0_indexOf_7cf53_7 rfl rfl ?_
  refine sj_value hC hSK w9_fva s9_J0_indexOf_7cf53_8 ?_
  refine mx_iload_n (j := 1) hC s9_J0_indexOf_7cf53_11 rfl rfl ?_
  refine mx_iload_n (j := 2) hC s9_J0_indexOf_7cf53_12 rfl rfl ?_
  refine mx_aload_n (j := 0) hC s9_J0_indexOf_7cf53_13 rfl rfl ?_
  refine sj_callV (inj := mj_jI) (As := []) (st := [vI 0, vI c, vR (v + 1)]) hC hSK (ct9_len M1 (fun r M2 => r = 7 ∧ M2 = M1) ⟨rfl, rfl⟩) t9_len w9_leL rfl (Nat.le_of_ble_eq_true rfl) ⟨rfl, rfl, ⟨by decide, by decide⟩, by decide, by decide⟩ s9_J0_indexOf_7cf53_14 (fun r M2 hr => ?_)
  obtain ⟨rfl, rfl⟩ := hr
  show mj_X g 17 [(0, vR (a + 1)), (1, vI c), (2, vI 0)] [vI 7, vI 0, vI c, vR (v + 1)] M2 0 0
  refine sj_callS (inj := mj_jI) (As := [vR (v + 1), vI c, vI 0, vI 7]) (st := []) hC hSK (ct9_ix1 c M2 (fun r M4 => post r M4) hs (fun r hr => h r hr)) t9_ix1 w9_x3L rfl (Nat.le_of_ble_eq_true rfl) ⟨rfl, rfl, ⟨by decide, by decide⟩, by decide, by decide⟩ s9_J0_indexOf_7cf53_17 (fun r M4 hr => ?_)
  show mj_X g 20 [(0, vR (a + 1)), (1, vI c), (2, vI 0)] [vI r] M4 0 0
  refine mx_goto (tgt := 36) hC s9_J0_indexOf_7cf53_20 (by decide) ?_
  exact mx_iret hC hE rfl s9_J0_indexOf_7cf53_36 hr
set_option maxHeartbeats 4000000 in
theorem ct9_x1 {a v : Nat} {l : Launch} {base : Nat} {D : va_G} {A : mj_AT} (c : Int32) (M : mj_M) (post : Int32 → mj_M → Prop) (hs : sj_sg c) (h : ∀ r, sj_ans c r → post r M) : sj_Met a v l base D A mj_jI yJ0_indexOf_0f7a4 cJ0_indexOf_0f7a4 2 (some .int) rm9_3 0 0 [vR (a + 1), vI c] M post := by
  refine sj_entry (by decide +kernel) (Nat.le_of_ble_eq_true rfl) (fun g hC hSK hE h1 h2 h3 h4 => ?_)
  show mj_X g 0 [(0, vR (a + 1)), (1, vI c)] [] M 0 0
  refine mx_aload_n (j := 0) hC s9_J0_indexOf_0f7a4_0 rfl rfl ?_
  refine mx_iload_n (j := 1) hC s9_J0_indexOf_0f7a4_1 rfl rfl ?_
  refine mx_iconst (v := 0) hC s9_J0_indexOf_0f7a4_2 (by decide) ?_
  refine sj_callV (inj := mj_jI) (As := [vI c, vI 0]) (st := []) hC hSK (ct9_x2 c M (fun r M1 => post r M1) hs (fun r hr => h r hr)) t9_x2 w9_x2L rfl (Nat.le_of_ble_eq_true rfl) ⟨rfl, rfl, ⟨by decide, by decide⟩, by decide, by decide⟩ s9_J0_indexOf_0f7a4_3 (fun r M1 hr => ?_)
  exact mx_iret hC hE rfl s9_J0_indexOf_0f7a4_6 hr
theorem sj_fact_sg {x : Int32} (h : mj_fact x = true) : sj_sg x := by
  rcases of_decide_eq_true h with rfl | rfl | rfl | rfl | rfl | rfl | rfl
  · exact ⟨108, by decide, by decide, rfl⟩
  · exact ⟨116, by decide, by decide, rfl⟩
  · exact ⟨104, by decide, by decide, rfl⟩
  · exact ⟨114, by decide, by decide, rfl⟩
  · exact ⟨102, by decide, by decide, rfl⟩
  · exact ⟨111, by decide, by decide, rfl⟩
  · exact ⟨115, by decide, by decide, rfl⟩
theorem sj_fact {c r : Int32} (h : sj_ans c r) : (r < 0 → mj_fact c = false) ∧ (¬ r < 0 → mj_fact c = true) := by
  rcases h with ⟨j, hj, hc, rfl⟩ | ⟨rfl, hno⟩
  · refine ⟨fun z => ?_, fun _ => ?_⟩
    · rw [← nI_0, nI_ltI (by omega) (by omega)] at z
      omega
    · subst hc
      have h9 : ∀ i : Fin 7, mj_fact (sj_byte.getD i.val 0) = true := by decide
      exact h9 ⟨j, hj⟩
  · refine ⟨fun _ => decide_eq_false (fun z => ?_), fun z => absurd (by decide) z⟩
    rcases z with rfl | rfl | rfl | rfl | rfl | rfl | rfl
    · exact hno 0 (by decide) rfl
    · exact hno 1 (by decide) rfl
    · exact hno 2 (by decide) rfl
    · exact hno 3 (by decide) rfl
    · exact hno 4 (by decide) rfl
    · exact hno 5 (by decide) rfl
    · exact hno 6 (by decide) rfl
set_option maxHeartbeats 4000000 in
theorem ct_X11_isFact {l : Launch} {base : Nat} {D : va_G} {A : mj_AT} (l0 : Int32) (M : mj_M) (post : Bool → mj_M → Prop) (h : vc_X11_isFact l0 M post) : mj_Met l base D A mj_jB yX11_isFact cX11_isFact 1 (some .boolean) rm_X11_isFact 0 0 [vI l0] M post := by
  refine mj_entry (by decide +kernel) (Nat.le_of_ble_eq_true rfl) (fun g hC hE h1 h2 h3 h4 => ?_)
  show mj_X g 0 [(0, vI l0)] [] M 0 0
  have h : post (mj_fact l0) M := h
  obtain ⟨a, v, hSK, hRS⟩ := sj_get hC
  refine mx_iload_n (j := 0) hC s9_X11_isFact_0 rfl rfl ?_
  refine mx_callS (inj := mj_jB) (As := [vI l0]) (st := []) hC (ct9_isSign l0 M (fun b M1 => (b = true ↔ sj_sg l0) ∧ M1 = M) (fun b hb => ⟨hb, rfl⟩)) t9_sign w9_sgL rfl (Nat.le_of_ble_eq_true rfl) ⟨rfl, rfl, ⟨by decide, by decide⟩, by decide, by decide⟩ s9_X11_isFact_1 (fun r M1 hr => ?_)
  obtain ⟨hr, rfl⟩ := hr
  show mj_X g 4 [(0, vI l0)] [vI (mj_b r)] M1 0 0
  refine mx_ifeqB (tgt := 22) hC s9_X11_isFact_4 (by decide) (fun hb => ?_) (fun hb => ?_)
  · have hf : mj_fact l0 = false := by
      cases h9 : mj_fact l0 with
      | false => rfl
      | true => exact absurd (hr.mpr (sj_fact_sg h9)) hb
    rw [hf] at h
    refine mx_iconst (v := 0) hC s9_X11_isFact_22 (by decide) ?_
    exact mx_zret (b := false) hC hE rfl s9_X11_isFact_23 h
  · have hs := hr.mp hb
    refine sj_ldc hC rfl hRS s9_X11_isFact_7 ?_
    refine mx_iload_n (j := 0) hC s9_X11_isFact_10 rfl rfl ?_
    refine mx_i2c hC s9_X11_isFact_11 ?_
    have e1 : (l0.toUInt32 % 65536).toInt32 = l0 := by
      obtain ⟨j, q1, q2, rfl⟩ := hs
      exact (sj_i2c ⟨j, by omega⟩).1
    rw [e1]
    refine sj_callV (inj := mj_jI) (As := [vI l0]) (st := []) hC hSK (ct9_x1 l0 M1 (fun r M2 => sj_ans l0 r ∧ M2 = M1) hs (fun r hr => ⟨hr, rfl⟩)) t9_x1 w9_x1L rfl (Nat.le_of_ble_eq_true rfl) ⟨rfl, rfl, ⟨by decide, by decide⟩, by decide, by decide⟩ s9_X11_isFact_12 (fun r M2 hr => ?_)
    obtain ⟨hr, rfl⟩ := hr
    show mj_X g 15 [(0, vI l0)] [vI r] M2 0 0
    have hf := sj_fact hr
    refine mx_iflt (tgt := 22) hC s9_X11_isFact_15 (by decide) (fun hb => ?_) (fun hb => ?_)
    · rw [hf.1 hb] at h
      refine mx_iconst (v := 0) hC s9_X11_isFact_22 (by decide) ?_
      exact mx_zret (b := false) hC hE rfl s9_X11_isFact_23 h
    · rw [hf.2 hb] at h
      refine mx_iconst (v := 1) hC s9_X11_isFact_18 (by decide) ?_
      refine mx_goto (tgt := 23) hC s9_X11_isFact_19 (by decide) ?_
      exact mx_zret (b := true) hC hE rfl s9_X11_isFact_23 h

/-! methods 20. By program (wip/gen) out of the bytecode: vc_KEY: what must hold of a call; ct_KEY: then the machine does it. -/
theorem tw1256 : (Jvm.Cond.fieldLink "LeaseLandModel" (379 : Nat) "LeaseLandModel" "gain" "J") ∈ mj_tbl := mj_w 1309 (by decide +kernel) (by decide +kernel)
theorem tf_X12_379 : mj_F 12 47 .long false "LeaseLandModel" 379 := ⟨_, tk12, by decide, rfl, rfl, rfl, tw1256⟩
theorem tw1254 : (Jvm.Cond.fieldLink "LeaseLandModel" (382 : Nat) "LeaseLandModel" "lossMany" "I") ∈ mj_tbl := mj_w 1307 (by decide +kernel) (by decide +kernel)
theorem tf_X12_382 : mj_F 12 45 .int false "LeaseLandModel" 382 := ⟨_, tk12, by decide, rfl, rfl, rfl, tw1254⟩
theorem tw1255 : (Jvm.Cond.fieldLink "LeaseLandModel" (385 : Nat) "LeaseLandModel" "lossAll" "J") ∈ mj_tbl := mj_w 1308 (by decide +kernel) (by decide +kernel)
theorem tf_X12_385 : mj_F 12 46 .long false "LeaseLandModel" 385 := ⟨_, tk12, by decide, rfl, rfl, rfl, tw1255⟩
theorem tw1257 : (Jvm.Cond.fieldLink "LeaseLandModel" (392 : Nat) "LeaseLandModel" "marriage" "J") ∈ mj_tbl := mj_w 1310 (by decide +kernel) (by decide +kernel)
theorem tf_X12_392 : mj_F 12 48 .long false "LeaseLandModel" 392 := ⟨_, tk12, by decide, rfl, rfl, rfl, tw1257⟩
theorem tw1752 : (Jvm.Cond.constantLong "LeaseLandModel" (388 : Nat) (10 : Int64)) ∈ mj_tbl := mj_w 1805 (by decide +kernel) (by decide +kernel)
theorem tw1753 : (Jvm.Cond.constantLong "LeaseLandModel" (390 : Nat) (2 : Int64)) ∈ mj_tbl := mj_w 1806 (by decide +kernel) (by decide +kernel)
def rm_X12_findPrice : Room := { frames := 3, cells := 0, slots := 0, locals := 66 }
theorem dX12_findPrice_0 : decode cX12_findPrice 0 = .ok (.aload_n 0, 1) := by decide +kernel
theorem dX12_findPrice_1 : decode cX12_findPrice 1 = .ok (.aload_n 0, 1) := by decide +kernel
theorem dX12_findPrice_2 : decode cX12_findPrice 2 = .ok (.getfield 13, 3) := by decide +kernel
theorem dX12_findPrice_5 : decode cX12_findPrice 5 = .ok (.iload_n 1, 1) := by decide +kernel
theorem dX12_findPrice_6 : decode cX12_findPrice 6 = .ok (.iaload, 1) := by decide +kernel
theorem dX12_findPrice_7 : decode cX12_findPrice 7 = .ok (.aload_n 0, 1) := by decide +kernel
theorem dX12_findPrice_8 : decode cX12_findPrice 8 = .ok (.iload_n 1, 1) := by decide +kernel
theorem dX12_findPrice_9 : decode cX12_findPrice 9 = .ok (.invokevirtual 344, 3) := by decide +kernel
theorem dX12_findPrice_12 : decode cX12_findPrice 12 = .ok (.invokevirtual 347, 3) := by decide +kernel
theorem dX12_findPrice_15 : decode cX12_findPrice 15 = .ok (.lstore_n 2, 1) := by decide +kernel
theorem dX12_findPrice_16 : decode cX12_findPrice 16 = .ok (.aload_n 0, 1) := by decide +kernel
theorem dX12_findPrice_17 : decode cX12_findPrice 17 = .ok (.aload_n 0, 1) := by decide +kernel
theorem dX12_findPrice_18 : decode cX12_findPrice 18 = .ok (.aload_n 0, 1) := by decide +kernel
theorem dX12_findPrice_19 : decode cX12_findPrice 19 = .ok (.getfield 13, 3) := by decide +kernel
theorem dX12_findPrice_22 : decode cX12_findPrice 22 = .ok (.iload_n 1, 1) := by decide +kernel
theorem dX12_findPrice_23 : decode cX12_findPrice 23 = .ok (.iaload, 1) := by decide +kernel
theorem dX12_findPrice_24 : decode cX12_findPrice 24 = .ok (.aload_n 0, 1) := by decide +kernel
theorem dX12_findPrice_25 : decode cX12_findPrice 25 = .ok (.iload_n 1, 1) := by decide +kernel
theorem dX12_findPrice_26 : decode cX12_findPrice 26 = .ok (.invokevirtual 344, 3) := by decide +kernel
theorem dX12_findPrice_29 : decode cX12_findPrice 29 = .ok (.bipush 90, 2) := by decide +kernel
theorem dX12_findPrice_31 : decode cX12_findPrice 31 = .ok (.iadd, 1) := by decide +kernel
theorem dX12_findPrice_32 : decode cX12_findPrice 32 = .ok (.invokevirtual 347, 3) := by decide +kernel
theorem dX12_findPrice_35 : decode cX12_findPrice 35 = .ok (.lload_n 2, 1) := by decide +kernel
theorem dX12_findPrice_36 : decode cX12_findPrice 36 = .ok (.lsub, 1) := by decide +kernel
theorem dX12_findPrice_37 : decode cX12_findPrice 37 = .ok (.putfield 379, 3) := by decide +kernel
theorem dX12_findPrice_40 : decode cX12_findPrice 40 = .ok (.aload_n 0, 1) := by decide +kernel
theorem dX12_findPrice_41 : decode cX12_findPrice 41 = .ok (.iconst 0, 1) := by decide +kernel
theorem dX12_findPrice_42 : decode cX12_findPrice 42 = .ok (.putfield 382, 3) := by decide +kernel
theorem dX12_findPrice_45 : decode cX12_findPrice 45 = .ok (.aload_n 0, 1) := by decide +kernel
theorem dX12_findPrice_46 : decode cX12_findPrice 46 = .ok (.lconst 0, 1) := by decide +kernel
theorem dX12_findPrice_47 : decode cX12_findPrice 47 = .ok (.putfield 385, 3) := by decide +kernel
theorem dX12_findPrice_50 : decode cX12_findPrice 50 = .ok (.iload_n 1, 1) := by decide +kernel
theorem dX12_findPrice_51 : decode cX12_findPrice 51 = .ok (.istore 4, 2) := by decide +kernel
theorem dX12_findPrice_53 : decode cX12_findPrice 53 = .ok (.aload_n 0, 1) := by decide +kernel
theorem dX12_findPrice_54 : decode cX12_findPrice 54 = .ok (.getfield 7, 3) := by decide +kernel
theorem dX12_findPrice_57 : decode cX12_findPrice 57 = .ok (.iload_n 1, 1) := by decide +kernel
theorem dX12_findPrice_58 : decode cX12_findPrice 58 = .ok (.iaload, 1) := by decide +kernel
theorem dX12_findPrice_59 : decode cX12_findPrice 59 = .ok (.istore 5, 2) := by decide +kernel
theorem dX12_findPrice_61 : decode cX12_findPrice 61 = .ok (.iload 5, 2) := by decide +kernel
theorem dX12_findPrice_63 : decode cX12_findPrice 63 = .ok (.ifCond .lt 115, 3) := by decide +kernel
theorem dX12_findPrice_66 : decode cX12_findPrice 66 = .ok (.aload_n 0, 1) := by decide +kernel
theorem dX12_findPrice_67 : decode cX12_findPrice 67 = .ok (.iload 4, 2) := by decide +kernel
theorem dX12_findPrice_69 : decode cX12_findPrice 69 = .ok (.aload_n 0, 1) := by decide +kernel
theorem dX12_findPrice_70 : decode cX12_findPrice 70 = .ok (.getfield 151, 3) := by decide +kernel
theorem dX12_findPrice_73 : decode cX12_findPrice 73 = .ok (.invokevirtual 223, 3) := by decide +kernel
theorem dX12_findPrice_76 : decode cX12_findPrice 76 = .ok (.i2l, 1) := by decide +kernel
theorem dX12_findPrice_77 : decode cX12_findPrice 77 = .ok (.aload_n 0, 1) := by decide +kernel
theorem dX12_findPrice_78 : decode cX12_findPrice 78 = .ok (.getfield 107, 3) := by decide +kernel
theorem dX12_findPrice_81 : decode cX12_findPrice 81 = .ok (.i2l, 1) := by decide +kernel
theorem dX12_findPrice_82 : decode cX12_findPrice 82 = .ok (.lmul, 1) := by decide +kernel
theorem dX12_findPrice_83 : decode cX12_findPrice 83 = .ok (.ldc2_w 388, 3) := by decide +kernel
theorem dX12_findPrice_86 : decode cX12_findPrice 86 = .ok (.ldiv, 1) := by decide +kernel
theorem dX12_findPrice_87 : decode cX12_findPrice 87 = .ok (.lstore 6, 2) := by decide +kernel
theorem dX12_findPrice_89 : decode cX12_findPrice 89 = .ok (.lload 6, 2) := by decide +kernel
theorem dX12_findPrice_91 : decode cX12_findPrice 91 = .ok (.aload_n 0, 1) := by decide +kernel
theorem dX12_findPrice_92 : decode cX12_findPrice 92 = .ok (.getfield 7, 3) := by decide +kernel
theorem dX12_findPrice_95 : decode cX12_findPrice 95 = .ok (.iload 5, 2) := by decide +kernel
theorem dX12_findPrice_97 : decode cX12_findPrice 97 = .ok (.iaload, 1) := by decide +kernel
theorem dX12_findPrice_98 : decode cX12_findPrice 98 = .ok (.ifCond .ge 28, 3) := by decide +kernel
theorem dX12_findPrice_101 : decode cX12_findPrice 101 = .ok (.aload_n 0, 1) := by decide +kernel
theorem dX12_findPrice_102 : decode cX12_findPrice 102 = .ok (.aload_n 0, 1) := by decide +kernel
theorem dX12_findPrice_103 : decode cX12_findPrice 103 = .ok (.getfield 13, 3) := by decide +kernel
theorem dX12_findPrice_106 : decode cX12_findPrice 106 = .ok (.iload_n 1, 1) := by decide +kernel
theorem dX12_findPrice_107 : decode cX12_findPrice 107 = .ok (.iaload, 1) := by decide +kernel
theorem dX12_findPrice_108 : decode cX12_findPrice 108 = .ok (.invokevirtual 340, 3) := by decide +kernel
theorem dX12_findPrice_111 : decode cX12_findPrice 111 = .ok (.lload_n 2, 1) := by decide +kernel
theorem dX12_findPrice_112 : decode cX12_findPrice 112 = .ok (.lsub, 1) := by decide +kernel
theorem dX12_findPrice_113 : decode cX12_findPrice 113 = .ok (.aload_n 0, 1) := by decide +kernel
theorem dX12_findPrice_114 : decode cX12_findPrice 114 = .ok (.getfield 111, 3) := by decide +kernel
theorem dX12_findPrice_117 : decode cX12_findPrice 117 = .ok (.i2l, 1) := by decide +kernel
theorem dX12_findPrice_118 : decode cX12_findPrice 118 = .ok (.lmul, 1) := by decide +kernel
theorem dX12_findPrice_119 : decode cX12_findPrice 119 = .ok (.ldc2_w 218, 3) := by decide +kernel
theorem dX12_findPrice_122 : decode cX12_findPrice 122 = .ok (.ldiv, 1) := by decide +kernel
theorem dX12_findPrice_123 : decode cX12_findPrice 123 = .ok (.goto 4, 3) := by decide +kernel
theorem dX12_findPrice_126 : decode cX12_findPrice 126 = .ok (.lconst 0, 1) := by decide +kernel
theorem dX12_findPrice_127 : decode cX12_findPrice 127 = .ok (.ladd, 1) := by decide +kernel
theorem dX12_findPrice_128 : decode cX12_findPrice 128 = .ok (.lstore 6, 2) := by decide +kernel
theorem dX12_findPrice_130 : decode cX12_findPrice 130 = .ok (.aload_n 0, 1) := by decide +kernel
theorem dX12_findPrice_131 : decode cX12_findPrice 131 = .ok (.getfield 114, 3) := by decide +kernel
theorem dX12_findPrice_134 : decode cX12_findPrice 134 = .ok (.aload_n 0, 1) := by decide +kernel
theorem dX12_findPrice_135 : decode cX12_findPrice 135 = .ok (.getfield 382, 3) := by decide +kernel
theorem dX12_findPrice_138 : decode cX12_findPrice 138 = .ok (.lload 6, 2) := by decide +kernel
theorem dX12_findPrice_140 : decode cX12_findPrice 140 = .ok (.lastore, 1) := by decide +kernel
theorem dX12_findPrice_141 : decode cX12_findPrice 141 = .ok (.aload_n 0, 1) := by decide +kernel
theorem dX12_findPrice_142 : decode cX12_findPrice 142 = .ok (.dup, 1) := by decide +kernel
theorem dX12_findPrice_143 : decode cX12_findPrice 143 = .ok (.getfield 382, 3) := by decide +kernel
theorem dX12_findPrice_146 : decode cX12_findPrice 146 = .ok (.iconst 1, 1) := by decide +kernel
theorem dX12_findPrice_147 : decode cX12_findPrice 147 = .ok (.iadd, 1) := by decide +kernel
theorem dX12_findPrice_148 : decode cX12_findPrice 148 = .ok (.putfield 382, 3) := by decide +kernel
theorem dX12_findPrice_151 : decode cX12_findPrice 151 = .ok (.aload_n 0, 1) := by decide +kernel
theorem dX12_findPrice_152 : decode cX12_findPrice 152 = .ok (.dup, 1) := by decide +kernel
theorem dX12_findPrice_153 : decode cX12_findPrice 153 = .ok (.getfield 385, 3) := by decide +kernel
theorem dX12_findPrice_156 : decode cX12_findPrice 156 = .ok (.lload 6, 2) := by decide +kernel
theorem dX12_findPrice_158 : decode cX12_findPrice 158 = .ok (.ladd, 1) := by decide +kernel
theorem dX12_findPrice_159 : decode cX12_findPrice 159 = .ok (.putfield 385, 3) := by decide +kernel
theorem dX12_findPrice_162 : decode cX12_findPrice 162 = .ok (.iload 5, 2) := by decide +kernel
theorem dX12_findPrice_164 : decode cX12_findPrice 164 = .ok (.istore 4, 2) := by decide +kernel
theorem dX12_findPrice_166 : decode cX12_findPrice 166 = .ok (.aload_n 0, 1) := by decide +kernel
theorem dX12_findPrice_167 : decode cX12_findPrice 167 = .ok (.getfield 7, 3) := by decide +kernel
theorem dX12_findPrice_170 : decode cX12_findPrice 170 = .ok (.iload 5, 2) := by decide +kernel
theorem dX12_findPrice_172 : decode cX12_findPrice 172 = .ok (.iaload, 1) := by decide +kernel
theorem dX12_findPrice_173 : decode cX12_findPrice 173 = .ok (.istore 5, 2) := by decide +kernel
theorem dX12_findPrice_175 : decode cX12_findPrice 175 = .ok (.goto (-114), 3) := by decide +kernel
theorem dX12_findPrice_178 : decode cX12_findPrice 178 = .ok (.aload_n 0, 1) := by decide +kernel
theorem dX12_findPrice_179 : decode cX12_findPrice 179 = .ok (.aload_n 0, 1) := by decide +kernel
theorem dX12_findPrice_180 : decode cX12_findPrice 180 = .ok (.getfield 379, 3) := by decide +kernel
theorem dX12_findPrice_183 : decode cX12_findPrice 183 = .ok (.aload_n 0, 1) := by decide +kernel
theorem dX12_findPrice_184 : decode cX12_findPrice 184 = .ok (.getfield 385, 3) := by decide +kernel
theorem dX12_findPrice_187 : decode cX12_findPrice 187 = .ok (.lcmp, 1) := by decide +kernel
theorem dX12_findPrice_188 : decode cX12_findPrice 188 = .ok (.ifCond .le 19, 3) := by decide +kernel
theorem dX12_findPrice_191 : decode cX12_findPrice 191 = .ok (.aload_n 0, 1) := by decide +kernel
theorem dX12_findPrice_192 : decode cX12_findPrice 192 = .ok (.getfield 379, 3) := by decide +kernel
theorem dX12_findPrice_195 : decode cX12_findPrice 195 = .ok (.aload_n 0, 1) := by decide +kernel
theorem dX12_findPrice_196 : decode cX12_findPrice 196 = .ok (.getfield 385, 3) := by decide +kernel
theorem dX12_findPrice_199 : decode cX12_findPrice 199 = .ok (.lsub, 1) := by decide +kernel
theorem dX12_findPrice_200 : decode cX12_findPrice 200 = .ok (.ldc2_w 390, 3) := by decide +kernel
theorem dX12_findPrice_203 : decode cX12_findPrice 203 = .ok (.ldiv, 1) := by decide +kernel
theorem dX12_findPrice_204 : decode cX12_findPrice 204 = .ok (.goto 4, 3) := by decide +kernel
theorem dX12_findPrice_207 : decode cX12_findPrice 207 = .ok (.lconst 0, 1) := by decide +kernel
theorem dX12_findPrice_208 : decode cX12_findPrice 208 = .ok (.putfield 392, 3) := by decide +kernel
theorem dX12_findPrice_211 : decode cX12_findPrice 211 = .ok (.return_, 1) := by decide +kernel
def vb_X12_findPrice_127 (k61 : Nat → Int32 → Int64 → Int32 → Int32 → mj_M → Prop) (post : Unit → mj_M → Prop) (l0 : Nat) (l1 : Int32) (l2 : Int64) (l5 : Int32) (s0 : Int64) (s1 : Int64) (M : mj_M) : Prop := mj_tag M l0 = 13 ∧ mj_tag M (mj_r M l0 44) = 102 ∧ vp_in (mj_i M l0 45) (mj_len M (mj_r M l0 44)) ∧ mj_tag M (mj_r M l0 1) = 101 ∧ vp_in l5 (mj_len M (mj_r M l0 1)) ∧ k61 l0 l1 l2 l5 (mj_i (mj_wi (mj_wl M (mj_r M l0 44) (mj_i M l0 45 : Int32).toNatClampNeg (s0 + s1)) l0 45 ((mj_i M l0 45) + 1)) (mj_r M l0 1) (l5 : Int32).toNatClampNeg) (mj_wl (mj_wi (mj_wl M (mj_r M l0 44) (mj_i M l0 45 : Int32).toNatClampNeg (s0 + s1)) l0 45 ((mj_i M l0 45) + 1)) l0 46 ((mj_l (mj_wl M (mj_r M l0 44) (mj_i M l0 45 : Int32).toNatClampNeg (s0 + s1)) l0 46) + (s0 + s1)))
def vb_X12_findPrice_61 (post : Unit → mj_M → Prop) : Nat → Nat → Int32 → Int64 → Int32 → Int32 → mj_M → Prop
  | 0 => fun _ _ _ _ _ _ => False
  | f + 1 => fun l0 l1 l2 l4 l5 M => if l5 < 0 then (mj_tag M l0 = 13 ∧ if (lg_cmp (mj_l M l0 47) (mj_l M l0 46)) ≤ 0 then (post () (mj_wl M l0 48 0)) else (post () (mj_wl M l0 48 (((mj_l M l0 47) - (mj_l M l0 46)) / 2)))) else (mj_tag M l0 = 13 ∧ vc_X12_rateOf l0 l4 (mj_i M l0 0) M (fun r10 M11 => mj_tag M11 l0 = 13 ∧ mj_tag M11 (mj_r M11 l0 1) = 101 ∧ vp_in l5 (mj_len M11 (mj_r M11 l0 1)) ∧ if 0 ≤ (mj_i M11 (mj_r M11 l0 1) (l5 : Int32).toNatClampNeg) then (vb_X12_findPrice_127 (vb_X12_findPrice_61 post f) post l0 l1 l2 l5 ((((r10 : Int32).toInt64) * ((mj_i M11 l0 42 : Int32).toInt64)) / 10) 0 M11) else (mj_tag M11 (mj_r M11 l0 2) = 101 ∧ vp_in l1 (mj_len M11 (mj_r M11 l0 2)) ∧ vc_X12_valueOf l0 (mj_i M11 (mj_r M11 l0 2) (l1 : Int32).toNatClampNeg) M11 (fun r18 M19 => mj_tag M19 l0 = 13 ∧ vb_X12_findPrice_127 (vb_X12_findPrice_61 post f) post l0 l1 l2 l5 ((((r10 : Int32).toInt64) * ((mj_i M11 l0 42 : Int32).toInt64)) / 10) (((r18 - l2) * ((mj_i M19 l0 43 : Int32).toInt64)) / 100) M19))))
def vc_X12_findPrice (l0 : Nat) (l1 : Int32) (M : mj_M) (post : Unit → mj_M → Prop) : Prop := mj_tag M l0 = 13 ∧ mj_tag M (mj_r M l0 2) = 101 ∧ vp_in l1 (mj_len M (mj_r M l0 2)) ∧ vc_X12_yearsLeft l0 l1 M (fun r24 M25 => mj_tag M25 l0 = 13 ∧ vc_X12_worthOf l0 (mj_i M (mj_r M l0 2) (l1 : Int32).toNatClampNeg) r24 M25 (fun r27 M28 => mj_tag M28 l0 = 13 ∧ mj_tag M28 (mj_r M28 l0 2) = 101 ∧ vp_in l1 (mj_len M28 (mj_r M28 l0 2)) ∧ vc_X12_yearsLeft l0 l1 M28 (fun r32 M33 => mj_tag M33 l0 = 13 ∧ vc_X12_worthOf l0 (mj_i M28 (mj_r M28 l0 2) (l1 : Int32).toNatClampNeg) (r32 + 90) M33 (fun r35 M36 => mj_tag M36 l0 = 13 ∧ mj_tag M36 (mj_r M36 l0 1) = 101 ∧ vp_in l1 (mj_len M36 (mj_r M36 l0 1)) ∧ ∃ fe, vb_X12_findPrice_61 post fe l0 l1 r27 l1 (mj_i (mj_wi (mj_wl M36 l0 47 (r35 - r27)) l0 45 0) (mj_r M36 l0 1) (l1 : Int32).toNatClampNeg) (mj_wl (mj_wi (mj_wl M36 l0 47 (r35 - r27)) l0 45 0) l0 46 0)))))
set_option maxHeartbeats 4000000 in
set_option maxRecDepth 100000 in
theorem xb_X12_findPrice_127 {g : mj_G} {post : Unit → mj_M → Prop} (hC : mj_C g yX12_findPrice cX12_findPrice 8 (none) rm_X12_findPrice) (hE : mj_E g mj_jV post 0 0) {k61 : Nat → Int32 → Int64 → Int32 → Int32 → mj_M → Prop} (hk61 : ∀ (l0 : Nat) (l1 : Int32) (l2 : Int64) (l4 : Int32) (l5 : Int32) (M : mj_M), k61 l0 l1 l2 l4 l5 M → mj_X g 61 [(0, vR l0), (1, vI l1), (2, vL l2), (4, vI l4), (5, vI l5)] [] M 0 0) (l0 : Nat) (l1 : Int32) (l2 : Int64) (l5 : Int32) (s0 : Int64) (s1 : Int64) (M : mj_M) (h : vb_X12_findPrice_127 k61 post l0 l1 l2 l5 s0 s1 M) : mj_X g 127 [(0, vR l0), (1, vI l1), (2, vL l2), (5, vI l5)] [vL s1, vL s0] M 0 0 := by
  simp only [vb_X12_findPrice_127] at h
  refine mx_ladd hC dX12_findPrice_127 ?_
  refine mx_lstore (L' := [(6, vL (s0 + s1)), (0, vR l0), (1, vI l1), (2, vL l2), (5, vI l5)]) hC dX12_findPrice_128 (by decide) rfl ?_
  refine mx_aload_n (j := 1) hC dX12_findPrice_130 rfl rfl ?_
  obtain ⟨ht1, h⟩ := h
  refine mx_get (v := vR (mj_r M l0 44)) hC tf_X12_114 ht1 rfl dX12_findPrice_131 ?_
  refine mx_aload_n (j := 1) hC dX12_findPrice_134 rfl rfl ?_
  refine mx_get (v := vI (mj_i M l0 45)) hC tf_X12_382 ht1 rfl dX12_findPrice_135 ?_
  refine mx_lload (j := 0) hC dX12_findPrice_138 rfl ?_
  obtain ⟨ht2, h⟩ := h
  obtain ⟨hi3, h⟩ := h
  refine mx_lastore hC ht2 hi3 dX12_findPrice_140 ?_
  refine mx_aload_n (j := 1) hC dX12_findPrice_141 rfl rfl ?_
  refine mx_dup hC dX12_findPrice_142 rfl ?_
  refine mx_get (v := vI (mj_i M l0 45)) hC tf_X12_382 ht1 rfl dX12_findPrice_143 ?_
  refine mx_iconst (v := 1) hC dX12_findPrice_146 (by decide) ?_
  refine mx_iadd hC dX12_findPrice_147 ?_
  refine mx_put (v := vI ((mj_i M l0 45) + 1)) (M1 := mj_wi (mj_wl M (mj_r M l0 44) (mj_i M l0 45 : Int32).toNatClampNeg (s0 + s1)) l0 45 ((mj_i M l0 45) + 1)) hC tf_X12_382 ht1 (Or.inl rfl) ⟨rfl, rfl⟩ (mj_off_wi _ _ _ _) mj_put_wi dX12_findPrice_148 ?_
  refine mx_aload_n (j := 1) hC dX12_findPrice_151 rfl rfl ?_
  refine mx_dup hC dX12_findPrice_152 rfl ?_
  refine mx_get (v := vL (mj_l (mj_wl M (mj_r M l0 44) (mj_i M l0 45 : Int32).toNatClampNeg (s0 + s1)) l0 46)) hC tf_X12_385 ht1 rfl dX12_findPrice_153 ?_
  refine mx_lload (j := 0) hC dX12_findPrice_156 rfl ?_
  refine mx_ladd hC dX12_findPrice_158 ?_
  refine mx_put (v := vL ((mj_l (mj_wl M (mj_r M l0 44) (mj_i M l0 45 : Int32).toNatClampNeg (s0 + s1)) l0 46) + (s0 + s1))) (M1 := mj_wl (mj_wi (mj_wl M (mj_r M l0 44) (mj_i M l0 45 : Int32).toNatClampNeg (s0 + s1)) l0 45 ((mj_i M l0 45) + 1)) l0 46 ((mj_l (mj_wl M (mj_r M l0 44) (mj_i M l0 45 : Int32).toNatClampNeg (s0 + s1)) l0 46) + (s0 + s1))) hC tf_X12_385 ht1 (Or.inl rfl) ⟨rfl, rfl⟩ (mj_off_wl _ _ _ _) mj_put_wl dX12_findPrice_159 ?_
  refine mx_iload (j := 4) hC dX12_findPrice_162 rfl ?_
  refine mx_istore (L' := [(4, vI l5), (6, vL (s0 + s1)), (0, vR l0), (1, vI l1), (2, vL l2), (5, vI l5)]) hC dX12_findPrice_164 (by decide) rfl ?_
  refine mx_aload_n (j := 2) hC dX12_findPrice_166 rfl rfl ?_
  refine mx_get (v := vR (mj_r M l0 1)) hC tf_X12_7 ht1 rfl dX12_findPrice_167 ?_
  refine mx_iload (j := 5) hC dX12_findPrice_170 rfl ?_
  obtain ⟨ht4, h⟩ := h
  obtain ⟨hi5, h⟩ := h
  refine mx_iaload hC ht4 hi5 dX12_findPrice_172 ?_
  refine mx_istore (L' := [(5, vI (mj_i (mj_wi (mj_wl M (mj_r M l0 44) (mj_i M l0 45 : Int32).toNatClampNeg (s0 + s1)) l0 45 ((mj_i M l0 45) + 1)) (mj_r M l0 1) (l5 : Int32).toNatClampNeg)), (4, vI l5), (6, vL (s0 + s1)), (0, vR l0), (1, vI l1), (2, vL l2)]) hC dX12_findPrice_173 (by decide) rfl ?_
  refine mx_goto (tgt := 61) hC dX12_findPrice_175 (by decide) ?_
  refine mx_sub (L' := [(0, vR l0), (1, vI l1), (2, vL l2), (4, vI l5), (5, vI (mj_i (mj_wi (mj_wl M (mj_r M l0 44) (mj_i M l0 45 : Int32).toNatClampNeg (s0 + s1)) l0 45 ((mj_i M l0 45) + 1)) (mj_r M l0 1) (l5 : Int32).toNatClampNeg))]) [3, 4, 5, 1, 0] rfl ?_
  exact show mj_X g 61 [(0, vR l0), (1, vI l1), (2, vL l2), (4, vI l5), (5, vI (mj_i (mj_wi (mj_wl M (mj_r M l0 44) (mj_i M l0 45 : Int32).toNatClampNeg (s0 + s1)) l0 45 ((mj_i M l0 45) + 1)) (mj_r M l0 1) (l5 : Int32).toNatClampNeg))] [] (mj_wl (mj_wi (mj_wl M (mj_r M l0 44) (mj_i M l0 45 : Int32).toNatClampNeg (s0 + s1)) l0 45 ((mj_i M l0 45) + 1)) l0 46 ((mj_l (mj_wl M (mj_r M l0 44) (mj_i M l0 45 : Int32).toNatClampNeg (s0 + s1)) l0 46) + (s0 + s1))) 0 0 from (hk61 l0 l1 l2 l5 (mj_i (mj_wi (mj_wl M (mj_r M l0 44) (mj_i M l0 45 : Int32).toNatClampNeg (s0 + s1)) l0 45 ((mj_i M l0 45) + 1)) (mj_r M l0 1) (l5 : Int32).toNatClampNeg) (mj_wl (mj_wi (mj_wl M (mj_r M l0 44) (mj_i M l0 45 : Int32).toNatClampNeg (s0 + s1)) l0 45 ((mj_i M l0 45) + 1)) l0 46 ((mj_l (mj_wl M (mj_r M l0 44) (mj_i M l0 45 : Int32).toNatClampNeg (s0 + s1)) l0 46) + (s0 + s1))) h)
set_option maxHeartbeats 4000000 in
set_option maxRecDepth 100000 in
theorem xb_X12_findPrice_61 {g : mj_G} {post : Unit → mj_M → Prop} (hC : mj_C g yX12_findPrice cX12_findPrice 8 (none) rm_X12_findPrice) (hE : mj_E g mj_jV post 0 0) : ∀ (f : Nat) (l0 : Nat) (l1 : Int32) (l2 : Int64) (l4 : Int32) (l5 : Int32) (M : mj_M), vb_X12_findPrice_61 post f l0 l1 l2 l4 l5 M → mj_X g 61 [(0, vR l0), (1, vI l1), (2, vL l2), (4, vI l4), (5, vI l5)] [] M 0 0 := by
  intro f
  induction f with
  | zero => exact fun _ _ _ _ _ _ h => absurd h (fun z => z)
  | succ f ih =>
    intro l0 l1 l2 l4 l5 M h
    simp only [vb_X12_findPrice_61] at h
    refine mx_iload (j := 4) hC dX12_findPrice_61 rfl ?_
    refine mx_iflt (tgt := 178) hC dX12_findPrice_63 (by decide) (fun hc6 => ?_) (fun hc6 => ?_)
    · replace h := mj_yy hc6 h
      refine mx_aload_n (j := 0) hC dX12_findPrice_178 rfl rfl ?_
      refine mx_aload_n (j := 0) hC dX12_findPrice_179 rfl rfl ?_
      obtain ⟨ht7, h⟩ := h
      refine mx_get (v := vL (mj_l M l0 47)) hC tf_X12_379 ht7 rfl dX12_findPrice_180 ?_
      refine mx_aload_n (j := 0) hC dX12_findPrice_183 rfl rfl ?_
      refine mx_get (v := vL (mj_l M l0 46)) hC tf_X12_385 ht7 rfl dX12_findPrice_184 ?_
      refine mx_lcmp hC dX12_findPrice_187 ?_
      refine mx_ifle (tgt := 207) hC dX12_findPrice_188 (by decide) (fun hc8 => ?_) (fun hc8 => ?_)
      · replace h := mj_yy hc8 h
        refine mx_lconst (v := 0) hC dX12_findPrice_207 (by decide) ?_
        refine mx_put (v := vL 0) (M1 := mj_wl M l0 48 0) hC tf_X12_392 ht7 (Or.inl rfl) ⟨rfl, rfl⟩ (mj_off_wl _ _ _ _) mj_put_wl dX12_findPrice_208 ?_
        exact mx_vret hC hE rfl dX12_findPrice_211 h
      · replace h := mj_nn hc8 h
        refine mx_aload_n (j := 0) hC dX12_findPrice_191 rfl rfl ?_
        refine mx_get (v := vL (mj_l M l0 47)) hC tf_X12_379 ht7 rfl dX12_findPrice_192 ?_
        refine mx_aload_n (j := 0) hC dX12_findPrice_195 rfl rfl ?_
        refine mx_get (v := vL (mj_l M l0 46)) hC tf_X12_385 ht7 rfl dX12_findPrice_196 ?_
        refine mx_lsub hC dX12_findPrice_199 ?_
        refine mx_ldc2 (v := 2) hC dX12_findPrice_200 tw1753 ?_
        refine mx_ldiv hC dX12_findPrice_203 (by decide) ?_
        refine mx_goto (tgt := 208) hC dX12_findPrice_204 (by decide) ?_
        refine mx_put (v := vL (((mj_l M l0 47) - (mj_l M l0 46)) / 2)) (M1 := mj_wl M l0 48 (((mj_l M l0 47) - (mj_l M l0 46)) / 2)) hC tf_X12_392 ht7 (Or.inl rfl) ⟨rfl, rfl⟩ (mj_off_wl _ _ _ _) mj_put_wl dX12_findPrice_208 ?_
        exact mx_vret hC hE rfl dX12_findPrice_211 h
    · replace h := mj_nn hc6 h
      refine mx_aload_n (j := 0) hC dX12_findPrice_66 rfl rfl ?_
      refine mx_iload (j := 3) hC dX12_findPrice_67 rfl ?_
      refine mx_aload_n (j := 0) hC dX12_findPrice_69 rfl rfl ?_
      obtain ⟨ht9, h⟩ := h
      refine mx_get (v := vI (mj_i M l0 0)) hC tf_X12_151 ht9 rfl dX12_findPrice_70 ?_
      refine mx_callV (inj := mj_jI) (As := [vI l4, vI (mj_i M l0 0)]) (st := []) hC (ct_X12_rateOf l0 l4 (mj_i M l0 0) M _ h) ty_X12_rateOf tw1505 ht9 rfl (Nat.le_of_ble_eq_true rfl) ⟨rfl, rfl, ⟨by decide, by decide⟩, by decide, by decide⟩ dX12_findPrice_73 (fun r10 M11 h => ?_)
      show mj_X g 76 [(0, vR l0), (1, vI l1), (2, vL l2), (4, vI l4), (5, vI l5)] [vI r10] M11 0 0
      refine mx_i2l hC dX12_findPrice_76 ?_
      refine mx_aload_n (j := 0) hC dX12_findPrice_77 rfl rfl ?_
      obtain ⟨ht12, h⟩ := h
      refine mx_get (v := vI (mj_i M11 l0 42)) hC tf_X12_107 ht12 rfl dX12_findPrice_78 ?_
      refine mx_i2l hC dX12_findPrice_81 ?_
      refine mx_lmul hC dX12_findPrice_82 ?_
      refine mx_ldc2 (v := 10) hC dX12_findPrice_83 tw1752 ?_
      refine mx_ldiv hC dX12_findPrice_86 (by decide) ?_
      refine mx_lstore (L' := [(6, vL ((((r10 : Int32).toInt64) * ((mj_i M11 l0 42 : Int32).toInt64)) / 10)), (0, vR l0), (1, vI l1), (2, vL l2), (4, vI l4), (5, vI l5)]) hC dX12_findPrice_87 (by decide) rfl ?_
      refine mx_lload (j := 0) hC dX12_findPrice_89 rfl ?_
      refine mx_aload_n (j := 1) hC dX12_findPrice_91 rfl rfl ?_
      refine mx_get (v := vR (mj_r M11 l0 1)) hC tf_X12_7 ht12 rfl dX12_findPrice_92 ?_
      refine mx_iload (j := 5) hC dX12_findPrice_95 rfl ?_
      obtain ⟨ht13, h⟩ := h
      obtain ⟨hi14, h⟩ := h
      refine mx_iaload hC ht13 hi14 dX12_findPrice_97 ?_
      refine mx_ifge (tgt := 126) hC dX12_findPrice_98 (by decide) (fun hc15 => ?_) (fun hc15 => ?_)
      · replace h := mj_yy hc15 h
        refine mx_lconst (v := 0) hC dX12_findPrice_126 (by decide) ?_
        refine mx_sub (L' := [(0, vR l0), (1, vI l1), (2, vL l2), (5, vI l5)]) [1, 2, 3, 5] rfl ?_
        exact show mj_X g 127 [(0, vR l0), (1, vI l1), (2, vL l2), (5, vI l5)] [vL 0, vL ((((r10 : Int32).toInt64) * ((mj_i M11 l0 42 : Int32).toInt64)) / 10)] M11 0 0 from (xb_X12_findPrice_127 hC hE ih l0 l1 l2 l5 ((((r10 : Int32).toInt64) * ((mj_i M11 l0 42 : Int32).toInt64)) / 10) 0 M11 h)
      · replace h := mj_nn hc15 h
        refine mx_aload_n (j := 1) hC dX12_findPrice_101 rfl rfl ?_
        refine mx_aload_n (j := 1) hC dX12_findPrice_102 rfl rfl ?_
        refine mx_get (v := vR (mj_r M11 l0 2)) hC tf_X12_13 ht12 rfl dX12_findPrice_103 ?_
        refine mx_iload_n (j := 2) hC dX12_findPrice_106 rfl rfl ?_
        obtain ⟨ht16, h⟩ := h
        obtain ⟨hi17, h⟩ := h
        refine mx_iaload hC ht16 hi17 dX12_findPrice_107 ?_
        refine mx_callV (inj := mj_jL) (As := [vI (mj_i M11 (mj_r M11 l0 2) (l1 : Int32).toNatClampNeg)]) (st := [vL ((((r10 : Int32).toInt64) * ((mj_i M11 l0 42 : Int32).toInt64)) / 10)]) hC (ct_X12_valueOf l0 (mj_i M11 (mj_r M11 l0 2) (l1 : Int32).toNatClampNeg) M11 _ h) ty_X12_valueOf tw1712 ht12 rfl (Nat.le_of_ble_eq_true rfl) ⟨rfl, rfl, ⟨by decide, by decide⟩, by decide, by decide⟩ dX12_findPrice_108 (fun r18 M19 h => ?_)
        show mj_X g 111 [(6, vL ((((r10 : Int32).toInt64) * ((mj_i M11 l0 42 : Int32).toInt64)) / 10)), (0, vR l0), (1, vI l1), (2, vL l2), (4, vI l4), (5, vI l5)] [vL r18, vL ((((r10 : Int32).toInt64) * ((mj_i M11 l0 42 : Int32).toInt64)) / 10)] M19 0 0
        refine mx_lload_n (j := 3) hC dX12_findPrice_111 rfl rfl ?_
        refine mx_lsub hC dX12_findPrice_112 ?_
        refine mx_aload_n (j := 1) hC dX12_findPrice_113 rfl rfl ?_
        obtain ⟨ht20, h⟩ := h
        refine mx_get (v := vI (mj_i M19 l0 43)) hC tf_X12_111 ht20 rfl dX12_findPrice_114 ?_
        refine mx_i2l hC dX12_findPrice_117 ?_
        refine mx_lmul hC dX12_findPrice_118 ?_
        refine mx_ldc2 (v := 100) hC dX12_findPrice_119 tw1497 ?_
        refine mx_ldiv hC dX12_findPrice_122 (by decide) ?_
        refine mx_goto (tgt := 127) hC dX12_findPrice_123 (by decide) ?_
        refine mx_sub (L' := [(0, vR l0), (1, vI l1), (2, vL l2), (5, vI l5)]) [1, 2, 3, 5] rfl ?_
        exact show mj_X g 127 [(0, vR l0), (1, vI l1), (2, vL l2), (5, vI l5)] [vL (((r18 - l2) * ((mj_i M19 l0 43 : Int32).toInt64)) / 100), vL ((((r10 : Int32).toInt64) * ((mj_i M11 l0 42 : Int32).toInt64)) / 10)] M19 0 0 from (xb_X12_findPrice_127 hC hE ih l0 l1 l2 l5 ((((r10 : Int32).toInt64) * ((mj_i M11 l0 42 : Int32).toInt64)) / 10) (((r18 - l2) * ((mj_i M19 l0 43 : Int32).toInt64)) / 100) M19 h)
set_option maxHeartbeats 4000000 in
set_option maxRecDepth 100000 in
theorem ct_X12_findPrice {l : Launch} {base : Nat} {D : va_G} {A : ClassId × ClassId × ClassId} (l0 : Nat) (l1 : Int32) (M : mj_M) (post : Unit → mj_M → Prop) (h : vc_X12_findPrice l0 l1 M post) : mj_Met l base D A mj_jV yX12_findPrice cX12_findPrice 8 (none) rm_X12_findPrice 0 0 [vR l0, vI l1] M post := by
  refine mj_entry (by decide +kernel) (Nat.le_of_ble_eq_true rfl) (fun g hC hE h1 h2 h3 h4 => ?_)
  show mj_X g 0 [(0, vR l0), (1, vI l1)] [] M 0 0
  simp only [vc_X12_findPrice] at h
  refine mx_aload_n (j := 0) hC dX12_findPrice_0 rfl rfl ?_
  refine mx_aload_n (j := 0) hC dX12_findPrice_1 rfl rfl ?_
  obtain ⟨ht21, h⟩ := h
  refine mx_get (v := vR (mj_r M l0 2)) hC tf_X12_13 ht21 rfl dX12_findPrice_2 ?_
  refine mx_iload_n (j := 1) hC dX12_findPrice_5 rfl rfl ?_
  obtain ⟨ht22, h⟩ := h
  obtain ⟨hi23, h⟩ := h
  refine mx_iaload hC ht22 hi23 dX12_findPrice_6 ?_
  refine mx_aload_n (j := 0) hC dX12_findPrice_7 rfl rfl ?_
  refine mx_iload_n (j := 1) hC dX12_findPrice_8 rfl rfl ?_
  refine mx_callV (inj := mj_jI) (As := [vI l1]) (st := [vI (mj_i M (mj_r M l0 2) (l1 : Int32).toNatClampNeg), vR l0]) hC (ct_X12_yearsLeft l0 l1 M _ h) ty_X12_yearsLeft tw1704 ht21 rfl (Nat.le_of_ble_eq_true rfl) ⟨rfl, rfl, ⟨by decide, by decide⟩, by decide, by decide⟩ dX12_findPrice_9 (fun r24 M25 h => ?_)
  show mj_X g 12 [(0, vR l0), (1, vI l1)] [vI r24, vI (mj_i M (mj_r M l0 2) (l1 : Int32).toNatClampNeg), vR l0] M25 0 0
  obtain ⟨ht26, h⟩ := h
  refine mx_callV (inj := mj_jL) (As := [vI (mj_i M (mj_r M l0 2) (l1 : Int32).toNatClampNeg), vI r24]) (st := []) hC (ct_X12_worthOf l0 (mj_i M (mj_r M l0 2) (l1 : Int32).toNatClampNeg) r24 M25 _ h) ty_X12_worthOf tw1708 ht26 rfl (Nat.le_of_ble_eq_true rfl) ⟨rfl, rfl, ⟨by decide, by decide⟩, by decide, by decide⟩ dX12_findPrice_12 (fun r27 M28 h => ?_)
  show mj_X g 15 [(0, vR l0), (1, vI l1)] [vL r27] M28 0 0
  refine mx_lstore_n (L' := [(2, vL r27), (0, vR l0), (1, vI l1)]) hC dX12_findPrice_15 rfl (by decide) rfl ?_
  refine mx_aload_n (j := 1) hC dX12_findPrice_16 rfl rfl ?_
  refine mx_aload_n (j := 1) hC dX12_findPrice_17 rfl rfl ?_
  refine mx_aload_n (j := 1) hC dX12_findPrice_18 rfl rfl ?_
  obtain ⟨ht29, h⟩ := h
  refine mx_get (v := vR (mj_r M28 l0 2)) hC tf_X12_13 ht29 rfl dX12_findPrice_19 ?_
  refine mx_iload_n (j := 2) hC dX12_findPrice_22 rfl rfl ?_
  obtain ⟨ht30, h⟩ := h
  obtain ⟨hi31, h⟩ := h
  refine mx_iaload hC ht30 hi31 dX12_findPrice_23 ?_
  refine mx_aload_n (j := 1) hC dX12_findPrice_24 rfl rfl ?_
  refine mx_iload_n (j := 2) hC dX12_findPrice_25 rfl rfl ?_
  refine mx_callV (inj := mj_jI) (As := [vI l1]) (st := [vI (mj_i M28 (mj_r M28 l0 2) (l1 : Int32).toNatClampNeg), vR l0, vR l0]) hC (ct_X12_yearsLeft l0 l1 M28 _ h) ty_X12_yearsLeft tw1704 ht29 rfl (Nat.le_of_ble_eq_true rfl) ⟨rfl, rfl, ⟨by decide, by decide⟩, by decide, by decide⟩ dX12_findPrice_26 (fun r32 M33 h => ?_)
  show mj_X g 29 [(2, vL r27), (0, vR l0), (1, vI l1)] [vI r32, vI (mj_i M28 (mj_r M28 l0 2) (l1 : Int32).toNatClampNeg), vR l0, vR l0] M33 0 0
  refine mx_bipush (v := 90) hC dX12_findPrice_29 (by decide) ?_
  refine mx_iadd hC dX12_findPrice_31 ?_
  obtain ⟨ht34, h⟩ := h
  refine mx_callV (inj := mj_jL) (As := [vI (mj_i M28 (mj_r M28 l0 2) (l1 : Int32).toNatClampNeg), vI (r32 + 90)]) (st := [vR l0]) hC (ct_X12_worthOf l0 (mj_i M28 (mj_r M28 l0 2) (l1 : Int32).toNatClampNeg) (r32 + 90) M33 _ h) ty_X12_worthOf tw1708 ht34 rfl (Nat.le_of_ble_eq_true rfl) ⟨rfl, rfl, ⟨by decide, by decide⟩, by decide, by decide⟩ dX12_findPrice_32 (fun r35 M36 h => ?_)
  show mj_X g 35 [(2, vL r27), (0, vR l0), (1, vI l1)] [vL r35, vR l0] M36 0 0
  refine mx_lload_n (j := 0) hC dX12_findPrice_35 rfl rfl ?_
  refine mx_lsub hC dX12_findPrice_36 ?_
  obtain ⟨ht37, h⟩ := h
  refine mx_put (v := vL (r35 - r27)) (M1 := mj_wl M36 l0 47 (r35 - r27)) hC tf_X12_379 ht37 (Or.inl rfl) ⟨rfl, rfl⟩ (mj_off_wl _ _ _ _) mj_put_wl dX12_findPrice_37 ?_
  refine mx_aload_n (j := 1) hC dX12_findPrice_40 rfl rfl ?_
  refine mx_iconst (v := 0) hC dX12_findPrice_41 (by decide) ?_
  refine mx_put (v := vI 0) (M1 := mj_wi (mj_wl M36 l0 47 (r35 - r27)) l0 45 0) hC tf_X12_382 ht37 (Or.inl rfl) ⟨rfl, rfl⟩ (mj_off_wi _ _ _ _) mj_put_wi dX12_findPrice_42 ?_
  refine mx_aload_n (j := 1) hC dX12_findPrice_45 rfl rfl ?_
  refine mx_lconst (v := 0) hC dX12_findPrice_46 (by decide) ?_
  refine mx_put (v := vL 0) (M1 := mj_wl (mj_wi (mj_wl M36 l0 47 (r35 - r27)) l0 45 0) l0 46 0) hC tf_X12_385 ht37 (Or.inl rfl) ⟨rfl, rfl⟩ (mj_off_wl _ _ _ _) mj_put_wl dX12_findPrice_47 ?_
  refine mx_iload_n (j := 2) hC dX12_findPrice_50 rfl rfl ?_
  refine mx_istore (L' := [(4, vI l1), (2, vL r27), (0, vR l0), (1, vI l1)]) hC dX12_findPrice_51 (by decide) rfl ?_
  refine mx_aload_n (j := 2) hC dX12_findPrice_53 rfl rfl ?_
  refine mx_get (v := vR (mj_r M36 l0 1)) hC tf_X12_7 ht37 rfl dX12_findPrice_54 ?_
  refine mx_iload_n (j := 3) hC dX12_findPrice_57 rfl rfl ?_
  obtain ⟨ht38, h⟩ := h
  obtain ⟨hi39, h⟩ := h
  refine mx_iaload hC ht38 hi39 dX12_findPrice_58 ?_
  refine mx_istore (L' := [(5, vI (mj_i (mj_wi (mj_wl M36 l0 47 (r35 - r27)) l0 45 0) (mj_r M36 l0 1) (l1 : Int32).toNatClampNeg)), (4, vI l1), (2, vL r27), (0, vR l0), (1, vI l1)]) hC dX12_findPrice_59 (by decide) rfl ?_
  refine mx_sub (L' := [(0, vR l0), (1, vI l1), (2, vL r27), (4, vI l1), (5, vI (mj_i (mj_wi (mj_wl M36 l0 47 (r35 - r27)) l0 45 0) (mj_r M36 l0 1) (l1 : Int32).toNatClampNeg))]) [3, 4, 2, 1, 0] rfl ?_
  obtain ⟨fe, h⟩ := h
  exact show mj_X g 61 [(0, vR l0), (1, vI l1), (2, vL r27), (4, vI l1), (5, vI (mj_i (mj_wi (mj_wl M36 l0 47 (r35 - r27)) l0 45 0) (mj_r M36 l0 1) (l1 : Int32).toNatClampNeg))] [] (mj_wl (mj_wi (mj_wl M36 l0 47 (r35 - r27)) l0 45 0) l0 46 0) 0 0 from (xb_X12_findPrice_61 hC hE fe l0 l1 r27 l1 (mj_i (mj_wi (mj_wl M36 l0 47 (r35 - r27)) l0 45 0) (mj_r M36 l0 1) (l1 : Int32).toNatClampNeg) (mj_wl (mj_wi (mj_wl M36 l0 47 (r35 - r27)) l0 45 0) l0 46 0) h)
theorem tw1748 : (Jvm.Cond.methodLink "LeaseLandModel" (395 : Nat) ({ cls := "LeaseLandModel", name := "findPrice", desc := "(I)V" } : Jvm.MethodName)) ∈ mj_tbl := mj_w 1801 (by decide +kernel) (by decide +kernel)
theorem tw1751 : (Jvm.Cond.code ({ cls := "LeaseLandModel", name := "findPrice", desc := "(I)V" } : Jvm.MethodName) prog_14_method_95_code (8 : Nat) (Option.none : Option Jvm.ClassFile.FieldType)) ∈ mj_tbl := mj_w 1804 (by decide +kernel) (by decide +kernel)
theorem tw1750 : (Jvm.Cond.instanceMethod ({ cls := "LeaseLandModel", name := "findPrice", desc := "(I)V" } : Jvm.MethodName)) ∈ mj_tbl := mj_w 1803 (by decide +kernel) (by decide +kernel)
theorem ty_X12_findPrice : mj_YV 12 yX12_findPrice cX12_findPrice 8 (none) 1 := ⟨⟨tw1751, tw11, by decide +kernel, by decide +kernel, by decide +kernel⟩, tw1750, mj_w 44 (by decide +kernel) (by decide +kernel), _, rfl, rfl⟩
def rm_X12_price : Room := { frames := 4, cells := 0, slots := 0, locals := 93 }
theorem dX12_price_0 : decode cX12_price 0 = .ok (.aload_n 0, 1) := by decide +kernel
theorem dX12_price_1 : decode cX12_price 1 = .ok (.iload_n 1, 1) := by decide +kernel
theorem dX12_price_2 : decode cX12_price 2 = .ok (.invokevirtual 191, 3) := by decide +kernel
theorem dX12_price_5 : decode cX12_price 5 = .ok (.ifCond .ne 7, 3) := by decide +kernel
theorem dX12_price_8 : decode cX12_price 8 = .ok (.ldc2_w 226, 3) := by decide +kernel
theorem dX12_price_11 : decode cX12_price 11 = .ok (.lreturn, 1) := by decide +kernel
theorem dX12_price_12 : decode cX12_price 12 = .ok (.iload_n 2, 1) := by decide +kernel
theorem dX12_price_13 : decode cX12_price 13 = .ok (.i2l, 1) := by decide +kernel
theorem dX12_price_14 : decode cX12_price 14 = .ok (.lconst 0, 1) := by decide +kernel
theorem dX12_price_15 : decode cX12_price 15 = .ok (.ldc2_w 253, 3) := by decide +kernel
theorem dX12_price_18 : decode cX12_price 18 = .ok (.invokestatic 133, 3) := by decide +kernel
theorem dX12_price_21 : decode cX12_price 21 = .ok (.ifCond .ne 7, 3) := by decide +kernel
theorem dX12_price_24 : decode cX12_price 24 = .ok (.ldc2_w 228, 3) := by decide +kernel
theorem dX12_price_27 : decode cX12_price 27 = .ok (.lreturn, 1) := by decide +kernel
theorem dX12_price_28 : decode cX12_price 28 = .ok (.aload_n 0, 1) := by decide +kernel
theorem dX12_price_29 : decode cX12_price 29 = .ok (.iload_n 1, 1) := by decide +kernel
theorem dX12_price_30 : decode cX12_price 30 = .ok (.aload_n 0, 1) := by decide +kernel
theorem dX12_price_31 : decode cX12_price 31 = .ok (.getfield 151, 3) := by decide +kernel
theorem dX12_price_34 : decode cX12_price 34 = .ok (.invokevirtual 187, 3) := by decide +kernel
theorem dX12_price_37 : decode cX12_price 37 = .ok (.ifCond .ne 7, 3) := by decide +kernel
theorem dX12_price_40 : decode cX12_price 40 = .ok (.ldc2_w 375, 3) := by decide +kernel
theorem dX12_price_43 : decode cX12_price 43 = .ok (.lreturn, 1) := by decide +kernel
theorem dX12_price_44 : decode cX12_price 44 = .ok (.aload_n 0, 1) := by decide +kernel
theorem dX12_price_45 : decode cX12_price 45 = .ok (.iload_n 1, 1) := by decide +kernel
theorem dX12_price_46 : decode cX12_price 46 = .ok (.invokevirtual 395, 3) := by decide +kernel
theorem dX12_price_49 : decode cX12_price 49 = .ok (.iload_n 2, 1) := by decide +kernel
theorem dX12_price_50 : decode cX12_price 50 = .ok (.ifCond .ne 15, 3) := by decide +kernel
theorem dX12_price_53 : decode cX12_price 53 = .ok (.aload_n 0, 1) := by decide +kernel
theorem dX12_price_54 : decode cX12_price 54 = .ok (.getfield 385, 3) := by decide +kernel
theorem dX12_price_57 : decode cX12_price 57 = .ok (.aload_n 0, 1) := by decide +kernel
theorem dX12_price_58 : decode cX12_price 58 = .ok (.getfield 392, 3) := by decide +kernel
theorem dX12_price_61 : decode cX12_price 61 = .ok (.ladd, 1) := by decide +kernel
theorem dX12_price_62 : decode cX12_price 62 = .ok (.goto 31, 3) := by decide +kernel
theorem dX12_price_65 : decode cX12_price 65 = .ok (.iload_n 2, 1) := by decide +kernel
theorem dX12_price_66 : decode cX12_price 66 = .ok (.iconst 1, 1) := by decide +kernel
theorem dX12_price_67 : decode cX12_price 67 = .ok (.if_icmp .ne 10, 3) := by decide +kernel
theorem dX12_price_70 : decode cX12_price 70 = .ok (.aload_n 0, 1) := by decide +kernel
theorem dX12_price_71 : decode cX12_price 71 = .ok (.getfield 379, 3) := by decide +kernel
theorem dX12_price_74 : decode cX12_price 74 = .ok (.goto 19, 3) := by decide +kernel
theorem dX12_price_77 : decode cX12_price 77 = .ok (.iload_n 2, 1) := by decide +kernel
theorem dX12_price_78 : decode cX12_price 78 = .ok (.iconst 2, 1) := by decide +kernel
theorem dX12_price_79 : decode cX12_price 79 = .ok (.if_icmp .ne 10, 3) := by decide +kernel
theorem dX12_price_82 : decode cX12_price 82 = .ok (.aload_n 0, 1) := by decide +kernel
theorem dX12_price_83 : decode cX12_price 83 = .ok (.getfield 392, 3) := by decide +kernel
theorem dX12_price_86 : decode cX12_price 86 = .ok (.goto 7, 3) := by decide +kernel
theorem dX12_price_89 : decode cX12_price 89 = .ok (.aload_n 0, 1) := by decide +kernel
theorem dX12_price_90 : decode cX12_price 90 = .ok (.getfield 385, 3) := by decide +kernel
theorem dX12_price_93 : decode cX12_price 93 = .ok (.lreturn, 1) := by decide +kernel
def vc_X12_price (l0 : Nat) (l1 : Int32) (l2 : Int32) (M : mj_M) (post : Int64 → mj_M → Prop) : Prop := mj_tag M l0 = 13 ∧ vc_X12_isLease l0 l1 M (fun r2 M3 => if r2 = true then (vc_X12_in ((l2 : Int32).toInt64) 0 3 M3 (fun r5 M6 => if r5 = true then (mj_tag M6 l0 = 13 ∧ vc_X12_isOn l0 l1 (mj_i M6 l0 0) M6 (fun r9 M10 => if r9 = true then (mj_tag M10 l0 = 13 ∧ vc_X12_findPrice l0 l1 M10 (fun _ M13 => if l2 = 0 then (mj_tag M13 l0 = 13 ∧ post ((mj_l M13 l0 46) + (mj_l M13 l0 48)) M13) else (if l2 = 1 then (mj_tag M13 l0 = 13 ∧ post (mj_l M13 l0 47) M13) else (if l2 = 2 then (mj_tag M13 l0 = 13 ∧ post (mj_l M13 l0 48) M13) else (mj_tag M13 l0 = 13 ∧ post (mj_l M13 l0 46) M13))))) else (post ((-1000000000000003)) M10))) else (post ((-1000000000000002)) M6))) else (post ((-1000000000000001)) M3))
set_option maxHeartbeats 4000000 in
set_option maxRecDepth 100000 in
theorem ct_X12_price {l : Launch} {base : Nat} {D : va_G} {A : ClassId × ClassId × ClassId} (l0 : Nat) (l1 : Int32) (l2 : Int32) (M : mj_M) (post : Int64 → mj_M → Prop) (h : vc_X12_price l0 l1 l2 M post) : mj_Met l base D A mj_jL yX12_price cX12_price 3 (some .long) rm_X12_price 0 0 [vR l0, vI l1, vI l2] M post := by
  refine mj_entry (by decide +kernel) (Nat.le_of_ble_eq_true rfl) (fun g hC hE h1 h2 h3 h4 => ?_)
  show mj_X g 0 [(0, vR l0), (1, vI l1), (2, vI l2)] [] M 0 0
  simp only [vc_X12_price] at h
  refine mx_aload_n (j := 0) hC dX12_price_0 rfl rfl ?_
  refine mx_iload_n (j := 1) hC dX12_price_1 rfl rfl ?_
  obtain ⟨ht1, h⟩ := h
  refine mx_callV (inj := mj_jB) (As := [vI l1]) (st := []) hC (ct_X12_isLease l0 l1 M _ h) ty_X12_isLease tw1448 ht1 rfl (Nat.le_of_ble_eq_true rfl) ⟨rfl, rfl, ⟨by decide, by decide⟩, by decide, by decide⟩ dX12_price_2 (fun r2 M3 h => ?_)
  show mj_X g 5 [(0, vR l0), (1, vI l1), (2, vI l2)] [vI (mj_b r2)] M3 0 0
  refine mx_ifneB (tgt := 12) hC dX12_price_5 (by decide) (fun hc4 => ?_) (fun hc4 => ?_)
  · replace h := mj_yy hc4 h
    refine mx_iload_n (j := 2) hC dX12_price_12 rfl rfl ?_
    refine mx_i2l hC dX12_price_13 ?_
    refine mx_lconst (v := 0) hC dX12_price_14 (by decide) ?_
    refine mx_ldc2 (v := 3) hC dX12_price_15 tw1556 ?_
    refine mx_callS (inj := mj_jB) (As := [vL ((l2 : Int32).toInt64), vL 0, vL 3]) (st := []) hC (ct_X12_in ((l2 : Int32).toInt64) 0 3 M3 _ h) ty_X12_in tw1379 rfl (Nat.le_of_ble_eq_true rfl) ⟨rfl, rfl, ⟨by decide, by decide⟩, by decide, by decide⟩ dX12_price_18 (fun r5 M6 h => ?_)
    show mj_X g 21 [(0, vR l0), (1, vI l1), (2, vI l2)] [vI (mj_b r5)] M6 0 0
    refine mx_ifneB (tgt := 28) hC dX12_price_21 (by decide) (fun hc7 => ?_) (fun hc7 => ?_)
    · replace h := mj_yy hc7 h
      refine mx_aload_n (j := 0) hC dX12_price_28 rfl rfl ?_
      refine mx_iload_n (j := 1) hC dX12_price_29 rfl rfl ?_
      refine mx_aload_n (j := 0) hC dX12_price_30 rfl rfl ?_
      obtain ⟨ht8, h⟩ := h
      refine mx_get (v := vI (mj_i M6 l0 0)) hC tf_X12_151 ht8 rfl dX12_price_31 ?_
      refine mx_callV (inj := mj_jB) (As := [vI l1, vI (mj_i M6 l0 0)]) (st := []) hC (ct_X12_isOn l0 l1 (mj_i M6 l0 0) M6 _ h) ty_X12_isOn tw1440 ht8 rfl (Nat.le_of_ble_eq_true rfl) ⟨rfl, rfl, ⟨by decide, by decide⟩, by decide, by decide⟩ dX12_price_34 (fun r9 M10 h => ?_)
      show mj_X g 37 [(0, vR l0), (1, vI l1), (2, vI l2)] [vI (mj_b r9)] M10 0 0
      refine mx_ifneB (tgt := 44) hC dX12_price_37 (by decide) (fun hc11 => ?_) (fun hc11 => ?_)
      · replace h := mj_yy hc11 h
        refine mx_aload_n (j := 0) hC dX12_price_44 rfl rfl ?_
        refine mx_iload_n (j := 1) hC dX12_price_45 rfl rfl ?_
        obtain ⟨ht12, h⟩ := h
        refine mx_callV (inj := mj_jV) (As := [vI l1]) (st := []) hC (ct_X12_findPrice l0 l1 M10 _ h) ty_X12_findPrice tw1748 ht12 rfl (Nat.le_of_ble_eq_true rfl) ⟨rfl, rfl, ⟨by decide, by decide⟩, by decide, by decide⟩ dX12_price_46 (fun _ M13 h => ?_)
        show mj_X g 49 [(0, vR l0), (1, vI l1), (2, vI l2)] [] M13 0 0
        refine mx_iload_n (j := 2) hC dX12_price_49 rfl rfl ?_
        refine mx_ifne (tgt := 65) hC dX12_price_50 (by decide) (fun hc14 => ?_) (fun hc14 => ?_)
        · replace h := mj_nn hc14 h
          refine mx_iload_n (j := 2) hC dX12_price_65 rfl rfl ?_
          refine mx_iconst (v := 1) hC dX12_price_66 (by decide) ?_
          refine mx_icmpne (tgt := 77) hC dX12_price_67 (by decide) (fun hc15 => ?_) (fun hc15 => ?_)
          · replace h := mj_nn hc15 h
            refine mx_iload_n (j := 2) hC dX12_price_77 rfl rfl ?_
            refine mx_iconst (v := 2) hC dX12_price_78 (by decide) ?_
            refine mx_icmpne (tgt := 89) hC dX12_price_79 (by decide) (fun hc16 => ?_) (fun hc16 => ?_)
            · replace h := mj_nn hc16 h
              refine mx_aload_n (j := 0) hC dX12_price_89 rfl rfl ?_
              obtain ⟨ht17, h⟩ := h
              refine mx_get (v := vL (mj_l M13 l0 46)) hC tf_X12_385 ht17 rfl dX12_price_90 ?_
              exact mx_lret hC hE rfl dX12_price_93 h
            · replace h := mj_yy hc16 h
              refine mx_aload_n (j := 0) hC dX12_price_82 rfl rfl ?_
              obtain ⟨ht18, h⟩ := h
              refine mx_get (v := vL (mj_l M13 l0 48)) hC tf_X12_392 ht18 rfl dX12_price_83 ?_
              refine mx_goto (tgt := 93) hC dX12_price_86 (by decide) ?_
              exact mx_lret hC hE rfl dX12_price_93 h
          · replace h := mj_yy hc15 h
            refine mx_aload_n (j := 0) hC dX12_price_70 rfl rfl ?_
            obtain ⟨ht19, h⟩ := h
            refine mx_get (v := vL (mj_l M13 l0 47)) hC tf_X12_379 ht19 rfl dX12_price_71 ?_
            refine mx_goto (tgt := 93) hC dX12_price_74 (by decide) ?_
            exact mx_lret hC hE rfl dX12_price_93 h
        · replace h := mj_yy hc14 h
          refine mx_aload_n (j := 0) hC dX12_price_53 rfl rfl ?_
          obtain ⟨ht20, h⟩ := h
          refine mx_get (v := vL (mj_l M13 l0 46)) hC tf_X12_385 ht20 rfl dX12_price_54 ?_
          refine mx_aload_n (j := 0) hC dX12_price_57 rfl rfl ?_
          refine mx_get (v := vL (mj_l M13 l0 48)) hC tf_X12_392 ht20 rfl dX12_price_58 ?_
          refine mx_ladd hC dX12_price_61 ?_
          refine mx_goto (tgt := 93) hC dX12_price_62 (by decide) ?_
          exact mx_lret hC hE rfl dX12_price_93 h
      · replace h := mj_nn hc11 h
        refine mx_ldc2 (v := (-1000000000000003)) hC dX12_price_40 tw1734 ?_
        exact mx_lret hC hE rfl dX12_price_43 h
    · replace h := mj_nn hc7 h
      refine mx_ldc2 (v := (-1000000000000002)) hC dX12_price_24 tw1514 ?_
      exact mx_lret hC hE rfl dX12_price_27 h
  · replace h := mj_nn hc4 h
    refine mx_ldc2 (v := (-1000000000000001)) hC dX12_price_8 tw1513 ?_
    exact mx_lret hC hE rfl dX12_price_11 h
def rm_X12_partOf : Room := { frames := 0, cells := 0, slots := 0, locals := 0 }
theorem dX12_partOf_0 : decode cX12_partOf 0 = .ok (.aload_n 0, 1) := by decide +kernel
theorem dX12_partOf_1 : decode cX12_partOf 1 = .ok (.getfield 385, 3) := by decide +kernel
theorem dX12_partOf_4 : decode cX12_partOf 4 = .ok (.lconst 0, 1) := by decide +kernel
theorem dX12_partOf_5 : decode cX12_partOf 5 = .ok (.lcmp, 1) := by decide +kernel
theorem dX12_partOf_6 : decode cX12_partOf 6 = .ok (.ifCond .ne 7, 3) := by decide +kernel
theorem dX12_partOf_9 : decode cX12_partOf 9 = .ok (.lconst 0, 1) := by decide +kernel
theorem dX12_partOf_10 : decode cX12_partOf 10 = .ok (.goto 19, 3) := by decide +kernel
theorem dX12_partOf_13 : decode cX12_partOf 13 = .ok (.aload_n 0, 1) := by decide +kernel
theorem dX12_partOf_14 : decode cX12_partOf 14 = .ok (.getfield 392, 3) := by decide +kernel
theorem dX12_partOf_17 : decode cX12_partOf 17 = .ok (.aload_n 0, 1) := by decide +kernel
theorem dX12_partOf_18 : decode cX12_partOf 18 = .ok (.getfield 114, 3) := by decide +kernel
theorem dX12_partOf_21 : decode cX12_partOf 21 = .ok (.iload_n 1, 1) := by decide +kernel
theorem dX12_partOf_22 : decode cX12_partOf 22 = .ok (.laload, 1) := by decide +kernel
theorem dX12_partOf_23 : decode cX12_partOf 23 = .ok (.lmul, 1) := by decide +kernel
theorem dX12_partOf_24 : decode cX12_partOf 24 = .ok (.aload_n 0, 1) := by decide +kernel
theorem dX12_partOf_25 : decode cX12_partOf 25 = .ok (.getfield 385, 3) := by decide +kernel
theorem dX12_partOf_28 : decode cX12_partOf 28 = .ok (.ldiv, 1) := by decide +kernel
theorem dX12_partOf_29 : decode cX12_partOf 29 = .ok (.lreturn, 1) := by decide +kernel
def vc_X12_partOf (l0 : Nat) (l1 : Int32) (M : mj_M) (post : Int64 → mj_M → Prop) : Prop := mj_tag M l0 = 13 ∧ if (lg_cmp (mj_l M l0 46) 0) = 0 then (post 0 M) else (mj_tag M (mj_r M l0 44) = 102 ∧ vp_in l1 (mj_len M (mj_r M l0 44)) ∧ (¬ (mj_l M l0 46) = 0) ∧ post (((mj_l M l0 48) * (mj_l M (mj_r M l0 44) (l1 : Int32).toNatClampNeg)) / (mj_l M l0 46)) M)
set_option maxHeartbeats 4000000 in
set_option maxRecDepth 100000 in
theorem ct_X12_partOf {l : Launch} {base : Nat} {D : va_G} {A : ClassId × ClassId × ClassId} (l0 : Nat) (l1 : Int32) (M : mj_M) (post : Int64 → mj_M → Prop) (h : vc_X12_partOf l0 l1 M post) : mj_Met l base D A mj_jL yX12_partOf cX12_partOf 2 (some .long) rm_X12_partOf 0 0 [vR l0, vI l1] M post := by
  refine mj_entry (by decide +kernel) (Nat.le_of_ble_eq_true rfl) (fun g hC hE h1 h2 h3 h4 => ?_)
  show mj_X g 0 [(0, vR l0), (1, vI l1)] [] M 0 0
  simp only [vc_X12_partOf] at h
  refine mx_aload_n (j := 0) hC dX12_partOf_0 rfl rfl ?_
  obtain ⟨ht1, h⟩ := h
  refine mx_get (v := vL (mj_l M l0 46)) hC tf_X12_385 ht1 rfl dX12_partOf_1 ?_
  refine mx_lconst (v := 0) hC dX12_partOf_4 (by decide) ?_
  refine mx_lcmp hC dX12_partOf_5 ?_
  refine mx_ifne (tgt := 13) hC dX12_partOf_6 (by decide) (fun hc2 => ?_) (fun hc2 => ?_)
  · replace h := mj_nn hc2 h
    refine mx_aload_n (j := 0) hC dX12_partOf_13 rfl rfl ?_
    refine mx_get (v := vL (mj_l M l0 48)) hC tf_X12_392 ht1 rfl dX12_partOf_14 ?_
    refine mx_aload_n (j := 0) hC dX12_partOf_17 rfl rfl ?_
    refine mx_get (v := vR (mj_r M l0 44)) hC tf_X12_114 ht1 rfl dX12_partOf_18 ?_
    refine mx_iload_n (j := 1) hC dX12_partOf_21 rfl rfl ?_
    obtain ⟨ht3, h⟩ := h
    obtain ⟨hi4, h⟩ := h
    refine mx_laload hC ht3 hi4 dX12_partOf_22 ?_
    refine mx_lmul hC dX12_partOf_23 ?_
    refine mx_aload_n (j := 0) hC dX12_partOf_24 rfl rfl ?_
    refine mx_get (v := vL (mj_l M l0 46)) hC tf_X12_385 ht1 rfl dX12_partOf_25 ?_
    obtain ⟨hz5, h⟩ := h
    refine mx_ldiv hC dX12_partOf_28 hz5 ?_
    exact mx_lret hC hE rfl dX12_partOf_29 h
  · replace h := mj_yy hc2 h
    refine mx_lconst (v := 0) hC dX12_partOf_9 (by decide) ?_
    refine mx_goto (tgt := 29) hC dX12_partOf_10 (by decide) ?_
    exact mx_lret hC hE rfl dX12_partOf_29 h
theorem tw1758 : (Jvm.Cond.constantLong "LeaseLandModel" (398 : Nat) (-1000000000000006 : Int64)) ∈ mj_tbl := mj_w 1811 (by decide +kernel) (by decide +kernel)
theorem tw1759 : (Jvm.Cond.methodLink "LeaseLandModel" (400 : Nat) ({ cls := "LeaseLandModel", name := "partOf", desc := "(I)J" } : Jvm.MethodName)) ∈ mj_tbl := mj_w 1812 (by decide +kernel) (by decide +kernel)
theorem tw1762 : (Jvm.Cond.code ({ cls := "LeaseLandModel", name := "partOf", desc := "(I)J" } : Jvm.MethodName) prog_14_method_97_code (2 : Nat) (Option.some Jvm.ClassFile.FieldType.long)) ∈ mj_tbl := mj_w 1815 (by decide +kernel) (by decide +kernel)
theorem tw1761 : (Jvm.Cond.instanceMethod ({ cls := "LeaseLandModel", name := "partOf", desc := "(I)J" } : Jvm.MethodName)) ∈ mj_tbl := mj_w 1814 (by decide +kernel) (by decide +kernel)
theorem ty_X12_partOf : mj_YV 12 yX12_partOf cX12_partOf 2 (some .long) 1 := ⟨⟨tw1762, tw11, by decide +kernel, by decide +kernel, by decide +kernel⟩, tw1761, mj_w 45 (by decide +kernel) (by decide +kernel), _, rfl, rfl⟩
def rm_X12_share : Room := { frames := 4, cells := 0, slots := 0, locals := 93 }
theorem dX12_share_0 : decode cX12_share 0 = .ok (.aload_n 0, 1) := by decide +kernel
theorem dX12_share_1 : decode cX12_share 1 = .ok (.iload_n 1, 1) := by decide +kernel
theorem dX12_share_2 : decode cX12_share 2 = .ok (.invokevirtual 191, 3) := by decide +kernel
theorem dX12_share_5 : decode cX12_share 5 = .ok (.ifCond .ne 7, 3) := by decide +kernel
theorem dX12_share_8 : decode cX12_share 8 = .ok (.ldc2_w 226, 3) := by decide +kernel
theorem dX12_share_11 : decode cX12_share 11 = .ok (.lreturn, 1) := by decide +kernel
theorem dX12_share_12 : decode cX12_share 12 = .ok (.aload_n 0, 1) := by decide +kernel
theorem dX12_share_13 : decode cX12_share 13 = .ok (.iload_n 1, 1) := by decide +kernel
theorem dX12_share_14 : decode cX12_share 14 = .ok (.aload_n 0, 1) := by decide +kernel
theorem dX12_share_15 : decode cX12_share 15 = .ok (.getfield 151, 3) := by decide +kernel
theorem dX12_share_18 : decode cX12_share 18 = .ok (.invokevirtual 187, 3) := by decide +kernel
theorem dX12_share_21 : decode cX12_share 21 = .ok (.ifCond .ne 7, 3) := by decide +kernel
theorem dX12_share_24 : decode cX12_share 24 = .ok (.ldc2_w 375, 3) := by decide +kernel
theorem dX12_share_27 : decode cX12_share 27 = .ok (.lreturn, 1) := by decide +kernel
theorem dX12_share_28 : decode cX12_share 28 = .ok (.aload_n 0, 1) := by decide +kernel
theorem dX12_share_29 : decode cX12_share 29 = .ok (.iload_n 1, 1) := by decide +kernel
theorem dX12_share_30 : decode cX12_share 30 = .ok (.invokevirtual 395, 3) := by decide +kernel
theorem dX12_share_33 : decode cX12_share 33 = .ok (.iload_n 2, 1) := by decide +kernel
theorem dX12_share_34 : decode cX12_share 34 = .ok (.i2l, 1) := by decide +kernel
theorem dX12_share_35 : decode cX12_share 35 = .ok (.lconst 0, 1) := by decide +kernel
theorem dX12_share_36 : decode cX12_share 36 = .ok (.aload_n 0, 1) := by decide +kernel
theorem dX12_share_37 : decode cX12_share 37 = .ok (.getfield 382, 3) := by decide +kernel
theorem dX12_share_40 : decode cX12_share 40 = .ok (.iconst 1, 1) := by decide +kernel
theorem dX12_share_41 : decode cX12_share 41 = .ok (.isub, 1) := by decide +kernel
theorem dX12_share_42 : decode cX12_share 42 = .ok (.i2l, 1) := by decide +kernel
theorem dX12_share_43 : decode cX12_share 43 = .ok (.invokestatic 133, 3) := by decide +kernel
theorem dX12_share_46 : decode cX12_share 46 = .ok (.ifCond .ne 7, 3) := by decide +kernel
theorem dX12_share_49 : decode cX12_share 49 = .ok (.ldc2_w 398, 3) := by decide +kernel
theorem dX12_share_52 : decode cX12_share 52 = .ok (.lreturn, 1) := by decide +kernel
theorem dX12_share_53 : decode cX12_share 53 = .ok (.aload_n 0, 1) := by decide +kernel
theorem dX12_share_54 : decode cX12_share 54 = .ok (.getfield 392, 3) := by decide +kernel
theorem dX12_share_57 : decode cX12_share 57 = .ok (.lstore_n 3, 1) := by decide +kernel
theorem dX12_share_58 : decode cX12_share 58 = .ok (.iconst 0, 1) := by decide +kernel
theorem dX12_share_59 : decode cX12_share 59 = .ok (.istore 5, 2) := by decide +kernel
theorem dX12_share_61 : decode cX12_share 61 = .ok (.iload 5, 2) := by decide +kernel
theorem dX12_share_63 : decode cX12_share 63 = .ok (.aload_n 0, 1) := by decide +kernel
theorem dX12_share_64 : decode cX12_share 64 = .ok (.getfield 382, 3) := by decide +kernel
theorem dX12_share_67 : decode cX12_share 67 = .ok (.if_icmp .ge 18, 3) := by decide +kernel
theorem dX12_share_70 : decode cX12_share 70 = .ok (.lload_n 3, 1) := by decide +kernel
theorem dX12_share_71 : decode cX12_share 71 = .ok (.aload_n 0, 1) := by decide +kernel
theorem dX12_share_72 : decode cX12_share 72 = .ok (.iload 5, 2) := by decide +kernel
theorem dX12_share_74 : decode cX12_share 74 = .ok (.invokevirtual 400, 3) := by decide +kernel
theorem dX12_share_77 : decode cX12_share 77 = .ok (.lsub, 1) := by decide +kernel
theorem dX12_share_78 : decode cX12_share 78 = .ok (.lstore_n 3, 1) := by decide +kernel
theorem dX12_share_79 : decode cX12_share 79 = .ok (.iinc 5 1, 3) := by decide +kernel
theorem dX12_share_82 : decode cX12_share 82 = .ok (.goto (-21), 3) := by decide +kernel
theorem dX12_share_85 : decode cX12_share 85 = .ok (.aload_n 0, 1) := by decide +kernel
theorem dX12_share_86 : decode cX12_share 86 = .ok (.getfield 114, 3) := by decide +kernel
theorem dX12_share_89 : decode cX12_share 89 = .ok (.iload_n 2, 1) := by decide +kernel
theorem dX12_share_90 : decode cX12_share 90 = .ok (.laload, 1) := by decide +kernel
theorem dX12_share_91 : decode cX12_share 91 = .ok (.aload_n 0, 1) := by decide +kernel
theorem dX12_share_92 : decode cX12_share 92 = .ok (.iload_n 2, 1) := by decide +kernel
theorem dX12_share_93 : decode cX12_share 93 = .ok (.invokevirtual 400, 3) := by decide +kernel
theorem dX12_share_96 : decode cX12_share 96 = .ok (.ladd, 1) := by decide +kernel
theorem dX12_share_97 : decode cX12_share 97 = .ok (.iload_n 2, 1) := by decide +kernel
theorem dX12_share_98 : decode cX12_share 98 = .ok (.aload_n 0, 1) := by decide +kernel
theorem dX12_share_99 : decode cX12_share 99 = .ok (.getfield 382, 3) := by decide +kernel
theorem dX12_share_102 : decode cX12_share 102 = .ok (.iconst 1, 1) := by decide +kernel
theorem dX12_share_103 : decode cX12_share 103 = .ok (.isub, 1) := by decide +kernel
theorem dX12_share_104 : decode cX12_share 104 = .ok (.if_icmp .ne 7, 3) := by decide +kernel
theorem dX12_share_107 : decode cX12_share 107 = .ok (.lload_n 3, 1) := by decide +kernel
theorem dX12_share_108 : decode cX12_share 108 = .ok (.goto 4, 3) := by decide +kernel
theorem dX12_share_111 : decode cX12_share 111 = .ok (.lconst 0, 1) := by decide +kernel
theorem dX12_share_112 : decode cX12_share 112 = .ok (.ladd, 1) := by decide +kernel
theorem dX12_share_113 : decode cX12_share 113 = .ok (.lreturn, 1) := by decide +kernel
def vb_X12_share_61 (post : Int64 → mj_M → Prop) : Nat → Nat → Int32 → Int64 → Int32 → mj_M → Prop
  | 0 => fun _ _ _ _ _ => False
  | f + 1 => fun l0 l2 l3 l5 M => mj_tag M l0 = 13 ∧ if (mj_i M l0 45) ≤ l5 then (mj_tag M (mj_r M l0 44) = 102 ∧ vp_in l2 (mj_len M (mj_r M l0 44)) ∧ vc_X12_partOf l0 l2 M (fun r5 M6 => mj_tag M6 l0 = 13 ∧ if l2 = ((mj_i M6 l0 45) - 1) then (post (((mj_l M (mj_r M l0 44) (l2 : Int32).toNatClampNeg) + r5) + l3) M6) else (post (((mj_l M (mj_r M l0 44) (l2 : Int32).toNatClampNeg) + r5) + 0) M6))) else (vc_X12_partOf l0 l5 M (fun r9 M10 => vb_X12_share_61 post f l0 l2 (l3 - r9) (l5 + 1) M10))
def vc_X12_share (l0 : Nat) (l1 : Int32) (l2 : Int32) (M : mj_M) (post : Int64 → mj_M → Prop) : Prop := mj_tag M l0 = 13 ∧ vc_X12_isLease l0 l1 M (fun r12 M13 => if r12 = true then (mj_tag M13 l0 = 13 ∧ vc_X12_isOn l0 l1 (mj_i M13 l0 0) M13 (fun r16 M17 => if r16 = true then (mj_tag M17 l0 = 13 ∧ vc_X12_findPrice l0 l1 M17 (fun _ M20 => mj_tag M20 l0 = 13 ∧ vc_X12_in ((l2 : Int32).toInt64) 0 (((mj_i M20 l0 45) - 1 : Int32).toInt64) M20 (fun r22 M23 => if r22 = true then (mj_tag M23 l0 = 13 ∧ ∃ fe, vb_X12_share_61 post fe l0 l2 (mj_l M23 l0 48) 0 M23) else (post ((-1000000000000006)) M23)))) else (post ((-1000000000000003)) M17))) else (post ((-1000000000000001)) M13))
set_option maxHeartbeats 4000000 in
set_option maxRecDepth 100000 in
theorem xb_X12_share_61 {g : mj_G} {post : Int64 → mj_M → Prop} (hC : mj_C g yX12_share cX12_share 6 (some .long) rm_X12_share) (hE : mj_E g mj_jL post 0 0) : ∀ (f : Nat) (l0 : Nat) (l2 : Int32) (l3 : Int64) (l5 : Int32) (M : mj_M), vb_X12_share_61 post f l0 l2 l3 l5 M → mj_X g 61 [(0, vR l0), (2, vI l2), (3, vL l3), (5, vI l5)] [] M 0 0 := by
  intro f
  induction f with
  | zero => exact fun _ _ _ _ _ h => absurd h (fun z => z)
  | succ f ih =>
    intro l0 l2 l3 l5 M h
    simp only [vb_X12_share_61] at h
    refine mx_iload (j := 3) hC dX12_share_61 rfl ?_
    refine mx_aload_n (j := 0) hC dX12_share_63 rfl rfl ?_
    obtain ⟨ht1, h⟩ := h
    refine mx_get (v := vI (mj_i M l0 45)) hC tf_X12_382 ht1 rfl dX12_share_64 ?_
    refine mx_icmpge (tgt := 85) hC dX12_share_67 (by decide) (fun hc2 => ?_) (fun hc2 => ?_)
    · replace h := mj_yy hc2 h
      refine mx_aload_n (j := 0) hC dX12_share_85 rfl rfl ?_
      refine mx_get (v := vR (mj_r M l0 44)) hC tf_X12_114 ht1 rfl dX12_share_86 ?_
      refine mx_iload_n (j := 1) hC dX12_share_89 rfl rfl ?_
      obtain ⟨ht3, h⟩ := h
      obtain ⟨hi4, h⟩ := h
      refine mx_laload hC ht3 hi4 dX12_share_90 ?_
      refine mx_aload_n (j := 0) hC dX12_share_91 rfl rfl ?_
      refine mx_iload_n (j := 1) hC dX12_share_92 rfl rfl ?_
      refine mx_callV (inj := mj_jL) (As := [vI l2]) (st := [vL (mj_l M (mj_r M l0 44) (l2 : Int32).toNatClampNeg)]) hC (ct_X12_partOf l0 l2 M _ h) ty_X12_partOf tw1759 ht1 rfl (Nat.le_of_ble_eq_true rfl) ⟨rfl, rfl, ⟨by decide, by decide⟩, by decide, by decide⟩ dX12_share_93 (fun r5 M6 h => ?_)
      show mj_X g 96 [(0, vR l0), (2, vI l2), (3, vL l3), (5, vI l5)] [vL r5, vL (mj_l M (mj_r M l0 44) (l2 : Int32).toNatClampNeg)] M6 0 0
      refine mx_ladd hC dX12_share_96 ?_
      refine mx_iload_n (j := 1) hC dX12_share_97 rfl rfl ?_
      refine mx_aload_n (j := 0) hC dX12_share_98 rfl rfl ?_
      obtain ⟨ht7, h⟩ := h
      refine mx_get (v := vI (mj_i M6 l0 45)) hC tf_X12_382 ht7 rfl dX12_share_99 ?_
      refine mx_iconst (v := 1) hC dX12_share_102 (by decide) ?_
      refine mx_isub hC dX12_share_103 ?_
      refine mx_icmpne (tgt := 111) hC dX12_share_104 (by decide) (fun hc8 => ?_) (fun hc8 => ?_)
      · replace h := mj_nn hc8 h
        refine mx_lconst (v := 0) hC dX12_share_111 (by decide) ?_
        refine mx_ladd hC dX12_share_112 ?_
        exact mx_lret hC hE rfl dX12_share_113 h
      · replace h := mj_yy hc8 h
        refine mx_lload_n (j := 2) hC dX12_share_107 rfl rfl ?_
        refine mx_goto (tgt := 112) hC dX12_share_108 (by decide) ?_
        refine mx_ladd hC dX12_share_112 ?_
        exact mx_lret hC hE rfl dX12_share_113 h
    · replace h := mj_nn hc2 h
      refine mx_lload_n (j := 2) hC dX12_share_70 rfl rfl ?_
      refine mx_aload_n (j := 0) hC dX12_share_71 rfl rfl ?_
      refine mx_iload (j := 3) hC dX12_share_72 rfl ?_
      refine mx_callV (inj := mj_jL) (As := [vI l5]) (st := [vL l3]) hC (ct_X12_partOf l0 l5 M _ h) ty_X12_partOf tw1759 ht1 rfl (Nat.le_of_ble_eq_true rfl) ⟨rfl, rfl, ⟨by decide, by decide⟩, by decide, by decide⟩ dX12_share_74 (fun r9 M10 h => ?_)
      show mj_X g 77 [(0, vR l0), (2, vI l2), (3, vL l3), (5, vI l5)] [vL r9, vL l3] M10 0 0
      refine mx_lsub hC dX12_share_77 ?_
      refine mx_lstore_n (L' := [(3, vL (l3 - r9)), (0, vR l0), (2, vI l2), (5, vI l5)]) hC dX12_share_78 rfl (by decide) rfl ?_
      refine mx_iinc (j := 3) (v := l5 + 1) (L' := [(5, vI (l5 + 1)), (3, vL (l3 - r9)), (0, vR l0), (2, vI l2)]) hC dX12_share_79 rfl rfl (by decide) rfl ?_
      refine mx_goto (tgt := 61) hC dX12_share_82 (by decide) ?_
      refine mx_sub (L' := [(0, vR l0), (2, vI l2), (3, vL (l3 - r9)), (5, vI (l5 + 1))]) [2, 3, 1, 0] rfl ?_
      exact show mj_X g 61 [(0, vR l0), (2, vI l2), (3, vL (l3 - r9)), (5, vI (l5 + 1))] [] M10 0 0 from (ih l0 l2 (l3 - r9) (l5 + 1) M10 h)
set_option maxHeartbeats 4000000 in
set_option maxRecDepth 100000 in
theorem ct_X12_share {l : Launch} {base : Nat} {D : va_G} {A : ClassId × ClassId × ClassId} (l0 : Nat) (l1 : Int32) (l2 : Int32) (M : mj_M) (post : Int64 → mj_M → Prop) (h : vc_X12_share l0 l1 l2 M post) : mj_Met l base D A mj_jL yX12_share cX12_share 6 (some .long) rm_X12_share 0 0 [vR l0, vI l1, vI l2] M post := by
  refine mj_entry (by decide +kernel) (Nat.le_of_ble_eq_true rfl) (fun g hC hE h1 h2 h3 h4 => ?_)
  show mj_X g 0 [(0, vR l0), (1, vI l1), (2, vI l2)] [] M 0 0
  simp only [vc_X12_share] at h
  refine mx_aload_n (j := 0) hC dX12_share_0 rfl rfl ?_
  refine mx_iload_n (j := 1) hC dX12_share_1 rfl rfl ?_
  obtain ⟨ht11, h⟩ := h
  refine mx_callV (inj := mj_jB) (As := [vI l1]) (st := []) hC (ct_X12_isLease l0 l1 M _ h) ty_X12_isLease tw1448 ht11 rfl (Nat.le_of_ble_eq_true rfl) ⟨rfl, rfl, ⟨by decide, by decide⟩, by decide, by decide⟩ dX12_share_2 (fun r12 M13 h => ?_)
  show mj_X g 5 [(0, vR l0), (1, vI l1), (2, vI l2)] [vI (mj_b r12)] M13 0 0
  refine mx_ifneB (tgt := 12) hC dX12_share_5 (by decide) (fun hc14 => ?_) (fun hc14 => ?_)
  · replace h := mj_yy hc14 h
    refine mx_aload_n (j := 0) hC dX12_share_12 rfl rfl ?_
    refine mx_iload_n (j := 1) hC dX12_share_13 rfl rfl ?_
    refine mx_aload_n (j := 0) hC dX12_share_14 rfl rfl ?_
    obtain ⟨ht15, h⟩ := h
    refine mx_get (v := vI (mj_i M13 l0 0)) hC tf_X12_151 ht15 rfl dX12_share_15 ?_
    refine mx_callV (inj := mj_jB) (As := [vI l1, vI (mj_i M13 l0 0)]) (st := []) hC (ct_X12_isOn l0 l1 (mj_i M13 l0 0) M13 _ h) ty_X12_isOn tw1440 ht15 rfl (Nat.le_of_ble_eq_true rfl) ⟨rfl, rfl, ⟨by decide, by decide⟩, by decide, by decide⟩ dX12_share_18 (fun r16 M17 h => ?_)
    show mj_X g 21 [(0, vR l0), (1, vI l1), (2, vI l2)] [vI (mj_b r16)] M17 0 0
    refine mx_ifneB (tgt := 28) hC dX12_share_21 (by decide) (fun hc18 => ?_) (fun hc18 => ?_)
    · replace h := mj_yy hc18 h
      refine mx_aload_n (j := 0) hC dX12_share_28 rfl rfl ?_
      refine mx_iload_n (j := 1) hC dX12_share_29 rfl rfl ?_
      obtain ⟨ht19, h⟩ := h
      refine mx_callV (inj := mj_jV) (As := [vI l1]) (st := []) hC (ct_X12_findPrice l0 l1 M17 _ h) ty_X12_findPrice tw1748 ht19 rfl (Nat.le_of_ble_eq_true rfl) ⟨rfl, rfl, ⟨by decide, by decide⟩, by decide, by decide⟩ dX12_share_30 (fun _ M20 h => ?_)
      show mj_X g 33 [(0, vR l0), (1, vI l1), (2, vI l2)] [] M20 0 0
      refine mx_iload_n (j := 2) hC dX12_share_33 rfl rfl ?_
      refine mx_i2l hC dX12_share_34 ?_
      refine mx_lconst (v := 0) hC dX12_share_35 (by decide) ?_
      refine mx_aload_n (j := 0) hC dX12_share_36 rfl rfl ?_
      obtain ⟨ht21, h⟩ := h
      refine mx_get (v := vI (mj_i M20 l0 45)) hC tf_X12_382 ht21 rfl dX12_share_37 ?_
      refine mx_iconst (v := 1) hC dX12_share_40 (by decide) ?_
      refine mx_isub hC dX12_share_41 ?_
      refine mx_i2l hC dX12_share_42 ?_
      refine mx_callS (inj := mj_jB) (As := [vL ((l2 : Int32).toInt64), vL 0, vL (((mj_i M20 l0 45) - 1 : Int32).toInt64)]) (st := []) hC (ct_X12_in ((l2 : Int32).toInt64) 0 (((mj_i M20 l0 45) - 1 : Int32).toInt64) M20 _ h) ty_X12_in tw1379 rfl (Nat.le_of_ble_eq_true rfl) ⟨rfl, rfl, ⟨by decide, by decide⟩, by decide, by decide⟩ dX12_share_43 (fun r22 M23 h => ?_)
      show mj_X g 46 [(0, vR l0), (1, vI l1), (2, vI l2)] [vI (mj_b r22)] M23 0 0
      refine mx_ifneB (tgt := 53) hC dX12_share_46 (by decide) (fun hc24 => ?_) (fun hc24 => ?_)
      · replace h := mj_yy hc24 h
        refine mx_aload_n (j := 0) hC dX12_share_53 rfl rfl ?_
        obtain ⟨ht25, h⟩ := h
        refine mx_get (v := vL (mj_l M23 l0 48)) hC tf_X12_392 ht25 rfl dX12_share_54 ?_
        refine mx_lstore_n (L' := [(3, vL (mj_l M23 l0 48)), (0, vR l0), (1, vI l1), (2, vI l2)]) hC dX12_share_57 rfl (by decide) rfl ?_
        refine mx_iconst (v := 0) hC dX12_share_58 (by decide) ?_
        refine mx_istore (L' := [(5, vI 0), (3, vL (mj_l M23 l0 48)), (0, vR l0), (1, vI l1), (2, vI l2)]) hC dX12_share_59 (by decide) rfl ?_
        refine mx_sub (L' := [(0, vR l0), (2, vI l2), (3, vL (mj_l M23 l0 48)), (5, vI 0)]) [2, 4, 1, 0] rfl ?_
        obtain ⟨fe, h⟩ := h
        exact show mj_X g 61 [(0, vR l0), (2, vI l2), (3, vL (mj_l M23 l0 48)), (5, vI 0)] [] M23 0 0 from (xb_X12_share_61 hC hE fe l0 l2 (mj_l M23 l0 48) 0 M23 h)
      · replace h := mj_nn hc24 h
        refine mx_ldc2 (v := (-1000000000000006)) hC dX12_share_49 tw1758 ?_
        exact mx_lret hC hE rfl dX12_share_52 h
    · replace h := mj_nn hc18 h
      refine mx_ldc2 (v := (-1000000000000003)) hC dX12_share_24 tw1734 ?_
      exact mx_lret hC hE rfl dX12_share_27 h
  · replace h := mj_nn hc14 h
    refine mx_ldc2 (v := (-1000000000000001)) hC dX12_share_8 tw1513 ?_
    exact mx_lret hC hE rfl dX12_share_11 h
theorem tw1780 : (Jvm.Cond.methodLink "LeaseLandModel" (403 : Nat) ({ cls := "LeaseLandModel", name := "lastOn", desc := "(I)I" } : Jvm.MethodName)) ∈ mj_tbl := mj_w 1833 (by decide +kernel) (by decide +kernel)
theorem tw1783 : (Jvm.Cond.code ({ cls := "LeaseLandModel", name := "lastOn", desc := "(I)I" } : Jvm.MethodName) prog_14_method_34_code (4 : Nat) (Option.some Jvm.ClassFile.FieldType.int)) ∈ mj_tbl := mj_w 1836 (by decide +kernel) (by decide +kernel)
theorem tw1782 : (Jvm.Cond.instanceMethod ({ cls := "LeaseLandModel", name := "lastOn", desc := "(I)I" } : Jvm.MethodName)) ∈ mj_tbl := mj_w 1835 (by decide +kernel) (by decide +kernel)
theorem ty_X12_lastOn : mj_YV 12 yX12_lastOn cX12_lastOn 4 (some .int) 1 := ⟨⟨tw1783, tw11, by decide +kernel, by decide +kernel, by decide +kernel⟩, tw1782, mj_w 49 (by decide +kernel) (by decide +kernel), _, rfl, rfl⟩
def rm_X12_joinOf : Room := { frames := 6, cells := 0, slots := 0, locals := 145 }
theorem dX12_joinOf_0 : decode cX12_joinOf 0 = .ok (.iconst 0, 1) := by decide +kernel
theorem dX12_joinOf_1 : decode cX12_joinOf 1 = .ok (.istore 4, 2) := by decide +kernel
theorem dX12_joinOf_3 : decode cX12_joinOf 3 = .ok (.iconst 0, 1) := by decide +kernel
theorem dX12_joinOf_4 : decode cX12_joinOf 4 = .ok (.istore 5, 2) := by decide +kernel
theorem dX12_joinOf_6 : decode cX12_joinOf 6 = .ok (.iload 5, 2) := by decide +kernel
theorem dX12_joinOf_8 : decode cX12_joinOf 8 = .ok (.bipush 12, 2) := by decide +kernel
theorem dX12_joinOf_10 : decode cX12_joinOf 10 = .ok (.if_icmp .ge 106, 3) := by decide +kernel
theorem dX12_joinOf_13 : decode cX12_joinOf 13 = .ok (.aload_n 0, 1) := by decide +kernel
theorem dX12_joinOf_14 : decode cX12_joinOf 14 = .ok (.getfield 13, 3) := by decide +kernel
theorem dX12_joinOf_17 : decode cX12_joinOf 17 = .ok (.iload_n 1, 1) := by decide +kernel
theorem dX12_joinOf_18 : decode cX12_joinOf 18 = .ok (.iaload, 1) := by decide +kernel
theorem dX12_joinOf_19 : decode cX12_joinOf 19 = .ok (.iload 5, 2) := by decide +kernel
theorem dX12_joinOf_21 : decode cX12_joinOf 21 = .ok (.ishr, 1) := by decide +kernel
theorem dX12_joinOf_22 : decode cX12_joinOf 22 = .ok (.iconst 1, 1) := by decide +kernel
theorem dX12_joinOf_23 : decode cX12_joinOf 23 = .ok (.iand, 1) := by decide +kernel
theorem dX12_joinOf_24 : decode cX12_joinOf 24 = .ok (.iconst 1, 1) := by decide +kernel
theorem dX12_joinOf_25 : decode cX12_joinOf 25 = .ok (.if_icmp .ne 85, 3) := by decide +kernel
theorem dX12_joinOf_28 : decode cX12_joinOf 28 = .ok (.aload_n 0, 1) := by decide +kernel
theorem dX12_joinOf_29 : decode cX12_joinOf 29 = .ok (.iload 5, 2) := by decide +kernel
theorem dX12_joinOf_31 : decode cX12_joinOf 31 = .ok (.invokevirtual 403, 3) := by decide +kernel
theorem dX12_joinOf_34 : decode cX12_joinOf 34 = .ok (.istore 6, 2) := by decide +kernel
theorem dX12_joinOf_36 : decode cX12_joinOf 36 = .ok (.iload 6, 2) := by decide +kernel
theorem dX12_joinOf_38 : decode cX12_joinOf 38 = .ok (.ifCond .lt 32, 3) := by decide +kernel
theorem dX12_joinOf_41 : decode cX12_joinOf 41 = .ok (.aload_n 0, 1) := by decide +kernel
theorem dX12_joinOf_42 : decode cX12_joinOf 42 = .ok (.getfield 7, 3) := by decide +kernel
theorem dX12_joinOf_45 : decode cX12_joinOf 45 = .ok (.iload 6, 2) := by decide +kernel
theorem dX12_joinOf_47 : decode cX12_joinOf 47 = .ok (.iaload, 1) := by decide +kernel
theorem dX12_joinOf_48 : decode cX12_joinOf 48 = .ok (.ifCond .lt 22, 3) := by decide +kernel
theorem dX12_joinOf_51 : decode cX12_joinOf 51 = .ok (.aload_n 0, 1) := by decide +kernel
theorem dX12_joinOf_52 : decode cX12_joinOf 52 = .ok (.iload 6, 2) := by decide +kernel
theorem dX12_joinOf_54 : decode cX12_joinOf 54 = .ok (.iconst 3, 1) := by decide +kernel
theorem dX12_joinOf_55 : decode cX12_joinOf 55 = .ok (.aload_n 0, 1) := by decide +kernel
theorem dX12_joinOf_56 : decode cX12_joinOf 56 = .ok (.getfield 151, 3) := by decide +kernel
theorem dX12_joinOf_59 : decode cX12_joinOf 59 = .ok (.invokevirtual 287, 3) := by decide +kernel
theorem dX12_joinOf_62 : decode cX12_joinOf 62 = .ok (.iconst 1, 1) := by decide +kernel
theorem dX12_joinOf_63 : decode cX12_joinOf 63 = .ok (.if_icmp .ne 7, 3) := by decide +kernel
theorem dX12_joinOf_66 : decode cX12_joinOf 66 = .ok (.iconst 1, 1) := by decide +kernel
theorem dX12_joinOf_67 : decode cX12_joinOf 67 = .ok (.goto 4, 3) := by decide +kernel
theorem dX12_joinOf_70 : decode cX12_joinOf 70 = .ok (.iconst 0, 1) := by decide +kernel
theorem dX12_joinOf_71 : decode cX12_joinOf 71 = .ok (.istore 7, 2) := by decide +kernel
theorem dX12_joinOf_73 : decode cX12_joinOf 73 = .ok (.iload 4, 2) := by decide +kernel
theorem dX12_joinOf_75 : decode cX12_joinOf 75 = .ok (.iload 7, 2) := by decide +kernel
theorem dX12_joinOf_77 : decode cX12_joinOf 77 = .ok (.ifCond .eq 29, 3) := by decide +kernel
theorem dX12_joinOf_80 : decode cX12_joinOf 80 = .ok (.iload_n 3, 1) := by decide +kernel
theorem dX12_joinOf_81 : decode cX12_joinOf 81 = .ok (.ifCond .eq 18, 3) := by decide +kernel
theorem dX12_joinOf_84 : decode cX12_joinOf 84 = .ok (.iload_n 2, 1) := by decide +kernel
theorem dX12_joinOf_85 : decode cX12_joinOf 85 = .ok (.aload_n 0, 1) := by decide +kernel
theorem dX12_joinOf_86 : decode cX12_joinOf 86 = .ok (.getfield 28, 3) := by decide +kernel
theorem dX12_joinOf_89 : decode cX12_joinOf 89 = .ok (.iload 6, 2) := by decide +kernel
theorem dX12_joinOf_91 : decode cX12_joinOf 91 = .ok (.iaload, 1) := by decide +kernel
theorem dX12_joinOf_92 : decode cX12_joinOf 92 = .ok (.ishr, 1) := by decide +kernel
theorem dX12_joinOf_93 : decode cX12_joinOf 93 = .ok (.iconst 1, 1) := by decide +kernel
theorem dX12_joinOf_94 : decode cX12_joinOf 94 = .ok (.iand, 1) := by decide +kernel
theorem dX12_joinOf_95 : decode cX12_joinOf 95 = .ok (.iconst 1, 1) := by decide +kernel
theorem dX12_joinOf_96 : decode cX12_joinOf 96 = .ok (.if_icmp .ne 10, 3) := by decide +kernel
theorem dX12_joinOf_99 : decode cX12_joinOf 99 = .ok (.iconst 1, 1) := by decide +kernel
theorem dX12_joinOf_100 : decode cX12_joinOf 100 = .ok (.iload 5, 2) := by decide +kernel
theorem dX12_joinOf_102 : decode cX12_joinOf 102 = .ok (.ishl, 1) := by decide +kernel
theorem dX12_joinOf_103 : decode cX12_joinOf 103 = .ok (.goto 4, 3) := by decide +kernel
theorem dX12_joinOf_106 : decode cX12_joinOf 106 = .ok (.iconst 0, 1) := by decide +kernel
theorem dX12_joinOf_107 : decode cX12_joinOf 107 = .ok (.ior, 1) := by decide +kernel
theorem dX12_joinOf_108 : decode cX12_joinOf 108 = .ok (.istore 4, 2) := by decide +kernel
theorem dX12_joinOf_110 : decode cX12_joinOf 110 = .ok (.iinc 5 1, 3) := by decide +kernel
theorem dX12_joinOf_113 : decode cX12_joinOf 113 = .ok (.goto (-107), 3) := by decide +kernel
theorem dX12_joinOf_116 : decode cX12_joinOf 116 = .ok (.iload 4, 2) := by decide +kernel
theorem dX12_joinOf_118 : decode cX12_joinOf 118 = .ok (.ireturn, 1) := by decide +kernel
def vb_X12_joinOf_99 (k6 : Nat → Int32 → Int32 → Bool → Int32 → Int32 → mj_M → Prop) (post : Int32 → mj_M → Prop) (l0 : Nat) (l1 : Int32) (l2 : Int32) (l3 : Bool) (l5 : Int32) (s0 : Int32) (M : mj_M) : Prop := k6 l0 l1 l2 l3 (s0 ||| (1 <<< (l5 &&& 31))) (l5 + 1) M
def vb_X12_joinOf_71 (k6 : Nat → Int32 → Int32 → Bool → Int32 → Int32 → mj_M → Prop) (post : Int32 → mj_M → Prop) (l0 : Nat) (l1 : Int32) (l2 : Int32) (l3 : Bool) (l4 : Int32) (l5 : Int32) (l6 : Int32) (s0 : Bool) (M : mj_M) : Prop := if s0 = true then (if l3 = true then (mj_tag M l0 = 13 ∧ mj_tag M (mj_r M l0 7) = 101 ∧ vp_in l6 (mj_len M (mj_r M l0 7)) ∧ if ((l2 >>> ((mj_i M (mj_r M l0 7) (l6 : Int32).toNatClampNeg) &&& 31)) &&& 1) = 1 then (vb_X12_joinOf_99 k6 post l0 l1 l2 l3 l5 l4 M) else (k6 l0 l1 l2 l3 (l4 ||| 0) (l5 + 1) M)) else (vb_X12_joinOf_99 k6 post l0 l1 l2 l3 l5 l4 M)) else (k6 l0 l1 l2 l3 (l4 ||| 0) (l5 + 1) M)
def vb_X12_joinOf_70 (k6 : Nat → Int32 → Int32 → Bool → Int32 → Int32 → mj_M → Prop) (post : Int32 → mj_M → Prop) (l0 : Nat) (l1 : Int32) (l2 : Int32) (l3 : Bool) (l4 : Int32) (l5 : Int32) (l6 : Int32) (M : mj_M) : Prop := vb_X12_joinOf_71 k6 post l0 l1 l2 l3 l4 l5 l6 false M
def vb_X12_joinOf_6 (post : Int32 → mj_M → Prop) : Nat → Nat → Int32 → Int32 → Bool → Int32 → Int32 → mj_M → Prop
  | 0 => fun _ _ _ _ _ _ _ => False
  | f + 1 => fun l0 l1 l2 l3 l4 l5 M => if 12 ≤ l5 then (post l4 M) else (mj_tag M l0 = 13 ∧ mj_tag M (mj_r M l0 2) = 101 ∧ vp_in l1 (mj_len M (mj_r M l0 2)) ∧ if (((mj_i M (mj_r M l0 2) (l1 : Int32).toNatClampNeg) >>> (l5 &&& 31)) &&& 1) = 1 then (vc_X12_lastOn l0 l5 M (fun r12 M13 => if r12 < 0 then (vb_X12_joinOf_70 (vb_X12_joinOf_6 post f) post l0 l1 l2 l3 l4 l5 r12 M13) else (mj_tag M13 l0 = 13 ∧ mj_tag M13 (mj_r M13 l0 1) = 101 ∧ vp_in r12 (mj_len M13 (mj_r M13 l0 1)) ∧ if (mj_i M13 (mj_r M13 l0 1) (r12 : Int32).toNatClampNeg) < 0 then (vb_X12_joinOf_70 (vb_X12_joinOf_6 post f) post l0 l1 l2 l3 l4 l5 r12 M13) else (vc_X12_rightOn l0 r12 3 (mj_i M13 l0 0) M13 (fun r19 M20 => if r19 = 1 then (vb_X12_joinOf_71 (vb_X12_joinOf_6 post f) post l0 l1 l2 l3 l4 l5 r12 true M20) else (vb_X12_joinOf_70 (vb_X12_joinOf_6 post f) post l0 l1 l2 l3 l4 l5 r12 M20)))))) else (vb_X12_joinOf_6 post f l0 l1 l2 l3 l4 (l5 + 1) M))
def vc_X12_joinOf (l0 : Nat) (l1 : Int32) (l2 : Int32) (l3 : Bool) (M : mj_M) (post : Int32 → mj_M → Prop) : Prop := ∃ fe, vb_X12_joinOf_6 post fe l0 l1 l2 l3 0 0 M
set_option maxHeartbeats 4000000 in
set_option maxRecDepth 100000 in
theorem xb_X12_joinOf_99 {g : mj_G} {post : Int32 → mj_M → Prop} (hC : mj_C g yX12_joinOf cX12_joinOf 8 (some .int) rm_X12_joinOf) (hE : mj_E g mj_jI post 0 0) {k6 : Nat → Int32 → Int32 → Bool → Int32 → Int32 → mj_M → Prop} (hk6 : ∀ (l0 : Nat) (l1 : Int32) (l2 : Int32) (l3 : Bool) (l4 : Int32) (l5 : Int32) (M : mj_M), k6 l0 l1 l2 l3 l4 l5 M → mj_X g 6 [(0, vR l0), (1, vI l1), (2, vI l2), (3, vI (mj_b l3)), (4, vI l4), (5, vI l5)] [] M 0 0) (l0 : Nat) (l1 : Int32) (l2 : Int32) (l3 : Bool) (l5 : Int32) (s0 : Int32) (M : mj_M) (h : vb_X12_joinOf_99 k6 post l0 l1 l2 l3 l5 s0 M) : mj_X g 99 [(0, vR l0), (1, vI l1), (2, vI l2), (3, vI (mj_b l3)), (5, vI l5)] [vI s0] M 0 0 := by
  simp only [vb_X12_joinOf_99] at h
  refine mx_iconst (v := 1) hC dX12_joinOf_99 (by decide) ?_
  refine mx_iload (j := 4) hC dX12_joinOf_100 rfl ?_
  refine mx_ishl hC dX12_joinOf_102 ?_
  refine mx_goto (tgt := 107) hC dX12_joinOf_103 (by decide) ?_
  refine mx_ior hC dX12_joinOf_107 ?_
  refine mx_istore (L' := [(4, vI (s0 ||| (1 <<< (l5 &&& 31)))), (0, vR l0), (1, vI l1), (2, vI l2), (3, vI (mj_b l3)), (5, vI l5)]) hC dX12_joinOf_108 (by decide) rfl ?_
  refine mx_iinc (j := 5) (v := l5 + 1) (L' := [(5, vI (l5 + 1)), (4, vI (s0 ||| (1 <<< (l5 &&& 31)))), (0, vR l0), (1, vI l1), (2, vI l2), (3, vI (mj_b l3))]) hC dX12_joinOf_110 rfl rfl (by decide) rfl ?_
  refine mx_goto (tgt := 6) hC dX12_joinOf_113 (by decide) ?_
  refine mx_sub (L' := [(0, vR l0), (1, vI l1), (2, vI l2), (3, vI (mj_b l3)), (4, vI (s0 ||| (1 <<< (l5 &&& 31)))), (5, vI (l5 + 1))]) [2, 3, 4, 5, 1, 0] rfl ?_
  exact show mj_X g 6 [(0, vR l0), (1, vI l1), (2, vI l2), (3, vI (mj_b l3)), (4, vI (s0 ||| (1 <<< (l5 &&& 31)))), (5, vI (l5 + 1))] [] M 0 0 from (hk6 l0 l1 l2 l3 (s0 ||| (1 <<< (l5 &&& 31))) (l5 + 1) M h)
set_option maxHeartbeats 4000000 in
set_option maxRecDepth 100000 in
theorem xb_X12_joinOf_71 {g : mj_G} {post : Int32 → mj_M → Prop} (hC : mj_C g yX12_joinOf cX12_joinOf 8 (some .int) rm_X12_joinOf) (hE : mj_E g mj_jI post 0 0) {k6 : Nat → Int32 → Int32 → Bool → Int32 → Int32 → mj_M → Prop} (hk6 : ∀ (l0 : Nat) (l1 : Int32) (l2 : Int32) (l3 : Bool) (l4 : Int32) (l5 : Int32) (M : mj_M), k6 l0 l1 l2 l3 l4 l5 M → mj_X g 6 [(0, vR l0), (1, vI l1), (2, vI l2), (3, vI (mj_b l3)), (4, vI l4), (5, vI l5)] [] M 0 0) (l0 : Nat) (l1 : Int32) (l2 : Int32) (l3 : Bool) (l4 : Int32) (l5 : Int32) (l6 : Int32) (s0 : Bool) (M : mj_M) (h : vb_X12_joinOf_71 k6 post l0 l1 l2 l3 l4 l5 l6 s0 M) : mj_X g 71 [(0, vR l0), (1, vI l1), (2, vI l2), (3, vI (mj_b l3)), (4, vI l4), (5, vI l5), (6, vI l6)] [vI (mj_b s0)] M 0 0 := by
  simp only [vb_X12_joinOf_71] at h
  refine mx_istore (L' := [(7, vI (mj_b s0)), (0, vR l0), (1, vI l1), (2, vI l2), (3, vI (mj_b l3)), (4, vI l4), (5, vI l5), (6, vI l6)]) hC dX12_joinOf_71 (by decide) rfl ?_
  refine mx_iload (j := 5) hC dX12_joinOf_73 rfl ?_
  refine mx_iload (j := 0) hC dX12_joinOf_75 rfl ?_
  refine mx_ifeqB (tgt := 106) hC dX12_joinOf_77 (by decide) (fun hc1 => ?_) (fun hc1 => ?_)
  · replace h := mj_nn hc1 h
    refine mx_iconst (v := 0) hC dX12_joinOf_106 (by decide) ?_
    refine mx_ior hC dX12_joinOf_107 ?_
    refine mx_istore (L' := [(4, vI (l4 ||| 0)), (7, vI (mj_b s0)), (0, vR l0), (1, vI l1), (2, vI l2), (3, vI (mj_b l3)), (5, vI l5), (6, vI l6)]) hC dX12_joinOf_108 (by decide) rfl ?_
    refine mx_iinc (j := 6) (v := l5 + 1) (L' := [(5, vI (l5 + 1)), (4, vI (l4 ||| 0)), (7, vI (mj_b s0)), (0, vR l0), (1, vI l1), (2, vI l2), (3, vI (mj_b l3)), (6, vI l6)]) hC dX12_joinOf_110 rfl rfl (by decide) rfl ?_
    refine mx_goto (tgt := 6) hC dX12_joinOf_113 (by decide) ?_
    refine mx_sub (L' := [(0, vR l0), (1, vI l1), (2, vI l2), (3, vI (mj_b l3)), (4, vI (l4 ||| 0)), (5, vI (l5 + 1))]) [3, 4, 5, 6, 1, 0] rfl ?_
    exact show mj_X g 6 [(0, vR l0), (1, vI l1), (2, vI l2), (3, vI (mj_b l3)), (4, vI (l4 ||| 0)), (5, vI (l5 + 1))] [] M 0 0 from (hk6 l0 l1 l2 l3 (l4 ||| 0) (l5 + 1) M h)
  · replace h := mj_yy hc1 h
    refine mx_iload_n (j := 4) hC dX12_joinOf_80 rfl rfl ?_
    refine mx_ifeqB (tgt := 99) hC dX12_joinOf_81 (by decide) (fun hc2 => ?_) (fun hc2 => ?_)
    · replace h := mj_nn hc2 h
      refine mx_sub (L' := [(0, vR l0), (1, vI l1), (2, vI l2), (3, vI (mj_b l3)), (5, vI l5)]) [1, 2, 3, 4, 6] rfl ?_
      exact show mj_X g 99 [(0, vR l0), (1, vI l1), (2, vI l2), (3, vI (mj_b l3)), (5, vI l5)] [vI l4] M 0 0 from (xb_X12_joinOf_99 hC hE hk6 l0 l1 l2 l3 l5 l4 M h)
    · replace h := mj_yy hc2 h
      refine mx_iload_n (j := 3) hC dX12_joinOf_84 rfl rfl ?_
      refine mx_aload_n (j := 1) hC dX12_joinOf_85 rfl rfl ?_
      obtain ⟨ht3, h⟩ := h
      refine mx_get (v := vR (mj_r M l0 7)) hC tf_X12_28 ht3 rfl dX12_joinOf_86 ?_
      refine mx_iload (j := 7) hC dX12_joinOf_89 rfl ?_
      obtain ⟨ht4, h⟩ := h
      obtain ⟨hi5, h⟩ := h
      refine mx_iaload hC ht4 hi5 dX12_joinOf_91 ?_
      refine mx_ishr hC dX12_joinOf_92 ?_
      refine mx_iconst (v := 1) hC dX12_joinOf_93 (by decide) ?_
      refine mx_iand hC dX12_joinOf_94 ?_
      refine mx_iconst (v := 1) hC dX12_joinOf_95 (by decide) ?_
      refine mx_icmpne (tgt := 106) hC dX12_joinOf_96 (by decide) (fun hc6 => ?_) (fun hc6 => ?_)
      · replace h := mj_nn hc6 h
        refine mx_iconst (v := 0) hC dX12_joinOf_106 (by decide) ?_
        refine mx_ior hC dX12_joinOf_107 ?_
        refine mx_istore (L' := [(4, vI (l4 ||| 0)), (7, vI (mj_b s0)), (0, vR l0), (1, vI l1), (2, vI l2), (3, vI (mj_b l3)), (5, vI l5), (6, vI l6)]) hC dX12_joinOf_108 (by decide) rfl ?_
        refine mx_iinc (j := 6) (v := l5 + 1) (L' := [(5, vI (l5 + 1)), (4, vI (l4 ||| 0)), (7, vI (mj_b s0)), (0, vR l0), (1, vI l1), (2, vI l2), (3, vI (mj_b l3)), (6, vI l6)]) hC dX12_joinOf_110 rfl rfl (by decide) rfl ?_
        refine mx_goto (tgt := 6) hC dX12_joinOf_113 (by decide) ?_
        refine mx_sub (L' := [(0, vR l0), (1, vI l1), (2, vI l2), (3, vI (mj_b l3)), (4, vI (l4 ||| 0)), (5, vI (l5 + 1))]) [3, 4, 5, 6, 1, 0] rfl ?_
        exact show mj_X g 6 [(0, vR l0), (1, vI l1), (2, vI l2), (3, vI (mj_b l3)), (4, vI (l4 ||| 0)), (5, vI (l5 + 1))] [] M 0 0 from (hk6 l0 l1 l2 l3 (l4 ||| 0) (l5 + 1) M h)
      · replace h := mj_yy hc6 h
        refine mx_sub (L' := [(0, vR l0), (1, vI l1), (2, vI l2), (3, vI (mj_b l3)), (5, vI l5)]) [1, 2, 3, 4, 6] rfl ?_
        exact show mj_X g 99 [(0, vR l0), (1, vI l1), (2, vI l2), (3, vI (mj_b l3)), (5, vI l5)] [vI l4] M 0 0 from (xb_X12_joinOf_99 hC hE hk6 l0 l1 l2 l3 l5 l4 M h)
set_option maxHeartbeats 4000000 in
set_option maxRecDepth 100000 in
theorem xb_X12_joinOf_70 {g : mj_G} {post : Int32 → mj_M → Prop} (hC : mj_C g yX12_joinOf cX12_joinOf 8 (some .int) rm_X12_joinOf) (hE : mj_E g mj_jI post 0 0) {k6 : Nat → Int32 → Int32 → Bool → Int32 → Int32 → mj_M → Prop} (hk6 : ∀ (l0 : Nat) (l1 : Int32) (l2 : Int32) (l3 : Bool) (l4 : Int32) (l5 : Int32) (M : mj_M), k6 l0 l1 l2 l3 l4 l5 M → mj_X g 6 [(0, vR l0), (1, vI l1), (2, vI l2), (3, vI (mj_b l3)), (4, vI l4), (5, vI l5)] [] M 0 0) (l0 : Nat) (l1 : Int32) (l2 : Int32) (l3 : Bool) (l4 : Int32) (l5 : Int32) (l6 : Int32) (M : mj_M) (h : vb_X12_joinOf_70 k6 post l0 l1 l2 l3 l4 l5 l6 M) : mj_X g 70 [(0, vR l0), (1, vI l1), (2, vI l2), (3, vI (mj_b l3)), (4, vI l4), (5, vI l5), (6, vI l6)] [] M 0 0 := by
  simp only [vb_X12_joinOf_70] at h
  refine mx_iconst (v := 0) hC dX12_joinOf_70 (by decide) ?_
  refine mx_sub (L' := [(0, vR l0), (1, vI l1), (2, vI l2), (3, vI (mj_b l3)), (4, vI l4), (5, vI l5), (6, vI l6)]) [0, 1, 2, 3, 4, 5, 6] rfl ?_
  exact show mj_X g 71 [(0, vR l0), (1, vI l1), (2, vI l2), (3, vI (mj_b l3)), (4, vI l4), (5, vI l5), (6, vI l6)] [vI (mj_b false)] M 0 0 from (xb_X12_joinOf_71 hC hE hk6 l0 l1 l2 l3 l4 l5 l6 false M h)
set_option maxHeartbeats 4000000 in
set_option maxRecDepth 100000 in
theorem xb_X12_joinOf_6 {g : mj_G} {post : Int32 → mj_M → Prop} (hC : mj_C g yX12_joinOf cX12_joinOf 8 (some .int) rm_X12_joinOf) (hE : mj_E g mj_jI post 0 0) : ∀ (f : Nat) (l0 : Nat) (l1 : Int32) (l2 : Int32) (l3 : Bool) (l4 : Int32) (l5 : Int32) (M : mj_M), vb_X12_joinOf_6 post f l0 l1 l2 l3 l4 l5 M → mj_X g 6 [(0, vR l0), (1, vI l1), (2, vI l2), (3, vI (mj_b l3)), (4, vI l4), (5, vI l5)] [] M 0 0 := by
  intro f
  induction f with
  | zero => exact fun _ _ _ _ _ _ _ h => absurd h (fun z => z)
  | succ f ih =>
    intro l0 l1 l2 l3 l4 l5 M h
    simp only [vb_X12_joinOf_6] at h
    refine mx_iload (j := 5) hC dX12_joinOf_6 rfl ?_
    refine mx_bipush (v := 12) hC dX12_joinOf_8 (by decide) ?_
    refine mx_icmpge (tgt := 116) hC dX12_joinOf_10 (by decide) (fun hc7 => ?_) (fun hc7 => ?_)
    · replace h := mj_yy hc7 h
      refine mx_iload (j := 4) hC dX12_joinOf_116 rfl ?_
      exact mx_iret hC hE rfl dX12_joinOf_118 h
    · replace h := mj_nn hc7 h
      refine mx_aload_n (j := 0) hC dX12_joinOf_13 rfl rfl ?_
      obtain ⟨ht8, h⟩ := h
      refine mx_get (v := vR (mj_r M l0 2)) hC tf_X12_13 ht8 rfl dX12_joinOf_14 ?_
      refine mx_iload_n (j := 1) hC dX12_joinOf_17 rfl rfl ?_
      obtain ⟨ht9, h⟩ := h
      obtain ⟨hi10, h⟩ := h
      refine mx_iaload hC ht9 hi10 dX12_joinOf_18 ?_
      refine mx_iload (j := 5) hC dX12_joinOf_19 rfl ?_
      refine mx_ishr hC dX12_joinOf_21 ?_
      refine mx_iconst (v := 1) hC dX12_joinOf_22 (by decide) ?_
      refine mx_iand hC dX12_joinOf_23 ?_
      refine mx_iconst (v := 1) hC dX12_joinOf_24 (by decide) ?_
      refine mx_icmpne (tgt := 110) hC dX12_joinOf_25 (by decide) (fun hc11 => ?_) (fun hc11 => ?_)
      · replace h := mj_nn hc11 h
        refine mx_iinc (j := 5) (v := l5 + 1) (L' := [(5, vI (l5 + 1)), (0, vR l0), (1, vI l1), (2, vI l2), (3, vI (mj_b l3)), (4, vI l4)]) hC dX12_joinOf_110 rfl rfl (by decide) rfl ?_
        refine mx_goto (tgt := 6) hC dX12_joinOf_113 (by decide) ?_
        refine mx_sub (L' := [(0, vR l0), (1, vI l1), (2, vI l2), (3, vI (mj_b l3)), (4, vI l4), (5, vI (l5 + 1))]) [1, 2, 3, 4, 5, 0] rfl ?_
        exact show mj_X g 6 [(0, vR l0), (1, vI l1), (2, vI l2), (3, vI (mj_b l3)), (4, vI l4), (5, vI (l5 + 1))] [] M 0 0 from (ih l0 l1 l2 l3 l4 (l5 + 1) M h)
      · replace h := mj_yy hc11 h
        refine mx_aload_n (j := 0) hC dX12_joinOf_28 rfl rfl ?_
        refine mx_iload (j := 5) hC dX12_joinOf_29 rfl ?_
        refine mx_callV (inj := mj_jI) (As := [vI l5]) (st := []) hC (ct_X12_lastOn l0 l5 M _ h) ty_X12_lastOn tw1780 ht8 rfl (Nat.le_of_ble_eq_true rfl) ⟨rfl, rfl, ⟨by decide, by decide⟩, by decide, by decide⟩ dX12_joinOf_31 (fun r12 M13 h => ?_)
        show mj_X g 34 [(0, vR l0), (1, vI l1), (2, vI l2), (3, vI (mj_b l3)), (4, vI l4), (5, vI l5)] [vI r12] M13 0 0
        refine mx_istore (L' := [(6, vI r12), (0, vR l0), (1, vI l1), (2, vI l2), (3, vI (mj_b l3)), (4, vI l4), (5, vI l5)]) hC dX12_joinOf_34 (by decide) rfl ?_
        refine mx_iload (j := 0) hC dX12_joinOf_36 rfl ?_
        refine mx_iflt (tgt := 70) hC dX12_joinOf_38 (by decide) (fun hc14 => ?_) (fun hc14 => ?_)
        · replace h := mj_yy hc14 h
          refine mx_sub (L' := [(0, vR l0), (1, vI l1), (2, vI l2), (3, vI (mj_b l3)), (4, vI l4), (5, vI l5), (6, vI r12)]) [1, 2, 3, 4, 5, 6, 0] rfl ?_
          exact show mj_X g 70 [(0, vR l0), (1, vI l1), (2, vI l2), (3, vI (mj_b l3)), (4, vI l4), (5, vI l5), (6, vI r12)] [] M13 0 0 from (xb_X12_joinOf_70 hC hE ih l0 l1 l2 l3 l4 l5 r12 M13 h)
        · replace h := mj_nn hc14 h
          refine mx_aload_n (j := 1) hC dX12_joinOf_41 rfl rfl ?_
          obtain ⟨ht15, h⟩ := h
          refine mx_get (v := vR (mj_r M13 l0 1)) hC tf_X12_7 ht15 rfl dX12_joinOf_42 ?_
          refine mx_iload (j := 0) hC dX12_joinOf_45 rfl ?_
          obtain ⟨ht16, h⟩ := h
          obtain ⟨hi17, h⟩ := h
          refine mx_iaload hC ht16 hi17 dX12_joinOf_47 ?_
          refine mx_iflt (tgt := 70) hC dX12_joinOf_48 (by decide) (fun hc18 => ?_) (fun hc18 => ?_)
          · replace h := mj_yy hc18 h
            refine mx_sub (L' := [(0, vR l0), (1, vI l1), (2, vI l2), (3, vI (mj_b l3)), (4, vI l4), (5, vI l5), (6, vI r12)]) [1, 2, 3, 4, 5, 6, 0] rfl ?_
            exact show mj_X g 70 [(0, vR l0), (1, vI l1), (2, vI l2), (3, vI (mj_b l3)), (4, vI l4), (5, vI l5), (6, vI r12)] [] M13 0 0 from (xb_X12_joinOf_70 hC hE ih l0 l1 l2 l3 l4 l5 r12 M13 h)
          · replace h := mj_nn hc18 h
            refine mx_aload_n (j := 1) hC dX12_joinOf_51 rfl rfl ?_
            refine mx_iload (j := 0) hC dX12_joinOf_52 rfl ?_
            refine mx_iconst (v := 3) hC dX12_joinOf_54 (by decide) ?_
            refine mx_aload_n (j := 1) hC dX12_joinOf_55 rfl rfl ?_
            refine mx_get (v := vI (mj_i M13 l0 0)) hC tf_X12_151 ht15 rfl dX12_joinOf_56 ?_
            refine mx_callV (inj := mj_jI) (As := [vI r12, vI 3, vI (mj_i M13 l0 0)]) (st := []) hC (ct_X12_rightOn l0 r12 3 (mj_i M13 l0 0) M13 _ h) ty_X12_rightOn tw1561 ht15 rfl (Nat.le_of_ble_eq_true rfl) ⟨rfl, rfl, ⟨by decide, by decide⟩, by decide, by decide⟩ dX12_joinOf_59 (fun r19 M20 h => ?_)
            show mj_X g 62 [(6, vI r12), (0, vR l0), (1, vI l1), (2, vI l2), (3, vI (mj_b l3)), (4, vI l4), (5, vI l5)] [vI r19] M20 0 0
            refine mx_iconst (v := 1) hC dX12_joinOf_62 (by decide) ?_
            refine mx_icmpne (tgt := 70) hC dX12_joinOf_63 (by decide) (fun hc21 => ?_) (fun hc21 => ?_)
            · replace h := mj_nn hc21 h
              refine mx_sub (L' := [(0, vR l0), (1, vI l1), (2, vI l2), (3, vI (mj_b l3)), (4, vI l4), (5, vI l5), (6, vI r12)]) [1, 2, 3, 4, 5, 6, 0] rfl ?_
              exact show mj_X g 70 [(0, vR l0), (1, vI l1), (2, vI l2), (3, vI (mj_b l3)), (4, vI l4), (5, vI l5), (6, vI r12)] [] M20 0 0 from (xb_X12_joinOf_70 hC hE ih l0 l1 l2 l3 l4 l5 r12 M20 h)
            · replace h := mj_yy hc21 h
              refine mx_iconst (v := 1) hC dX12_joinOf_66 (by decide) ?_
              refine mx_goto (tgt := 71) hC dX12_joinOf_67 (by decide) ?_
              refine mx_sub (L' := [(0, vR l0), (1, vI l1), (2, vI l2), (3, vI (mj_b l3)), (4, vI l4), (5, vI l5), (6, vI r12)]) [1, 2, 3, 4, 5, 6, 0] rfl ?_
              exact show mj_X g 71 [(0, vR l0), (1, vI l1), (2, vI l2), (3, vI (mj_b l3)), (4, vI l4), (5, vI l5), (6, vI r12)] [vI (mj_b true)] M20 0 0 from (xb_X12_joinOf_71 hC hE ih l0 l1 l2 l3 l4 l5 r12 true M20 h)
set_option maxHeartbeats 4000000 in
set_option maxRecDepth 100000 in
theorem ct_X12_joinOf {l : Launch} {base : Nat} {D : va_G} {A : ClassId × ClassId × ClassId} (l0 : Nat) (l1 : Int32) (l2 : Int32) (l3 : Bool) (M : mj_M) (post : Int32 → mj_M → Prop) (h : vc_X12_joinOf l0 l1 l2 l3 M post) : mj_Met l base D A mj_jI yX12_joinOf cX12_joinOf 8 (some .int) rm_X12_joinOf 0 0 [vR l0, vI l1, vI l2, vI (mj_b l3)] M post := by
  refine mj_entry (by decide +kernel) (Nat.le_of_ble_eq_true rfl) (fun g hC hE h1 h2 h3 h4 => ?_)
  show mj_X g 0 [(0, vR l0), (1, vI l1), (2, vI l2), (3, vI (mj_b l3))] [] M 0 0
  simp only [vc_X12_joinOf] at h
  refine mx_iconst (v := 0) hC dX12_joinOf_0 (by decide) ?_
  refine mx_istore (L' := [(4, vI 0), (0, vR l0), (1, vI l1), (2, vI l2), (3, vI (mj_b l3))]) hC dX12_joinOf_1 (by decide) rfl ?_
  refine mx_iconst (v := 0) hC dX12_joinOf_3 (by decide) ?_
  refine mx_istore (L' := [(5, vI 0), (4, vI 0), (0, vR l0), (1, vI l1), (2, vI l2), (3, vI (mj_b l3))]) hC dX12_joinOf_4 (by decide) rfl ?_
  refine mx_sub (L' := [(0, vR l0), (1, vI l1), (2, vI l2), (3, vI (mj_b l3)), (4, vI 0), (5, vI 0)]) [2, 3, 4, 5, 1, 0] rfl ?_
  obtain ⟨fe, h⟩ := h
  exact show mj_X g 6 [(0, vR l0), (1, vI l1), (2, vI l2), (3, vI (mj_b l3)), (4, vI 0), (5, vI 0)] [] M 0 0 from (xb_X12_joinOf_6 hC hE fe l0 l1 l2 l3 0 0 M h)
theorem tw1776 : (Jvm.Cond.methodLink "LeaseLandModel" (406 : Nat) ({ cls := "LeaseLandModel", name := "joinOf", desc := "(IIZ)I" } : Jvm.MethodName)) ∈ mj_tbl := mj_w 1829 (by decide +kernel) (by decide +kernel)
theorem tw1779 : (Jvm.Cond.code ({ cls := "LeaseLandModel", name := "joinOf", desc := "(IIZ)I" } : Jvm.MethodName) prog_14_method_99_code (8 : Nat) (Option.some Jvm.ClassFile.FieldType.int)) ∈ mj_tbl := mj_w 1832 (by decide +kernel) (by decide +kernel)
theorem tw1778 : (Jvm.Cond.instanceMethod ({ cls := "LeaseLandModel", name := "joinOf", desc := "(IIZ)I" } : Jvm.MethodName)) ∈ mj_tbl := mj_w 1831 (by decide +kernel) (by decide +kernel)
theorem ty_X12_joinOf : mj_YV 12 yX12_joinOf cX12_joinOf 8 (some .int) 3 := ⟨⟨tw1779, tw11, by decide +kernel, by decide +kernel, by decide +kernel⟩, tw1778, mj_w 48 (by decide +kernel) (by decide +kernel), _, rfl, rfl⟩
def rm_X12_mayBuy : Room := { frames := 7, cells := 0, slots := 0, locals := 172 }
theorem dX12_mayBuy_0 : decode cX12_mayBuy 0 = .ok (.aload_n 0, 1) := by decide +kernel
theorem dX12_mayBuy_1 : decode cX12_mayBuy 1 = .ok (.getfield 13, 3) := by decide +kernel
theorem dX12_mayBuy_4 : decode cX12_mayBuy 4 = .ok (.iload_n 1, 1) := by decide +kernel
theorem dX12_mayBuy_5 : decode cX12_mayBuy 5 = .ok (.iaload, 1) := by decide +kernel
theorem dX12_mayBuy_6 : decode cX12_mayBuy 6 = .ok (.invokestatic 261, 3) := by decide +kernel
theorem dX12_mayBuy_9 : decode cX12_mayBuy 9 = .ok (.istore_n 3, 1) := by decide +kernel
theorem dX12_mayBuy_10 : decode cX12_mayBuy 10 = .ok (.iconst 3, 1) := by decide +kernel
theorem dX12_mayBuy_11 : decode cX12_mayBuy 11 = .ok (.aload_n 0, 1) := by decide +kernel
theorem dX12_mayBuy_12 : decode cX12_mayBuy 12 = .ok (.iload_n 1, 1) := by decide +kernel
theorem dX12_mayBuy_13 : decode cX12_mayBuy 13 = .ok (.iconst 0, 1) := by decide +kernel
theorem dX12_mayBuy_14 : decode cX12_mayBuy 14 = .ok (.iconst 0, 1) := by decide +kernel
theorem dX12_mayBuy_15 : decode cX12_mayBuy 15 = .ok (.invokevirtual 406, 3) := by decide +kernel
theorem dX12_mayBuy_18 : decode cX12_mayBuy 18 = .ok (.invokestatic 261, 3) := by decide +kernel
theorem dX12_mayBuy_21 : decode cX12_mayBuy 21 = .ok (.imul, 1) := by decide +kernel
theorem dX12_mayBuy_22 : decode cX12_mayBuy 22 = .ok (.iconst 2, 1) := by decide +kernel
theorem dX12_mayBuy_23 : decode cX12_mayBuy 23 = .ok (.iload_n 3, 1) := by decide +kernel
theorem dX12_mayBuy_24 : decode cX12_mayBuy 24 = .ok (.imul, 1) := by decide +kernel
theorem dX12_mayBuy_25 : decode cX12_mayBuy 25 = .ok (.if_icmp .lt 23, 3) := by decide +kernel
theorem dX12_mayBuy_28 : decode cX12_mayBuy 28 = .ok (.iconst 2, 1) := by decide +kernel
theorem dX12_mayBuy_29 : decode cX12_mayBuy 29 = .ok (.aload_n 0, 1) := by decide +kernel
theorem dX12_mayBuy_30 : decode cX12_mayBuy 30 = .ok (.iload_n 1, 1) := by decide +kernel
theorem dX12_mayBuy_31 : decode cX12_mayBuy 31 = .ok (.iload_n 2, 1) := by decide +kernel
theorem dX12_mayBuy_32 : decode cX12_mayBuy 32 = .ok (.iconst 1, 1) := by decide +kernel
theorem dX12_mayBuy_33 : decode cX12_mayBuy 33 = .ok (.invokevirtual 406, 3) := by decide +kernel
theorem dX12_mayBuy_36 : decode cX12_mayBuy 36 = .ok (.invokestatic 261, 3) := by decide +kernel
theorem dX12_mayBuy_39 : decode cX12_mayBuy 39 = .ok (.imul, 1) := by decide +kernel
theorem dX12_mayBuy_40 : decode cX12_mayBuy 40 = .ok (.iload_n 3, 1) := by decide +kernel
theorem dX12_mayBuy_41 : decode cX12_mayBuy 41 = .ok (.if_icmp .lt 7, 3) := by decide +kernel
theorem dX12_mayBuy_44 : decode cX12_mayBuy 44 = .ok (.iconst 1, 1) := by decide +kernel
theorem dX12_mayBuy_45 : decode cX12_mayBuy 45 = .ok (.goto 4, 3) := by decide +kernel
theorem dX12_mayBuy_48 : decode cX12_mayBuy 48 = .ok (.iconst 0, 1) := by decide +kernel
theorem dX12_mayBuy_49 : decode cX12_mayBuy 49 = .ok (.ireturn, 1) := by decide +kernel
def vc_X12_mayBuy (l0 : Nat) (l1 : Int32) (l2 : Int32) (M : mj_M) (post : Bool → mj_M → Prop) : Prop := mj_tag M l0 = 13 ∧ mj_tag M (mj_r M l0 2) = 101 ∧ vp_in l1 (mj_len M (mj_r M l0 2)) ∧ vc_X12_ones (mj_i M (mj_r M l0 2) (l1 : Int32).toNatClampNeg) M (fun r4 M5 => mj_tag M5 l0 = 13 ∧ vc_X12_joinOf l0 l1 0 false M5 (fun r7 M8 => vc_X12_ones r7 M8 (fun r9 M10 => if (3 * r9) < (2 * r4) then (post false M10) else (mj_tag M10 l0 = 13 ∧ vc_X12_joinOf l0 l1 l2 true M10 (fun r13 M14 => vc_X12_ones r13 M14 (fun r15 M16 => if (2 * r15) < r4 then (post false M16) else (post true M16)))))))
set_option maxHeartbeats 4000000 in
set_option maxRecDepth 100000 in
theorem ct_X12_mayBuy {l : Launch} {base : Nat} {D : va_G} {A : ClassId × ClassId × ClassId} (l0 : Nat) (l1 : Int32) (l2 : Int32) (M : mj_M) (post : Bool → mj_M → Prop) (h : vc_X12_mayBuy l0 l1 l2 M post) : mj_Met l base D A mj_jB yX12_mayBuy cX12_mayBuy 4 (some .boolean) rm_X12_mayBuy 0 0 [vR l0, vI l1, vI l2] M post := by
  refine mj_entry (by decide +kernel) (Nat.le_of_ble_eq_true rfl) (fun g hC hE h1 h2 h3 h4 => ?_)
  show mj_X g 0 [(0, vR l0), (1, vI l1), (2, vI l2)] [] M 0 0
  simp only [vc_X12_mayBuy] at h
  refine mx_aload_n (j := 0) hC dX12_mayBuy_0 rfl rfl ?_
  obtain ⟨ht1, h⟩ := h
  refine mx_get (v := vR (mj_r M l0 2)) hC tf_X12_13 ht1 rfl dX12_mayBuy_1 ?_
  refine mx_iload_n (j := 1) hC dX12_mayBuy_4 rfl rfl ?_
  obtain ⟨ht2, h⟩ := h
  obtain ⟨hi3, h⟩ := h
  refine mx_iaload hC ht2 hi3 dX12_mayBuy_5 ?_
  refine mx_callS (inj := mj_jI) (As := [vI (mj_i M (mj_r M l0 2) (l1 : Int32).toNatClampNeg)]) (st := []) hC (ct_X12_ones (mj_i M (mj_r M l0 2) (l1 : Int32).toNatClampNeg) M _ h) ty_X12_ones tw1585 rfl (Nat.le_of_ble_eq_true rfl) ⟨rfl, rfl, ⟨by decide, by decide⟩, by decide, by decide⟩ dX12_mayBuy_6 (fun r4 M5 h => ?_)
  show mj_X g 9 [(0, vR l0), (1, vI l1), (2, vI l2)] [vI r4] M5 0 0
  refine mx_istore_n (L' := [(3, vI r4), (0, vR l0), (1, vI l1), (2, vI l2)]) hC dX12_mayBuy_9 rfl (by decide) rfl ?_
  refine mx_iconst (v := 3) hC dX12_mayBuy_10 (by decide) ?_
  refine mx_aload_n (j := 1) hC dX12_mayBuy_11 rfl rfl ?_
  refine mx_iload_n (j := 2) hC dX12_mayBuy_12 rfl rfl ?_
  refine mx_iconst (v := 0) hC dX12_mayBuy_13 (by decide) ?_
  refine mx_iconst (v := 0) hC dX12_mayBuy_14 (by decide) ?_
  obtain ⟨ht6, h⟩ := h
  refine mx_callV (inj := mj_jI) (As := [vI l1, vI 0, vI (mj_b false)]) (st := [vI 3]) hC (ct_X12_joinOf l0 l1 0 false M5 _ h) ty_X12_joinOf tw1776 ht6 rfl (Nat.le_of_ble_eq_true rfl) ⟨rfl, rfl, ⟨by decide, by decide⟩, by decide, by decide⟩ dX12_mayBuy_15 (fun r7 M8 h => ?_)
  show mj_X g 18 [(3, vI r4), (0, vR l0), (1, vI l1), (2, vI l2)] [vI r7, vI 3] M8 0 0
  refine mx_callS (inj := mj_jI) (As := [vI r7]) (st := [vI 3]) hC (ct_X12_ones r7 M8 _ h) ty_X12_ones tw1585 rfl (Nat.le_of_ble_eq_true rfl) ⟨rfl, rfl, ⟨by decide, by decide⟩, by decide, by decide⟩ dX12_mayBuy_18 (fun r9 M10 h => ?_)
  show mj_X g 21 [(3, vI r4), (0, vR l0), (1, vI l1), (2, vI l2)] [vI r9, vI 3] M10 0 0
  refine mx_imul hC dX12_mayBuy_21 ?_
  refine mx_iconst (v := 2) hC dX12_mayBuy_22 (by decide) ?_
  refine mx_iload_n (j := 0) hC dX12_mayBuy_23 rfl rfl ?_
  refine mx_imul hC dX12_mayBuy_24 ?_
  refine mx_icmplt (tgt := 48) hC dX12_mayBuy_25 (by decide) (fun hc11 => ?_) (fun hc11 => ?_)
  · replace h := mj_yy hc11 h
    refine mx_iconst (v := 0) hC dX12_mayBuy_48 (by decide) ?_
    exact mx_zret (b := false) hC hE rfl dX12_mayBuy_49 h
  · replace h := mj_nn hc11 h
    refine mx_iconst (v := 2) hC dX12_mayBuy_28 (by decide) ?_
    refine mx_aload_n (j := 1) hC dX12_mayBuy_29 rfl rfl ?_
    refine mx_iload_n (j := 2) hC dX12_mayBuy_30 rfl rfl ?_
    refine mx_iload_n (j := 3) hC dX12_mayBuy_31 rfl rfl ?_
    refine mx_iconst (v := 1) hC dX12_mayBuy_32 (by decide) ?_
    obtain ⟨ht12, h⟩ := h
    refine mx_callV (inj := mj_jI) (As := [vI l1, vI l2, vI (mj_b true)]) (st := [vI 2]) hC (ct_X12_joinOf l0 l1 l2 true M10 _ h) ty_X12_joinOf tw1776 ht12 rfl (Nat.le_of_ble_eq_true rfl) ⟨rfl, rfl, ⟨by decide, by decide⟩, by decide, by decide⟩ dX12_mayBuy_33 (fun r13 M14 h => ?_)
    show mj_X g 36 [(3, vI r4), (0, vR l0), (1, vI l1), (2, vI l2)] [vI r13, vI 2] M14 0 0
    refine mx_callS (inj := mj_jI) (As := [vI r13]) (st := [vI 2]) hC (ct_X12_ones r13 M14 _ h) ty_X12_ones tw1585 rfl (Nat.le_of_ble_eq_true rfl) ⟨rfl, rfl, ⟨by decide, by decide⟩, by decide, by decide⟩ dX12_mayBuy_36 (fun r15 M16 h => ?_)
    show mj_X g 39 [(3, vI r4), (0, vR l0), (1, vI l1), (2, vI l2)] [vI r15, vI 2] M16 0 0
    refine mx_imul hC dX12_mayBuy_39 ?_
    refine mx_iload_n (j := 0) hC dX12_mayBuy_40 rfl rfl ?_
    refine mx_icmplt (tgt := 48) hC dX12_mayBuy_41 (by decide) (fun hc17 => ?_) (fun hc17 => ?_)
    · replace h := mj_yy hc17 h
      refine mx_iconst (v := 0) hC dX12_mayBuy_48 (by decide) ?_
      exact mx_zret (b := false) hC hE rfl dX12_mayBuy_49 h
    · replace h := mj_nn hc17 h
      refine mx_iconst (v := 1) hC dX12_mayBuy_44 (by decide) ?_
      refine mx_goto (tgt := 49) hC dX12_mayBuy_45 (by decide) ?_
      exact mx_zret (b := true) hC hE rfl dX12_mayBuy_49 h
theorem tw1771 : (Jvm.Cond.constantLong "LeaseLandModel" (410 : Nat) (1023 : Int64)) ∈ mj_tbl := mj_w 1824 (by decide +kernel) (by decide +kernel)
def rm_X12_whyNotWhole : Room := { frames := 2, cells := 0, slots := 0, locals := 46 }
theorem dX12_whyNotWhole_0 : decode cX12_whyNotWhole 0 = .ok (.aload_n 0, 1) := by decide +kernel
theorem dX12_whyNotWhole_1 : decode cX12_whyNotWhole 1 = .ok (.iload_n 1, 1) := by decide +kernel
theorem dX12_whyNotWhole_2 : decode cX12_whyNotWhole 2 = .ok (.invokevirtual 137, 3) := by decide +kernel
theorem dX12_whyNotWhole_5 : decode cX12_whyNotWhole 5 = .ok (.ifCond .eq 12, 3) := by decide +kernel
theorem dX12_whyNotWhole_8 : decode cX12_whyNotWhole 8 = .ok (.aload_n 0, 1) := by decide +kernel
theorem dX12_whyNotWhole_9 : decode cX12_whyNotWhole 9 = .ok (.getfield 7, 3) := by decide +kernel
theorem dX12_whyNotWhole_12 : decode cX12_whyNotWhole 12 = .ok (.iload_n 1, 1) := by decide +kernel
theorem dX12_whyNotWhole_13 : decode cX12_whyNotWhole 13 = .ok (.iaload, 1) := by decide +kernel
theorem dX12_whyNotWhole_14 : decode cX12_whyNotWhole 14 = .ok (.ifCond .lt 5, 3) := by decide +kernel
theorem dX12_whyNotWhole_17 : decode cX12_whyNotWhole 17 = .ok (.iconst (-1), 1) := by decide +kernel
theorem dX12_whyNotWhole_18 : decode cX12_whyNotWhole 18 = .ok (.ireturn, 1) := by decide +kernel
theorem dX12_whyNotWhole_19 : decode cX12_whyNotWhole 19 = .ok (.iload_n 2, 1) := by decide +kernel
theorem dX12_whyNotWhole_20 : decode cX12_whyNotWhole 20 = .ok (.i2l, 1) := by decide +kernel
theorem dX12_whyNotWhole_21 : decode cX12_whyNotWhole 21 = .ok (.lconst 0, 1) := by decide +kernel
theorem dX12_whyNotWhole_22 : decode cX12_whyNotWhole 22 = .ok (.ldc2_w 410, 3) := by decide +kernel
theorem dX12_whyNotWhole_25 : decode cX12_whyNotWhole 25 = .ok (.invokestatic 133, 3) := by decide +kernel
theorem dX12_whyNotWhole_28 : decode cX12_whyNotWhole 28 = .ok (.ifCond .eq 7, 3) := by decide +kernel
theorem dX12_whyNotWhole_31 : decode cX12_whyNotWhole 31 = .ok (.iconst 0, 1) := by decide +kernel
theorem dX12_whyNotWhole_32 : decode cX12_whyNotWhole 32 = .ok (.goto 5, 3) := by decide +kernel
theorem dX12_whyNotWhole_35 : decode cX12_whyNotWhole 35 = .ok (.bipush (-2), 2) := by decide +kernel
theorem dX12_whyNotWhole_37 : decode cX12_whyNotWhole 37 = .ok (.ireturn, 1) := by decide +kernel
def vc_X12_whyNotWhole (l0 : Nat) (l1 : Int32) (l2 : Int32) (M : mj_M) (post : Int32 → mj_M → Prop) : Prop := mj_tag M l0 = 13 ∧ vc_X12_isHolding l0 l1 M (fun r2 M3 => if r2 = true then (mj_tag M3 l0 = 13 ∧ mj_tag M3 (mj_r M3 l0 1) = 101 ∧ vp_in l1 (mj_len M3 (mj_r M3 l0 1)) ∧ if (mj_i M3 (mj_r M3 l0 1) (l1 : Int32).toNatClampNeg) < 0 then (vc_X12_in ((l2 : Int32).toInt64) 0 1023 M3 (fun r9 M10 => if r9 = true then (post 0 M10) else (post ((-2)) M10))) else (post ((-1)) M3)) else (post ((-1)) M3))
set_option maxHeartbeats 4000000 in
set_option maxRecDepth 100000 in
theorem ct_X12_whyNotWhole {l : Launch} {base : Nat} {D : va_G} {A : ClassId × ClassId × ClassId} (l0 : Nat) (l1 : Int32) (l2 : Int32) (M : mj_M) (post : Int32 → mj_M → Prop) (h : vc_X12_whyNotWhole l0 l1 l2 M post) : mj_Met l base D A mj_jI yX12_whyNotWhole cX12_whyNotWhole 3 (some .int) rm_X12_whyNotWhole 0 0 [vR l0, vI l1, vI l2] M post := by
  refine mj_entry (by decide +kernel) (Nat.le_of_ble_eq_true rfl) (fun g hC hE h1 h2 h3 h4 => ?_)
  show mj_X g 0 [(0, vR l0), (1, vI l1), (2, vI l2)] [] M 0 0
  simp only [vc_X12_whyNotWhole] at h
  refine mx_aload_n (j := 0) hC dX12_whyNotWhole_0 rfl rfl ?_
  refine mx_iload_n (j := 1) hC dX12_whyNotWhole_1 rfl rfl ?_
  obtain ⟨ht1, h⟩ := h
  refine mx_callV (inj := mj_jB) (As := [vI l1]) (st := []) hC (ct_X12_isHolding l0 l1 M _ h) ty_X12_isHolding tw1407 ht1 rfl (Nat.le_of_ble_eq_true rfl) ⟨rfl, rfl, ⟨by decide, by decide⟩, by decide, by decide⟩ dX12_whyNotWhole_2 (fun r2 M3 h => ?_)
  show mj_X g 5 [(0, vR l0), (1, vI l1), (2, vI l2)] [vI (mj_b r2)] M3 0 0
  refine mx_ifeqB (tgt := 17) hC dX12_whyNotWhole_5 (by decide) (fun hc4 => ?_) (fun hc4 => ?_)
  · replace h := mj_nn hc4 h
    refine mx_iconst (v := (-1)) hC dX12_whyNotWhole_17 (by decide) ?_
    exact mx_iret hC hE rfl dX12_whyNotWhole_18 h
  · replace h := mj_yy hc4 h
    refine mx_aload_n (j := 0) hC dX12_whyNotWhole_8 rfl rfl ?_
    obtain ⟨ht5, h⟩ := h
    refine mx_get (v := vR (mj_r M3 l0 1)) hC tf_X12_7 ht5 rfl dX12_whyNotWhole_9 ?_
    refine mx_iload_n (j := 1) hC dX12_whyNotWhole_12 rfl rfl ?_
    obtain ⟨ht6, h⟩ := h
    obtain ⟨hi7, h⟩ := h
    refine mx_iaload hC ht6 hi7 dX12_whyNotWhole_13 ?_
    refine mx_iflt (tgt := 19) hC dX12_whyNotWhole_14 (by decide) (fun hc8 => ?_) (fun hc8 => ?_)
    · replace h := mj_yy hc8 h
      refine mx_iload_n (j := 2) hC dX12_whyNotWhole_19 rfl rfl ?_
      refine mx_i2l hC dX12_whyNotWhole_20 ?_
      refine mx_lconst (v := 0) hC dX12_whyNotWhole_21 (by decide) ?_
      refine mx_ldc2 (v := 1023) hC dX12_whyNotWhole_22 tw1771 ?_
      refine mx_callS (inj := mj_jB) (As := [vL ((l2 : Int32).toInt64), vL 0, vL 1023]) (st := []) hC (ct_X12_in ((l2 : Int32).toInt64) 0 1023 M3 _ h) ty_X12_in tw1379 rfl (Nat.le_of_ble_eq_true rfl) ⟨rfl, rfl, ⟨by decide, by decide⟩, by decide, by decide⟩ dX12_whyNotWhole_25 (fun r9 M10 h => ?_)
      show mj_X g 28 [(0, vR l0), (1, vI l1), (2, vI l2)] [vI (mj_b r9)] M10 0 0
      refine mx_ifeqB (tgt := 35) hC dX12_whyNotWhole_28 (by decide) (fun hc11 => ?_) (fun hc11 => ?_)
      · replace h := mj_nn hc11 h
        refine mx_bipush (v := (-2)) hC dX12_whyNotWhole_35 (by decide) ?_
        exact mx_iret hC hE rfl dX12_whyNotWhole_37 h
      · replace h := mj_yy hc11 h
        refine mx_iconst (v := 0) hC dX12_whyNotWhole_31 (by decide) ?_
        refine mx_goto (tgt := 37) hC dX12_whyNotWhole_32 (by decide) ?_
        exact mx_iret hC hE rfl dX12_whyNotWhole_37 h
    · replace h := mj_nn hc8 h
      refine mx_iconst (v := (-1)) hC dX12_whyNotWhole_17 (by decide) ?_
      exact mx_iret hC hE rfl dX12_whyNotWhole_18 h
theorem tw1767 : (Jvm.Cond.methodLink "LeaseLandModel" (412 : Nat) ({ cls := "LeaseLandModel", name := "whyNotWhole", desc := "(II)I" } : Jvm.MethodName)) ∈ mj_tbl := mj_w 1820 (by decide +kernel) (by decide +kernel)
theorem tw1772 : (Jvm.Cond.methodLink "LeaseLandModel" (415 : Nat) ({ cls := "LeaseLandModel", name := "mayBuy", desc := "(II)Z" } : Jvm.MethodName)) ∈ mj_tbl := mj_w 1825 (by decide +kernel) (by decide +kernel)
theorem tw1775 : (Jvm.Cond.code ({ cls := "LeaseLandModel", name := "mayBuy", desc := "(II)Z" } : Jvm.MethodName) prog_14_method_100_code (4 : Nat) (Option.some Jvm.ClassFile.FieldType.boolean)) ∈ mj_tbl := mj_w 1828 (by decide +kernel) (by decide +kernel)
theorem tw1774 : (Jvm.Cond.instanceMethod ({ cls := "LeaseLandModel", name := "mayBuy", desc := "(II)Z" } : Jvm.MethodName)) ∈ mj_tbl := mj_w 1827 (by decide +kernel) (by decide +kernel)
theorem ty_X12_mayBuy : mj_YV 12 yX12_mayBuy cX12_mayBuy 4 (some .boolean) 2 := ⟨⟨tw1775, tw11, by decide +kernel, by decide +kernel, by decide +kernel⟩, tw1774, mj_w 47 (by decide +kernel) (by decide +kernel), _, rfl, rfl⟩
theorem tw1770 : (Jvm.Cond.code ({ cls := "LeaseLandModel", name := "whyNotWhole", desc := "(II)I" } : Jvm.MethodName) prog_14_method_101_code (3 : Nat) (Option.some Jvm.ClassFile.FieldType.int)) ∈ mj_tbl := mj_w 1823 (by decide +kernel) (by decide +kernel)
theorem tw1769 : (Jvm.Cond.instanceMethod ({ cls := "LeaseLandModel", name := "whyNotWhole", desc := "(II)I" } : Jvm.MethodName)) ∈ mj_tbl := mj_w 1822 (by decide +kernel) (by decide +kernel)
theorem ty_X12_whyNotWhole : mj_YV 12 yX12_whyNotWhole cX12_whyNotWhole 3 (some .int) 2 := ⟨⟨tw1770, tw11, by decide +kernel, by decide +kernel, by decide +kernel⟩, tw1769, mj_w 46 (by decide +kernel) (by decide +kernel), _, rfl, rfl⟩
def rm_X12_may : Room := { frames := 8, cells := 0, slots := 0, locals := 195 }
theorem dX12_may_0 : decode cX12_may 0 = .ok (.aload_n 0, 1) := by decide +kernel
theorem dX12_may_1 : decode cX12_may 1 = .ok (.iload_n 1, 1) := by decide +kernel
theorem dX12_may_2 : decode cX12_may 2 = .ok (.iload_n 2, 1) := by decide +kernel
theorem dX12_may_3 : decode cX12_may 3 = .ok (.invokevirtual 412, 3) := by decide +kernel
theorem dX12_may_6 : decode cX12_may 6 = .ok (.istore_n 3, 1) := by decide +kernel
theorem dX12_may_7 : decode cX12_may 7 = .ok (.iload_n 3, 1) := by decide +kernel
theorem dX12_may_8 : decode cX12_may 8 = .ok (.ifCond .ge 7, 3) := by decide +kernel
theorem dX12_may_11 : decode cX12_may 11 = .ok (.iload_n 3, 1) := by decide +kernel
theorem dX12_may_12 : decode cX12_may 12 = .ok (.goto 17, 3) := by decide +kernel
theorem dX12_may_15 : decode cX12_may 15 = .ok (.aload_n 0, 1) := by decide +kernel
theorem dX12_may_16 : decode cX12_may 16 = .ok (.iload_n 1, 1) := by decide +kernel
theorem dX12_may_17 : decode cX12_may 17 = .ok (.iload_n 2, 1) := by decide +kernel
theorem dX12_may_18 : decode cX12_may 18 = .ok (.invokevirtual 415, 3) := by decide +kernel
theorem dX12_may_21 : decode cX12_may 21 = .ok (.ifCond .eq 7, 3) := by decide +kernel
theorem dX12_may_24 : decode cX12_may 24 = .ok (.iconst 1, 1) := by decide +kernel
theorem dX12_may_25 : decode cX12_may 25 = .ok (.goto 4, 3) := by decide +kernel
theorem dX12_may_28 : decode cX12_may 28 = .ok (.iconst 0, 1) := by decide +kernel
theorem dX12_may_29 : decode cX12_may 29 = .ok (.ireturn, 1) := by decide +kernel
def vc_X12_may (l0 : Nat) (l1 : Int32) (l2 : Int32) (M : mj_M) (post : Int32 → mj_M → Prop) : Prop := mj_tag M l0 = 13 ∧ vc_X12_whyNotWhole l0 l1 l2 M (fun r2 M3 => if 0 ≤ r2 then (mj_tag M3 l0 = 13 ∧ vc_X12_mayBuy l0 l1 l2 M3 (fun r6 M7 => if r6 = true then (post 1 M7) else (post 0 M7))) else (post r2 M3))
set_option maxHeartbeats 4000000 in
set_option maxRecDepth 100000 in
theorem ct_X12_may {l : Launch} {base : Nat} {D : va_G} {A : ClassId × ClassId × ClassId} (l0 : Nat) (l1 : Int32) (l2 : Int32) (M : mj_M) (post : Int32 → mj_M → Prop) (h : vc_X12_may l0 l1 l2 M post) : mj_Met l base D A mj_jI yX12_may cX12_may 4 (some .int) rm_X12_may 0 0 [vR l0, vI l1, vI l2] M post := by
  refine mj_entry (by decide +kernel) (Nat.le_of_ble_eq_true rfl) (fun g hC hE h1 h2 h3 h4 => ?_)
  show mj_X g 0 [(0, vR l0), (1, vI l1), (2, vI l2)] [] M 0 0
  simp only [vc_X12_may] at h
  refine mx_aload_n (j := 0) hC dX12_may_0 rfl rfl ?_
  refine mx_iload_n (j := 1) hC dX12_may_1 rfl rfl ?_
  refine mx_iload_n (j := 2) hC dX12_may_2 rfl rfl ?_
  obtain ⟨ht1, h⟩ := h
  refine mx_callV (inj := mj_jI) (As := [vI l1, vI l2]) (st := []) hC (ct_X12_whyNotWhole l0 l1 l2 M _ h) ty_X12_whyNotWhole tw1767 ht1 rfl (Nat.le_of_ble_eq_true rfl) ⟨rfl, rfl, ⟨by decide, by decide⟩, by decide, by decide⟩ dX12_may_3 (fun r2 M3 h => ?_)
  show mj_X g 6 [(0, vR l0), (1, vI l1), (2, vI l2)] [vI r2] M3 0 0
  refine mx_istore_n (L' := [(3, vI r2), (0, vR l0), (1, vI l1), (2, vI l2)]) hC dX12_may_6 rfl (by decide) rfl ?_
  refine mx_iload_n (j := 0) hC dX12_may_7 rfl rfl ?_
  refine mx_ifge (tgt := 15) hC dX12_may_8 (by decide) (fun hc4 => ?_) (fun hc4 => ?_)
  · replace h := mj_yy hc4 h
    refine mx_aload_n (j := 1) hC dX12_may_15 rfl rfl ?_
    refine mx_iload_n (j := 2) hC dX12_may_16 rfl rfl ?_
    refine mx_iload_n (j := 3) hC dX12_may_17 rfl rfl ?_
    obtain ⟨ht5, h⟩ := h
    refine mx_callV (inj := mj_jB) (As := [vI l1, vI l2]) (st := []) hC (ct_X12_mayBuy l0 l1 l2 M3 _ h) ty_X12_mayBuy tw1772 ht5 rfl (Nat.le_of_ble_eq_true rfl) ⟨rfl, rfl, ⟨by decide, by decide⟩, by decide, by decide⟩ dX12_may_18 (fun r6 M7 h => ?_)
    show mj_X g 21 [(3, vI r2), (0, vR l0), (1, vI l1), (2, vI l2)] [vI (mj_b r6)] M7 0 0
    refine mx_ifeqB (tgt := 28) hC dX12_may_21 (by decide) (fun hc8 => ?_) (fun hc8 => ?_)
    · replace h := mj_nn hc8 h
      refine mx_iconst (v := 0) hC dX12_may_28 (by decide) ?_
      exact mx_iret hC hE rfl dX12_may_29 h
    · replace h := mj_yy hc8 h
      refine mx_iconst (v := 1) hC dX12_may_24 (by decide) ?_
      refine mx_goto (tgt := 29) hC dX12_may_25 (by decide) ?_
      exact mx_iret hC hE rfl dX12_may_29 h
  · replace h := mj_nn hc4 h
    refine mx_iload_n (j := 0) hC dX12_may_11 rfl rfl ?_
    refine mx_goto (tgt := 29) hC dX12_may_12 (by decide) ?_
    exact mx_iret hC hE rfl dX12_may_29 h
def rm_X12_more : Room := { frames := 8, cells := 0, slots := 0, locals := 195 }
theorem dX12_more_0 : decode cX12_more 0 = .ok (.aload_n 0, 1) := by decide +kernel
theorem dX12_more_1 : decode cX12_more 1 = .ok (.iload_n 1, 1) := by decide +kernel
theorem dX12_more_2 : decode cX12_more 2 = .ok (.iload_n 2, 1) := by decide +kernel
theorem dX12_more_3 : decode cX12_more 3 = .ok (.invokevirtual 412, 3) := by decide +kernel
theorem dX12_more_6 : decode cX12_more 6 = .ok (.istore_n 3, 1) := by decide +kernel
theorem dX12_more_7 : decode cX12_more 7 = .ok (.iload_n 3, 1) := by decide +kernel
theorem dX12_more_8 : decode cX12_more 8 = .ok (.ifCond .ge 5, 3) := by decide +kernel
theorem dX12_more_11 : decode cX12_more 11 = .ok (.iload_n 3, 1) := by decide +kernel
theorem dX12_more_12 : decode cX12_more 12 = .ok (.ireturn, 1) := by decide +kernel
theorem dX12_more_13 : decode cX12_more 13 = .ok (.bipush (-6), 2) := by decide +kernel
theorem dX12_more_15 : decode cX12_more 15 = .ok (.istore 4, 2) := by decide +kernel
theorem dX12_more_17 : decode cX12_more 17 = .ok (.iconst 0, 1) := by decide +kernel
theorem dX12_more_18 : decode cX12_more 18 = .ok (.istore 5, 2) := by decide +kernel
theorem dX12_more_20 : decode cX12_more 20 = .ok (.iload 5, 2) := by decide +kernel
theorem dX12_more_22 : decode cX12_more 22 = .ok (.sipush 1024, 3) := by decide +kernel
theorem dX12_more_25 : decode cX12_more 25 = .ok (.if_icmp .ge 62, 3) := by decide +kernel
theorem dX12_more_28 : decode cX12_more 28 = .ok (.iload 4, 2) := by decide +kernel
theorem dX12_more_30 : decode cX12_more 30 = .ok (.ifCond .lt 16, 3) := by decide +kernel
theorem dX12_more_33 : decode cX12_more 33 = .ok (.iload 5, 2) := by decide +kernel
theorem dX12_more_35 : decode cX12_more 35 = .ok (.invokestatic 261, 3) := by decide +kernel
theorem dX12_more_38 : decode cX12_more 38 = .ok (.iload 4, 2) := by decide +kernel
theorem dX12_more_40 : decode cX12_more 40 = .ok (.invokestatic 261, 3) := by decide +kernel
theorem dX12_more_43 : decode cX12_more 43 = .ok (.if_icmp .ge 7, 3) := by decide +kernel
theorem dX12_more_46 : decode cX12_more 46 = .ok (.iconst 1, 1) := by decide +kernel
theorem dX12_more_47 : decode cX12_more 47 = .ok (.goto 4, 3) := by decide +kernel
theorem dX12_more_50 : decode cX12_more 50 = .ok (.iconst 0, 1) := by decide +kernel
theorem dX12_more_51 : decode cX12_more 51 = .ok (.istore 6, 2) := by decide +kernel
theorem dX12_more_53 : decode cX12_more 53 = .ok (.iload 5, 2) := by decide +kernel
theorem dX12_more_55 : decode cX12_more 55 = .ok (.iload_n 2, 1) := by decide +kernel
theorem dX12_more_56 : decode cX12_more 56 = .ok (.iand, 1) := by decide +kernel
theorem dX12_more_57 : decode cX12_more 57 = .ok (.ifCond .ne 24, 3) := by decide +kernel
theorem dX12_more_60 : decode cX12_more 60 = .ok (.iload 6, 2) := by decide +kernel
theorem dX12_more_62 : decode cX12_more 62 = .ok (.ifCond .eq 19, 3) := by decide +kernel
theorem dX12_more_65 : decode cX12_more 65 = .ok (.aload_n 0, 1) := by decide +kernel
theorem dX12_more_66 : decode cX12_more 66 = .ok (.iload_n 1, 1) := by decide +kernel
theorem dX12_more_67 : decode cX12_more 67 = .ok (.iload_n 2, 1) := by decide +kernel
theorem dX12_more_68 : decode cX12_more 68 = .ok (.iload 5, 2) := by decide +kernel
theorem dX12_more_70 : decode cX12_more 70 = .ok (.ior, 1) := by decide +kernel
theorem dX12_more_71 : decode cX12_more 71 = .ok (.invokevirtual 415, 3) := by decide +kernel
theorem dX12_more_74 : decode cX12_more 74 = .ok (.ifCond .eq 7, 3) := by decide +kernel
theorem dX12_more_77 : decode cX12_more 77 = .ok (.iload 5, 2) := by decide +kernel
theorem dX12_more_79 : decode cX12_more 79 = .ok (.istore 4, 2) := by decide +kernel
theorem dX12_more_81 : decode cX12_more 81 = .ok (.iinc 5 1, 3) := by decide +kernel
theorem dX12_more_84 : decode cX12_more 84 = .ok (.goto (-64), 3) := by decide +kernel
theorem dX12_more_87 : decode cX12_more 87 = .ok (.iload 4, 2) := by decide +kernel
theorem dX12_more_89 : decode cX12_more 89 = .ok (.ireturn, 1) := by decide +kernel
def vb_X12_more_51 (k20 : Nat → Int32 → Int32 → Int32 → Int32 → mj_M → Prop) (post : Int32 → mj_M → Prop) (l0 : Nat) (l1 : Int32) (l2 : Int32) (l4 : Int32) (l5 : Int32) (s0 : Bool) (M : mj_M) : Prop := if (l5 &&& l2) = 0 then (if s0 = true then (mj_tag M l0 = 13 ∧ vc_X12_mayBuy l0 l1 (l2 ||| l5) M (fun r4 M5 => if r4 = true then (k20 l0 l1 l2 l5 (l5 + 1) M5) else (k20 l0 l1 l2 l4 (l5 + 1) M5))) else (k20 l0 l1 l2 l4 (l5 + 1) M)) else (k20 l0 l1 l2 l4 (l5 + 1) M)
def vb_X12_more_46 (k20 : Nat → Int32 → Int32 → Int32 → Int32 → mj_M → Prop) (post : Int32 → mj_M → Prop) (l0 : Nat) (l1 : Int32) (l2 : Int32) (l4 : Int32) (l5 : Int32) (M : mj_M) : Prop := vb_X12_more_51 k20 post l0 l1 l2 l4 l5 true M
def vb_X12_more_20 (post : Int32 → mj_M → Prop) : Nat → Nat → Int32 → Int32 → Int32 → Int32 → mj_M → Prop
  | 0 => fun _ _ _ _ _ _ => False
  | f + 1 => fun l0 l1 l2 l4 l5 M => if 1024 ≤ l5 then (post l4 M) else (if l4 < 0 then (vb_X12_more_46 (vb_X12_more_20 post f) post l0 l1 l2 l4 l5 M) else (vc_X12_ones l5 M (fun r9 M10 => vc_X12_ones l4 M10 (fun r11 M12 => if r11 ≤ r9 then (vb_X12_more_51 (vb_X12_more_20 post f) post l0 l1 l2 l4 l5 false M12) else (vb_X12_more_46 (vb_X12_more_20 post f) post l0 l1 l2 l4 l5 M12)))))
def vc_X12_more (l0 : Nat) (l1 : Int32) (l2 : Int32) (M : mj_M) (post : Int32 → mj_M → Prop) : Prop := mj_tag M l0 = 13 ∧ vc_X12_whyNotWhole l0 l1 l2 M (fun r15 M16 => if 0 ≤ r15 then (∃ fe, vb_X12_more_20 post fe l0 l1 l2 ((-6)) 0 M16) else (post r15 M16))
set_option maxHeartbeats 4000000 in
set_option maxRecDepth 100000 in
theorem xb_X12_more_51 {g : mj_G} {post : Int32 → mj_M → Prop} (hC : mj_C g yX12_more cX12_more 7 (some .int) rm_X12_more) (hE : mj_E g mj_jI post 0 0) {k20 : Nat → Int32 → Int32 → Int32 → Int32 → mj_M → Prop} (hk20 : ∀ (l0 : Nat) (l1 : Int32) (l2 : Int32) (l4 : Int32) (l5 : Int32) (M : mj_M), k20 l0 l1 l2 l4 l5 M → mj_X g 20 [(0, vR l0), (1, vI l1), (2, vI l2), (4, vI l4), (5, vI l5)] [] M 0 0) (l0 : Nat) (l1 : Int32) (l2 : Int32) (l4 : Int32) (l5 : Int32) (s0 : Bool) (M : mj_M) (h : vb_X12_more_51 k20 post l0 l1 l2 l4 l5 s0 M) : mj_X g 51 [(0, vR l0), (1, vI l1), (2, vI l2), (4, vI l4), (5, vI l5)] [vI (mj_b s0)] M 0 0 := by
  simp only [vb_X12_more_51] at h
  refine mx_istore (L' := [(6, vI (mj_b s0)), (0, vR l0), (1, vI l1), (2, vI l2), (4, vI l4), (5, vI l5)]) hC dX12_more_51 (by decide) rfl ?_
  refine mx_iload (j := 5) hC dX12_more_53 rfl ?_
  refine mx_iload_n (j := 3) hC dX12_more_55 rfl rfl ?_
  refine mx_iand hC dX12_more_56 ?_
  refine mx_ifne (tgt := 81) hC dX12_more_57 (by decide) (fun hc1 => ?_) (fun hc1 => ?_)
  · replace h := mj_nn hc1 h
    refine mx_iinc (j := 5) (v := l5 + 1) (L' := [(5, vI (l5 + 1)), (6, vI (mj_b s0)), (0, vR l0), (1, vI l1), (2, vI l2), (4, vI l4)]) hC dX12_more_81 rfl rfl (by decide) rfl ?_
    refine mx_goto (tgt := 20) hC dX12_more_84 (by decide) ?_
    refine mx_sub (L' := [(0, vR l0), (1, vI l1), (2, vI l2), (4, vI l4), (5, vI (l5 + 1))]) [2, 3, 4, 5, 0] rfl ?_
    exact show mj_X g 20 [(0, vR l0), (1, vI l1), (2, vI l2), (4, vI l4), (5, vI (l5 + 1))] [] M 0 0 from (hk20 l0 l1 l2 l4 (l5 + 1) M h)
  · replace h := mj_yy hc1 h
    refine mx_iload (j := 0) hC dX12_more_60 rfl ?_
    refine mx_ifeqB (tgt := 81) hC dX12_more_62 (by decide) (fun hc2 => ?_) (fun hc2 => ?_)
    · replace h := mj_nn hc2 h
      refine mx_iinc (j := 5) (v := l5 + 1) (L' := [(5, vI (l5 + 1)), (6, vI (mj_b s0)), (0, vR l0), (1, vI l1), (2, vI l2), (4, vI l4)]) hC dX12_more_81 rfl rfl (by decide) rfl ?_
      refine mx_goto (tgt := 20) hC dX12_more_84 (by decide) ?_
      refine mx_sub (L' := [(0, vR l0), (1, vI l1), (2, vI l2), (4, vI l4), (5, vI (l5 + 1))]) [2, 3, 4, 5, 0] rfl ?_
      exact show mj_X g 20 [(0, vR l0), (1, vI l1), (2, vI l2), (4, vI l4), (5, vI (l5 + 1))] [] M 0 0 from (hk20 l0 l1 l2 l4 (l5 + 1) M h)
    · replace h := mj_yy hc2 h
      refine mx_aload_n (j := 1) hC dX12_more_65 rfl rfl ?_
      refine mx_iload_n (j := 2) hC dX12_more_66 rfl rfl ?_
      refine mx_iload_n (j := 3) hC dX12_more_67 rfl rfl ?_
      refine mx_iload (j := 5) hC dX12_more_68 rfl ?_
      refine mx_ior hC dX12_more_70 ?_
      obtain ⟨ht3, h⟩ := h
      refine mx_callV (inj := mj_jB) (As := [vI l1, vI (l2 ||| l5)]) (st := []) hC (ct_X12_mayBuy l0 l1 (l2 ||| l5) M _ h) ty_X12_mayBuy tw1772 ht3 rfl (Nat.le_of_ble_eq_true rfl) ⟨rfl, rfl, ⟨by decide, by decide⟩, by decide, by decide⟩ dX12_more_71 (fun r4 M5 h => ?_)
      show mj_X g 74 [(6, vI (mj_b s0)), (0, vR l0), (1, vI l1), (2, vI l2), (4, vI l4), (5, vI l5)] [vI (mj_b r4)] M5 0 0
      refine mx_ifeqB (tgt := 81) hC dX12_more_74 (by decide) (fun hc6 => ?_) (fun hc6 => ?_)
      · replace h := mj_nn hc6 h
        refine mx_iinc (j := 5) (v := l5 + 1) (L' := [(5, vI (l5 + 1)), (6, vI (mj_b s0)), (0, vR l0), (1, vI l1), (2, vI l2), (4, vI l4)]) hC dX12_more_81 rfl rfl (by decide) rfl ?_
        refine mx_goto (tgt := 20) hC dX12_more_84 (by decide) ?_
        refine mx_sub (L' := [(0, vR l0), (1, vI l1), (2, vI l2), (4, vI l4), (5, vI (l5 + 1))]) [2, 3, 4, 5, 0] rfl ?_
        exact show mj_X g 20 [(0, vR l0), (1, vI l1), (2, vI l2), (4, vI l4), (5, vI (l5 + 1))] [] M5 0 0 from (hk20 l0 l1 l2 l4 (l5 + 1) M5 h)
      · replace h := mj_yy hc6 h
        refine mx_iload (j := 5) hC dX12_more_77 rfl ?_
        refine mx_istore (L' := [(4, vI l5), (6, vI (mj_b s0)), (0, vR l0), (1, vI l1), (2, vI l2), (5, vI l5)]) hC dX12_more_79 (by decide) rfl ?_
        refine mx_iinc (j := 5) (v := l5 + 1) (L' := [(5, vI (l5 + 1)), (4, vI l5), (6, vI (mj_b s0)), (0, vR l0), (1, vI l1), (2, vI l2)]) hC dX12_more_81 rfl rfl (by decide) rfl ?_
        refine mx_goto (tgt := 20) hC dX12_more_84 (by decide) ?_
        refine mx_sub (L' := [(0, vR l0), (1, vI l1), (2, vI l2), (4, vI l5), (5, vI (l5 + 1))]) [3, 4, 5, 1, 0] rfl ?_
        exact show mj_X g 20 [(0, vR l0), (1, vI l1), (2, vI l2), (4, vI l5), (5, vI (l5 + 1))] [] M5 0 0 from (hk20 l0 l1 l2 l5 (l5 + 1) M5 h)
set_option maxHeartbeats 4000000 in
set_option maxRecDepth 100000 in
theorem xb_X12_more_46 {g : mj_G} {post : Int32 → mj_M → Prop} (hC : mj_C g yX12_more cX12_more 7 (some .int) rm_X12_more) (hE : mj_E g mj_jI post 0 0) {k20 : Nat → Int32 → Int32 → Int32 → Int32 → mj_M → Prop} (hk20 : ∀ (l0 : Nat) (l1 : Int32) (l2 : Int32) (l4 : Int32) (l5 : Int32) (M : mj_M), k20 l0 l1 l2 l4 l5 M → mj_X g 20 [(0, vR l0), (1, vI l1), (2, vI l2), (4, vI l4), (5, vI l5)] [] M 0 0) (l0 : Nat) (l1 : Int32) (l2 : Int32) (l4 : Int32) (l5 : Int32) (M : mj_M) (h : vb_X12_more_46 k20 post l0 l1 l2 l4 l5 M) : mj_X g 46 [(0, vR l0), (1, vI l1), (2, vI l2), (4, vI l4), (5, vI l5)] [] M 0 0 := by
  simp only [vb_X12_more_46] at h
  refine mx_iconst (v := 1) hC dX12_more_46 (by decide) ?_
  refine mx_goto (tgt := 51) hC dX12_more_47 (by decide) ?_
  refine mx_sub (L' := [(0, vR l0), (1, vI l1), (2, vI l2), (4, vI l4), (5, vI l5)]) [0, 1, 2, 3, 4] rfl ?_
  exact show mj_X g 51 [(0, vR l0), (1, vI l1), (2, vI l2), (4, vI l4), (5, vI l5)] [vI (mj_b true)] M 0 0 from (xb_X12_more_51 hC hE hk20 l0 l1 l2 l4 l5 true M h)
set_option maxHeartbeats 4000000 in
set_option maxRecDepth 100000 in
theorem xb_X12_more_20 {g : mj_G} {post : Int32 → mj_M → Prop} (hC : mj_C g yX12_more cX12_more 7 (some .int) rm_X12_more) (hE : mj_E g mj_jI post 0 0) : ∀ (f : Nat) (l0 : Nat) (l1 : Int32) (l2 : Int32) (l4 : Int32) (l5 : Int32) (M : mj_M), vb_X12_more_20 post f l0 l1 l2 l4 l5 M → mj_X g 20 [(0, vR l0), (1, vI l1), (2, vI l2), (4, vI l4), (5, vI l5)] [] M 0 0 := by
  intro f
  induction f with
  | zero => exact fun _ _ _ _ _ _ h => absurd h (fun z => z)
  | succ f ih =>
    intro l0 l1 l2 l4 l5 M h
    simp only [vb_X12_more_20] at h
    refine mx_iload (j := 4) hC dX12_more_20 rfl ?_
    refine mx_sipush (v := 1024) hC dX12_more_22 (by decide) ?_
    refine mx_icmpge (tgt := 87) hC dX12_more_25 (by decide) (fun hc7 => ?_) (fun hc7 => ?_)
    · replace h := mj_yy hc7 h
      refine mx_iload (j := 3) hC dX12_more_87 rfl ?_
      exact mx_iret hC hE rfl dX12_more_89 h
    · replace h := mj_nn hc7 h
      refine mx_iload (j := 3) hC dX12_more_28 rfl ?_
      refine mx_iflt (tgt := 46) hC dX12_more_30 (by decide) (fun hc8 => ?_) (fun hc8 => ?_)
      · replace h := mj_yy hc8 h
        refine mx_sub (L' := [(0, vR l0), (1, vI l1), (2, vI l2), (4, vI l4), (5, vI l5)]) [0, 1, 2, 3, 4] rfl ?_
        exact show mj_X g 46 [(0, vR l0), (1, vI l1), (2, vI l2), (4, vI l4), (5, vI l5)] [] M 0 0 from (xb_X12_more_46 hC hE ih l0 l1 l2 l4 l5 M h)
      · replace h := mj_nn hc8 h
        refine mx_iload (j := 4) hC dX12_more_33 rfl ?_
        refine mx_callS (inj := mj_jI) (As := [vI l5]) (st := []) hC (ct_X12_ones l5 M _ h) ty_X12_ones tw1585 rfl (Nat.le_of_ble_eq_true rfl) ⟨rfl, rfl, ⟨by decide, by decide⟩, by decide, by decide⟩ dX12_more_35 (fun r9 M10 h => ?_)
        show mj_X g 38 [(0, vR l0), (1, vI l1), (2, vI l2), (4, vI l4), (5, vI l5)] [vI r9] M10 0 0
        refine mx_iload (j := 3) hC dX12_more_38 rfl ?_
        refine mx_callS (inj := mj_jI) (As := [vI l4]) (st := [vI r9]) hC (ct_X12_ones l4 M10 _ h) ty_X12_ones tw1585 rfl (Nat.le_of_ble_eq_true rfl) ⟨rfl, rfl, ⟨by decide, by decide⟩, by decide, by decide⟩ dX12_more_40 (fun r11 M12 h => ?_)
        show mj_X g 43 [(0, vR l0), (1, vI l1), (2, vI l2), (4, vI l4), (5, vI l5)] [vI r11, vI r9] M12 0 0
        refine mx_icmpge (tgt := 50) hC dX12_more_43 (by decide) (fun hc13 => ?_) (fun hc13 => ?_)
        · replace h := mj_yy hc13 h
          refine mx_iconst (v := 0) hC dX12_more_50 (by decide) ?_
          refine mx_sub (L' := [(0, vR l0), (1, vI l1), (2, vI l2), (4, vI l4), (5, vI l5)]) [0, 1, 2, 3, 4] rfl ?_
          exact show mj_X g 51 [(0, vR l0), (1, vI l1), (2, vI l2), (4, vI l4), (5, vI l5)] [vI (mj_b false)] M12 0 0 from (xb_X12_more_51 hC hE ih l0 l1 l2 l4 l5 false M12 h)
        · replace h := mj_nn hc13 h
          refine mx_sub (L' := [(0, vR l0), (1, vI l1), (2, vI l2), (4, vI l4), (5, vI l5)]) [0, 1, 2, 3, 4] rfl ?_
          exact show mj_X g 46 [(0, vR l0), (1, vI l1), (2, vI l2), (4, vI l4), (5, vI l5)] [] M12 0 0 from (xb_X12_more_46 hC hE ih l0 l1 l2 l4 l5 M12 h)
set_option maxHeartbeats 4000000 in
set_option maxRecDepth 100000 in
theorem ct_X12_more {l : Launch} {base : Nat} {D : va_G} {A : ClassId × ClassId × ClassId} (l0 : Nat) (l1 : Int32) (l2 : Int32) (M : mj_M) (post : Int32 → mj_M → Prop) (h : vc_X12_more l0 l1 l2 M post) : mj_Met l base D A mj_jI yX12_more cX12_more 7 (some .int) rm_X12_more 0 0 [vR l0, vI l1, vI l2] M post := by
  refine mj_entry (by decide +kernel) (Nat.le_of_ble_eq_true rfl) (fun g hC hE h1 h2 h3 h4 => ?_)
  show mj_X g 0 [(0, vR l0), (1, vI l1), (2, vI l2)] [] M 0 0
  simp only [vc_X12_more] at h
  refine mx_aload_n (j := 0) hC dX12_more_0 rfl rfl ?_
  refine mx_iload_n (j := 1) hC dX12_more_1 rfl rfl ?_
  refine mx_iload_n (j := 2) hC dX12_more_2 rfl rfl ?_
  obtain ⟨ht14, h⟩ := h
  refine mx_callV (inj := mj_jI) (As := [vI l1, vI l2]) (st := []) hC (ct_X12_whyNotWhole l0 l1 l2 M _ h) ty_X12_whyNotWhole tw1767 ht14 rfl (Nat.le_of_ble_eq_true rfl) ⟨rfl, rfl, ⟨by decide, by decide⟩, by decide, by decide⟩ dX12_more_3 (fun r15 M16 h => ?_)
  show mj_X g 6 [(0, vR l0), (1, vI l1), (2, vI l2)] [vI r15] M16 0 0
  refine mx_istore_n (L' := [(3, vI r15), (0, vR l0), (1, vI l1), (2, vI l2)]) hC dX12_more_6 rfl (by decide) rfl ?_
  refine mx_iload_n (j := 0) hC dX12_more_7 rfl rfl ?_
  refine mx_ifge (tgt := 13) hC dX12_more_8 (by decide) (fun hc17 => ?_) (fun hc17 => ?_)
  · replace h := mj_yy hc17 h
    refine mx_bipush (v := (-6)) hC dX12_more_13 (by decide) ?_
    refine mx_istore (L' := [(4, vI ((-6))), (3, vI r15), (0, vR l0), (1, vI l1), (2, vI l2)]) hC dX12_more_15 (by decide) rfl ?_
    refine mx_iconst (v := 0) hC dX12_more_17 (by decide) ?_
    refine mx_istore (L' := [(5, vI 0), (4, vI ((-6))), (3, vI r15), (0, vR l0), (1, vI l1), (2, vI l2)]) hC dX12_more_18 (by decide) rfl ?_
    refine mx_sub (L' := [(0, vR l0), (1, vI l1), (2, vI l2), (4, vI ((-6))), (5, vI 0)]) [3, 4, 5, 1, 0] rfl ?_
    obtain ⟨fe, h⟩ := h
    exact show mj_X g 20 [(0, vR l0), (1, vI l1), (2, vI l2), (4, vI ((-6))), (5, vI 0)] [] M16 0 0 from (xb_X12_more_20 hC hE fe l0 l1 l2 ((-6)) 0 M16 h)
  · replace h := mj_nn hc17 h
    refine mx_iload_n (j := 0) hC dX12_more_11 rfl rfl ?_
    exact mx_iret hC hE rfl dX12_more_12 h

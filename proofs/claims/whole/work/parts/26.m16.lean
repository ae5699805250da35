/-! methods 16. By program (wip/gen) out of the bytecode: vc_KEY: what must hold of a call; ct_KEY: then the machine does it. -/
theorem tw1233 : (Jvm.Cond.fieldLink "LeaseLandModel" (267 : Nat) "LeaseLandModel" "compared" "I") ∈ mj_tbl := mj_w 1286 (by decide +kernel) (by decide +kernel)
theorem tf_X12_267 : mj_F 12 24 .int false "LeaseLandModel" 267 := ⟨_, tk12, by decide, rfl, rfl, rfl, tw1233⟩
theorem tw1573 : (Jvm.Cond.methodLink "LeaseLandModel" (270 : Nat) ({ cls := "LeaseLandModel", name := "begin", desc := "(I)V" } : Jvm.MethodName)) ∈ mj_tbl := mj_w 1626 (by decide +kernel) (by decide +kernel)
theorem tw1577 : (Jvm.Cond.methodLink "LeaseLandModel" (274 : Nat) ({ cls := "LeaseLandModel", name := "join", desc := "(IZ)V" } : Jvm.MethodName)) ∈ mj_tbl := mj_w 1630 (by decide +kernel) (by decide +kernel)
theorem tw1581 : (Jvm.Cond.methodLink "LeaseLandModel" (278 : Nat) ({ cls := "LeaseLandModel", name := "factOf", desc := "(III)I" } : Jvm.MethodName)) ∈ mj_tbl := mj_w 1634 (by decide +kernel) (by decide +kernel)
theorem tw1576 : (Jvm.Cond.code ({ cls := "LeaseLandModel", name := "begin", desc := "(I)V" } : Jvm.MethodName) prog_14_method_54_code (2 : Nat) (Option.none : Option Jvm.ClassFile.FieldType)) ∈ mj_tbl := mj_w 1629 (by decide +kernel) (by decide +kernel)
theorem tw1575 : (Jvm.Cond.instanceMethod ({ cls := "LeaseLandModel", name := "begin", desc := "(I)V" } : Jvm.MethodName)) ∈ mj_tbl := mj_w 1628 (by decide +kernel) (by decide +kernel)
theorem ty_X12_begin : mj_YV 12 yX12_begin cX12_begin 2 (none) 1 := ⟨⟨tw1576, tw11, by decide +kernel, by decide +kernel, by decide +kernel⟩, tw1575, mj_w 24 (by decide +kernel) (by decide +kernel), _, rfl, rfl⟩
theorem tw1584 : (Jvm.Cond.code ({ cls := "LeaseLandModel", name := "factOf", desc := "(III)I" } : Jvm.MethodName) prog_14_method_52_code (5 : Nat) (Option.some Jvm.ClassFile.FieldType.int)) ∈ mj_tbl := mj_w 1637 (by decide +kernel) (by decide +kernel)
theorem tw1583 : (Jvm.Cond.instanceMethod ({ cls := "LeaseLandModel", name := "factOf", desc := "(III)I" } : Jvm.MethodName)) ∈ mj_tbl := mj_w 1636 (by decide +kernel) (by decide +kernel)
theorem ty_X12_factOf : mj_YV 12 yX12_factOf cX12_factOf 5 (some .int) 3 := ⟨⟨tw1584, tw11, by decide +kernel, by decide +kernel, by decide +kernel⟩, tw1583, mj_w 26 (by decide +kernel) (by decide +kernel), _, rfl, rfl⟩
theorem tw1580 : (Jvm.Cond.code ({ cls := "LeaseLandModel", name := "join", desc := "(IZ)V" } : Jvm.MethodName) prog_14_method_55_code (3 : Nat) (Option.none : Option Jvm.ClassFile.FieldType)) ∈ mj_tbl := mj_w 1633 (by decide +kernel) (by decide +kernel)
theorem tw1579 : (Jvm.Cond.instanceMethod ({ cls := "LeaseLandModel", name := "join", desc := "(IZ)V" } : Jvm.MethodName)) ∈ mj_tbl := mj_w 1632 (by decide +kernel) (by decide +kernel)
theorem ty_X12_join : mj_YV 12 yX12_join cX12_join 3 (none) 2 := ⟨⟨tw1580, tw11, by decide +kernel, by decide +kernel, by decide +kernel⟩, tw1579, mj_w 25 (by decide +kernel) (by decide +kernel), _, rfl, rfl⟩
def rm_X12_holds : Room := { frames := 4, cells := 0, slots := 0, locals := 90 }
theorem dX12_holds_0 : decode cX12_holds 0 = .ok (.iconst 0, 1) := by decide +kernel
theorem dX12_holds_1 : decode cX12_holds 1 = .ok (.istore 5, 2) := by decide +kernel
theorem dX12_holds_3 : decode cX12_holds 3 = .ok (.aload_n 0, 1) := by decide +kernel
theorem dX12_holds_4 : decode cX12_holds 4 = .ok (.iconst 0, 1) := by decide +kernel
theorem dX12_holds_5 : decode cX12_holds 5 = .ok (.putfield 267, 3) := by decide +kernel
theorem dX12_holds_8 : decode cX12_holds 8 = .ok (.aload_n 0, 1) := by decide +kernel
theorem dX12_holds_9 : decode cX12_holds 9 = .ok (.iconst 0, 1) := by decide +kernel
theorem dX12_holds_10 : decode cX12_holds 10 = .ok (.invokevirtual 270, 3) := by decide +kernel
theorem dX12_holds_13 : decode cX12_holds 13 = .ok (.iconst 0, 1) := by decide +kernel
theorem dX12_holds_14 : decode cX12_holds 14 = .ok (.istore 6, 2) := by decide +kernel
theorem dX12_holds_16 : decode cX12_holds 16 = .ok (.iload 6, 2) := by decide +kernel
theorem dX12_holds_18 : decode cX12_holds 18 = .ok (.aload_n 0, 1) := by decide +kernel
theorem dX12_holds_19 : decode cX12_holds 19 = .ok (.getfield 55, 3) := by decide +kernel
theorem dX12_holds_22 : decode cX12_holds 22 = .ok (.iload_n 1, 1) := by decide +kernel
theorem dX12_holds_23 : decode cX12_holds 23 = .ok (.iaload, 1) := by decide +kernel
theorem dX12_holds_24 : decode cX12_holds 24 = .ok (.if_icmp .ge 365, 3) := by decide +kernel
theorem dX12_holds_27 : decode cX12_holds 27 = .ok (.aload_n 0, 1) := by decide +kernel
theorem dX12_holds_28 : decode cX12_holds 28 = .ok (.getfield 52, 3) := by decide +kernel
theorem dX12_holds_31 : decode cX12_holds 31 = .ok (.bipush 48, 2) := by decide +kernel
theorem dX12_holds_33 : decode cX12_holds 33 = .ok (.iload_n 1, 1) := by decide +kernel
theorem dX12_holds_34 : decode cX12_holds 34 = .ok (.imul, 1) := by decide +kernel
theorem dX12_holds_35 : decode cX12_holds 35 = .ok (.iload 6, 2) := by decide +kernel
theorem dX12_holds_37 : decode cX12_holds 37 = .ok (.iadd, 1) := by decide +kernel
theorem dX12_holds_38 : decode cX12_holds 38 = .ok (.iaload, 1) := by decide +kernel
theorem dX12_holds_39 : decode cX12_holds 39 = .ok (.istore 7, 2) := by decide +kernel
theorem dX12_holds_41 : decode cX12_holds 41 = .ok (.iinc 6 1, 3) := by decide +kernel
theorem dX12_holds_44 : decode cX12_holds 44 = .ok (.iload 7, 2) := by decide +kernel
theorem dX12_holds_46 : decode cX12_holds 46 = .ok (.bipush 33, 2) := by decide +kernel
theorem dX12_holds_48 : decode cX12_holds 48 = .ok (.if_icmp .ne 28, 3) := by decide +kernel
theorem dX12_holds_51 : decode cX12_holds 51 = .ok (.aload_n 0, 1) := by decide +kernel
theorem dX12_holds_52 : decode cX12_holds 52 = .ok (.getfield 71, 3) := by decide +kernel
theorem dX12_holds_55 : decode cX12_holds 55 = .ok (.iload 5, 2) := by decide +kernel
theorem dX12_holds_57 : decode cX12_holds 57 = .ok (.aload_n 0, 1) := by decide +kernel
theorem dX12_holds_58 : decode cX12_holds 58 = .ok (.getfield 71, 3) := by decide +kernel
theorem dX12_holds_61 : decode cX12_holds 61 = .ok (.iload 5, 2) := by decide +kernel
theorem dX12_holds_63 : decode cX12_holds 63 = .ok (.baload, 1) := by decide +kernel
theorem dX12_holds_64 : decode cX12_holds 64 = .ok (.ifCond .ne 7, 3) := by decide +kernel
theorem dX12_holds_67 : decode cX12_holds 67 = .ok (.iconst 1, 1) := by decide +kernel
theorem dX12_holds_68 : decode cX12_holds 68 = .ok (.goto 4, 3) := by decide +kernel
theorem dX12_holds_71 : decode cX12_holds 71 = .ok (.iconst 0, 1) := by decide +kernel
theorem dX12_holds_72 : decode cX12_holds 72 = .ok (.bastore, 1) := by decide +kernel
theorem dX12_holds_73 : decode cX12_holds 73 = .ok (.goto 313, 3) := by decide +kernel
theorem dX12_holds_76 : decode cX12_holds 76 = .ok (.iload 7, 2) := by decide +kernel
theorem dX12_holds_78 : decode cX12_holds 78 = .ok (.bipush 40, 2) := by decide +kernel
theorem dX12_holds_80 : decode cX12_holds 80 = .ok (.if_icmp .ne 15, 3) := by decide +kernel
theorem dX12_holds_83 : decode cX12_holds 83 = .ok (.iinc 5 1, 3) := by decide +kernel
theorem dX12_holds_86 : decode cX12_holds 86 = .ok (.aload_n 0, 1) := by decide +kernel
theorem dX12_holds_87 : decode cX12_holds 87 = .ok (.iload 5, 2) := by decide +kernel
theorem dX12_holds_89 : decode cX12_holds 89 = .ok (.invokevirtual 270, 3) := by decide +kernel
theorem dX12_holds_92 : decode cX12_holds 92 = .ok (.goto 294, 3) := by decide +kernel
theorem dX12_holds_95 : decode cX12_holds 95 = .ok (.iload 7, 2) := by decide +kernel
theorem dX12_holds_97 : decode cX12_holds 97 = .ok (.bipush 41, 2) := by decide +kernel
theorem dX12_holds_99 : decode cX12_holds 99 = .ok (.if_icmp .ne 44, 3) := by decide +kernel
theorem dX12_holds_102 : decode cX12_holds 102 = .ok (.aload_n 0, 1) := by decide +kernel
theorem dX12_holds_103 : decode cX12_holds 103 = .ok (.getfield 64, 3) := by decide +kernel
theorem dX12_holds_106 : decode cX12_holds 106 = .ok (.iload 5, 2) := by decide +kernel
theorem dX12_holds_108 : decode cX12_holds 108 = .ok (.baload, 1) := by decide +kernel
theorem dX12_holds_109 : decode cX12_holds 109 = .ok (.ifCond .ne 13, 3) := by decide +kernel
theorem dX12_holds_112 : decode cX12_holds 112 = .ok (.aload_n 0, 1) := by decide +kernel
theorem dX12_holds_113 : decode cX12_holds 113 = .ok (.getfield 68, 3) := by decide +kernel
theorem dX12_holds_116 : decode cX12_holds 116 = .ok (.iload 5, 2) := by decide +kernel
theorem dX12_holds_118 : decode cX12_holds 118 = .ok (.baload, 1) := by decide +kernel
theorem dX12_holds_119 : decode cX12_holds 119 = .ok (.ifCond .eq 7, 3) := by decide +kernel
theorem dX12_holds_122 : decode cX12_holds 122 = .ok (.iconst 1, 1) := by decide +kernel
theorem dX12_holds_123 : decode cX12_holds 123 = .ok (.goto 4, 3) := by decide +kernel
theorem dX12_holds_126 : decode cX12_holds 126 = .ok (.iconst 0, 1) := by decide +kernel
theorem dX12_holds_127 : decode cX12_holds 127 = .ok (.istore 8, 2) := by decide +kernel
theorem dX12_holds_129 : decode cX12_holds 129 = .ok (.iinc 5 (-1), 3) := by decide +kernel
theorem dX12_holds_132 : decode cX12_holds 132 = .ok (.aload_n 0, 1) := by decide +kernel
theorem dX12_holds_133 : decode cX12_holds 133 = .ok (.iload 5, 2) := by decide +kernel
theorem dX12_holds_135 : decode cX12_holds 135 = .ok (.iload 8, 2) := by decide +kernel
theorem dX12_holds_137 : decode cX12_holds 137 = .ok (.invokevirtual 274, 3) := by decide +kernel
theorem dX12_holds_140 : decode cX12_holds 140 = .ok (.goto 246, 3) := by decide +kernel
theorem dX12_holds_143 : decode cX12_holds 143 = .ok (.iload 7, 2) := by decide +kernel
theorem dX12_holds_145 : decode cX12_holds 145 = .ok (.bipush 124, 2) := by decide +kernel
theorem dX12_holds_147 : decode cX12_holds 147 = .ok (.if_icmp .ne 46, 3) := by decide +kernel
theorem dX12_holds_150 : decode cX12_holds 150 = .ok (.aload_n 0, 1) := by decide +kernel
theorem dX12_holds_151 : decode cX12_holds 151 = .ok (.getfield 64, 3) := by decide +kernel
theorem dX12_holds_154 : decode cX12_holds 154 = .ok (.iload 5, 2) := by decide +kernel
theorem dX12_holds_156 : decode cX12_holds 156 = .ok (.aload_n 0, 1) := by decide +kernel
theorem dX12_holds_157 : decode cX12_holds 157 = .ok (.getfield 64, 3) := by decide +kernel
theorem dX12_holds_160 : decode cX12_holds 160 = .ok (.iload 5, 2) := by decide +kernel
theorem dX12_holds_162 : decode cX12_holds 162 = .ok (.baload, 1) := by decide +kernel
theorem dX12_holds_163 : decode cX12_holds 163 = .ok (.ifCond .ne 13, 3) := by decide +kernel
theorem dX12_holds_166 : decode cX12_holds 166 = .ok (.aload_n 0, 1) := by decide +kernel
theorem dX12_holds_167 : decode cX12_holds 167 = .ok (.getfield 68, 3) := by decide +kernel
theorem dX12_holds_170 : decode cX12_holds 170 = .ok (.iload 5, 2) := by decide +kernel
theorem dX12_holds_172 : decode cX12_holds 172 = .ok (.baload, 1) := by decide +kernel
theorem dX12_holds_173 : decode cX12_holds 173 = .ok (.ifCond .eq 7, 3) := by decide +kernel
theorem dX12_holds_176 : decode cX12_holds 176 = .ok (.iconst 1, 1) := by decide +kernel
theorem dX12_holds_177 : decode cX12_holds 177 = .ok (.goto 4, 3) := by decide +kernel
theorem dX12_holds_180 : decode cX12_holds 180 = .ok (.iconst 0, 1) := by decide +kernel
theorem dX12_holds_181 : decode cX12_holds 181 = .ok (.bastore, 1) := by decide +kernel
theorem dX12_holds_182 : decode cX12_holds 182 = .ok (.aload_n 0, 1) := by decide +kernel
theorem dX12_holds_183 : decode cX12_holds 183 = .ok (.getfield 68, 3) := by decide +kernel
theorem dX12_holds_186 : decode cX12_holds 186 = .ok (.iload 5, 2) := by decide +kernel
theorem dX12_holds_188 : decode cX12_holds 188 = .ok (.iconst 1, 1) := by decide +kernel
theorem dX12_holds_189 : decode cX12_holds 189 = .ok (.bastore, 1) := by decide +kernel
theorem dX12_holds_190 : decode cX12_holds 190 = .ok (.goto 196, 3) := by decide +kernel
theorem dX12_holds_193 : decode cX12_holds 193 = .ok (.iload 7, 2) := by decide +kernel
theorem dX12_holds_195 : decode cX12_holds 195 = .ok (.bipush 38, 2) := by decide +kernel
theorem dX12_holds_197 : decode cX12_holds 197 = .ok (.if_icmp .eq 189, 3) := by decide +kernel
theorem dX12_holds_200 : decode cX12_holds 200 = .ok (.aload_n 0, 1) := by decide +kernel
theorem dX12_holds_201 : decode cX12_holds 201 = .ok (.getfield 52, 3) := by decide +kernel
theorem dX12_holds_204 : decode cX12_holds 204 = .ok (.bipush 48, 2) := by decide +kernel
theorem dX12_holds_206 : decode cX12_holds 206 = .ok (.iload_n 1, 1) := by decide +kernel
theorem dX12_holds_207 : decode cX12_holds 207 = .ok (.imul, 1) := by decide +kernel
theorem dX12_holds_208 : decode cX12_holds 208 = .ok (.iload 6, 2) := by decide +kernel
theorem dX12_holds_210 : decode cX12_holds 210 = .ok (.iadd, 1) := by decide +kernel
theorem dX12_holds_211 : decode cX12_holds 211 = .ok (.iaload, 1) := by decide +kernel
theorem dX12_holds_212 : decode cX12_holds 212 = .ok (.istore 8, 2) := by decide +kernel
theorem dX12_holds_214 : decode cX12_holds 214 = .ok (.iinc 6 1, 3) := by decide +kernel
theorem dX12_holds_217 : decode cX12_holds 217 = .ok (.iconst 0, 1) := by decide +kernel
theorem dX12_holds_218 : decode cX12_holds 218 = .ok (.istore 9, 2) := by decide +kernel
theorem dX12_holds_220 : decode cX12_holds 220 = .ok (.iload 6, 2) := by decide +kernel
theorem dX12_holds_222 : decode cX12_holds 222 = .ok (.aload_n 0, 1) := by decide +kernel
theorem dX12_holds_223 : decode cX12_holds 223 = .ok (.getfield 55, 3) := by decide +kernel
theorem dX12_holds_226 : decode cX12_holds 226 = .ok (.iload_n 1, 1) := by decide +kernel
theorem dX12_holds_227 : decode cX12_holds 227 = .ok (.iaload, 1) := by decide +kernel
theorem dX12_holds_228 : decode cX12_holds 228 = .ok (.if_icmp .ge 50, 3) := by decide +kernel
theorem dX12_holds_231 : decode cX12_holds 231 = .ok (.aload_n 0, 1) := by decide +kernel
theorem dX12_holds_232 : decode cX12_holds 232 = .ok (.getfield 52, 3) := by decide +kernel
theorem dX12_holds_235 : decode cX12_holds 235 = .ok (.bipush 48, 2) := by decide +kernel
theorem dX12_holds_237 : decode cX12_holds 237 = .ok (.iload_n 1, 1) := by decide +kernel
theorem dX12_holds_238 : decode cX12_holds 238 = .ok (.imul, 1) := by decide +kernel
theorem dX12_holds_239 : decode cX12_holds 239 = .ok (.iload 6, 2) := by decide +kernel
theorem dX12_holds_241 : decode cX12_holds 241 = .ok (.iadd, 1) := by decide +kernel
theorem dX12_holds_242 : decode cX12_holds 242 = .ok (.iaload, 1) := by decide +kernel
theorem dX12_holds_243 : decode cX12_holds 243 = .ok (.invokestatic 243, 3) := by decide +kernel
theorem dX12_holds_246 : decode cX12_holds 246 = .ok (.ifCond .eq 32, 3) := by decide +kernel
theorem dX12_holds_249 : decode cX12_holds 249 = .ok (.bipush 10, 2) := by decide +kernel
theorem dX12_holds_251 : decode cX12_holds 251 = .ok (.iload 9, 2) := by decide +kernel
theorem dX12_holds_253 : decode cX12_holds 253 = .ok (.imul, 1) := by decide +kernel
theorem dX12_holds_254 : decode cX12_holds 254 = .ok (.aload_n 0, 1) := by decide +kernel
theorem dX12_holds_255 : decode cX12_holds 255 = .ok (.getfield 52, 3) := by decide +kernel
theorem dX12_holds_258 : decode cX12_holds 258 = .ok (.bipush 48, 2) := by decide +kernel
theorem dX12_holds_260 : decode cX12_holds 260 = .ok (.iload_n 1, 1) := by decide +kernel
theorem dX12_holds_261 : decode cX12_holds 261 = .ok (.imul, 1) := by decide +kernel
theorem dX12_holds_262 : decode cX12_holds 262 = .ok (.iload 6, 2) := by decide +kernel
theorem dX12_holds_264 : decode cX12_holds 264 = .ok (.iadd, 1) := by decide +kernel
theorem dX12_holds_265 : decode cX12_holds 265 = .ok (.iaload, 1) := by decide +kernel
theorem dX12_holds_266 : decode cX12_holds 266 = .ok (.iadd, 1) := by decide +kernel
theorem dX12_holds_267 : decode cX12_holds 267 = .ok (.bipush 48, 2) := by decide +kernel
theorem dX12_holds_269 : decode cX12_holds 269 = .ok (.isub, 1) := by decide +kernel
theorem dX12_holds_270 : decode cX12_holds 270 = .ok (.istore 9, 2) := by decide +kernel
theorem dX12_holds_272 : decode cX12_holds 272 = .ok (.iinc 6 1, 3) := by decide +kernel
theorem dX12_holds_275 : decode cX12_holds 275 = .ok (.goto (-55), 3) := by decide +kernel
theorem dX12_holds_278 : decode cX12_holds 278 = .ok (.aload_n 0, 1) := by decide +kernel
theorem dX12_holds_279 : decode cX12_holds 279 = .ok (.iload_n 2, 1) := by decide +kernel
theorem dX12_holds_280 : decode cX12_holds 280 = .ok (.iload 7, 2) := by decide +kernel
theorem dX12_holds_282 : decode cX12_holds 282 = .ok (.iload_n 3, 1) := by decide +kernel
theorem dX12_holds_283 : decode cX12_holds 283 = .ok (.invokevirtual 278, 3) := by decide +kernel
theorem dX12_holds_286 : decode cX12_holds 286 = .ok (.istore 10, 2) := by decide +kernel
theorem dX12_holds_288 : decode cX12_holds 288 = .ok (.iload 8, 2) := by decide +kernel
theorem dX12_holds_290 : decode cX12_holds 290 = .ok (.bipush 60, 2) := by decide +kernel
theorem dX12_holds_292 : decode cX12_holds 292 = .ok (.if_icmp .ne 18, 3) := by decide +kernel
theorem dX12_holds_295 : decode cX12_holds 295 = .ok (.iload 10, 2) := by decide +kernel
theorem dX12_holds_297 : decode cX12_holds 297 = .ok (.iload 9, 2) := by decide +kernel
theorem dX12_holds_299 : decode cX12_holds 299 = .ok (.if_icmp .ge 7, 3) := by decide +kernel
theorem dX12_holds_302 : decode cX12_holds 302 = .ok (.iconst 1, 1) := by decide +kernel
theorem dX12_holds_303 : decode cX12_holds 303 = .ok (.goto 41, 3) := by decide +kernel
theorem dX12_holds_306 : decode cX12_holds 306 = .ok (.iconst 0, 1) := by decide +kernel
theorem dX12_holds_307 : decode cX12_holds 307 = .ok (.goto 37, 3) := by decide +kernel
theorem dX12_holds_310 : decode cX12_holds 310 = .ok (.iload 8, 2) := by decide +kernel
theorem dX12_holds_312 : decode cX12_holds 312 = .ok (.bipush 62, 2) := by decide +kernel
theorem dX12_holds_314 : decode cX12_holds 314 = .ok (.if_icmp .ne 18, 3) := by decide +kernel
theorem dX12_holds_317 : decode cX12_holds 317 = .ok (.iload 10, 2) := by decide +kernel
theorem dX12_holds_319 : decode cX12_holds 319 = .ok (.iload 9, 2) := by decide +kernel
theorem dX12_holds_321 : decode cX12_holds 321 = .ok (.if_icmp .le 7, 3) := by decide +kernel
theorem dX12_holds_324 : decode cX12_holds 324 = .ok (.iconst 1, 1) := by decide +kernel
theorem dX12_holds_325 : decode cX12_holds 325 = .ok (.goto 19, 3) := by decide +kernel
theorem dX12_holds_328 : decode cX12_holds 328 = .ok (.iconst 0, 1) := by decide +kernel
theorem dX12_holds_329 : decode cX12_holds 329 = .ok (.goto 15, 3) := by decide +kernel
theorem dX12_holds_332 : decode cX12_holds 332 = .ok (.iload 10, 2) := by decide +kernel
theorem dX12_holds_334 : decode cX12_holds 334 = .ok (.iload 9, 2) := by decide +kernel
theorem dX12_holds_336 : decode cX12_holds 336 = .ok (.if_icmp .ne 7, 3) := by decide +kernel
theorem dX12_holds_339 : decode cX12_holds 339 = .ok (.iconst 1, 1) := by decide +kernel
theorem dX12_holds_340 : decode cX12_holds 340 = .ok (.goto 4, 3) := by decide +kernel
theorem dX12_holds_343 : decode cX12_holds 343 = .ok (.iconst 0, 1) := by decide +kernel
theorem dX12_holds_344 : decode cX12_holds 344 = .ok (.istore 11, 2) := by decide +kernel
theorem dX12_holds_346 : decode cX12_holds 346 = .ok (.aload_n 0, 1) := by decide +kernel
theorem dX12_holds_347 : decode cX12_holds 347 = .ok (.iload 5, 2) := by decide +kernel
theorem dX12_holds_349 : decode cX12_holds 349 = .ok (.iload 11, 2) := by decide +kernel
theorem dX12_holds_351 : decode cX12_holds 351 = .ok (.aload_n 0, 1) := by decide +kernel
theorem dX12_holds_352 : decode cX12_holds 352 = .ok (.getfield 267, 3) := by decide +kernel
theorem dX12_holds_355 : decode cX12_holds 355 = .ok (.iload 4, 2) := by decide +kernel
theorem dX12_holds_357 : decode cX12_holds 357 = .ok (.if_icmp .ne 7, 3) := by decide +kernel
theorem dX12_holds_360 : decode cX12_holds 360 = .ok (.iconst 1, 1) := by decide +kernel
theorem dX12_holds_361 : decode cX12_holds 361 = .ok (.goto 4, 3) := by decide +kernel
theorem dX12_holds_364 : decode cX12_holds 364 = .ok (.iconst 0, 1) := by decide +kernel
theorem dX12_holds_365 : decode cX12_holds 365 = .ok (.if_icmp .eq 7, 3) := by decide +kernel
theorem dX12_holds_368 : decode cX12_holds 368 = .ok (.iconst 1, 1) := by decide +kernel
theorem dX12_holds_369 : decode cX12_holds 369 = .ok (.goto 4, 3) := by decide +kernel
theorem dX12_holds_372 : decode cX12_holds 372 = .ok (.iconst 0, 1) := by decide +kernel
theorem dX12_holds_373 : decode cX12_holds 373 = .ok (.invokevirtual 274, 3) := by decide +kernel
theorem dX12_holds_376 : decode cX12_holds 376 = .ok (.aload_n 0, 1) := by decide +kernel
theorem dX12_holds_377 : decode cX12_holds 377 = .ok (.dup, 1) := by decide +kernel
theorem dX12_holds_378 : decode cX12_holds 378 = .ok (.getfield 267, 3) := by decide +kernel
theorem dX12_holds_381 : decode cX12_holds 381 = .ok (.iconst 1, 1) := by decide +kernel
theorem dX12_holds_382 : decode cX12_holds 382 = .ok (.iadd, 1) := by decide +kernel
theorem dX12_holds_383 : decode cX12_holds 383 = .ok (.putfield 267, 3) := by decide +kernel
theorem dX12_holds_386 : decode cX12_holds 386 = .ok (.goto (-370), 3) := by decide +kernel
theorem dX12_holds_389 : decode cX12_holds 389 = .ok (.aload_n 0, 1) := by decide +kernel
theorem dX12_holds_390 : decode cX12_holds 390 = .ok (.getfield 64, 3) := by decide +kernel
theorem dX12_holds_393 : decode cX12_holds 393 = .ok (.iconst 0, 1) := by decide +kernel
theorem dX12_holds_394 : decode cX12_holds 394 = .ok (.baload, 1) := by decide +kernel
theorem dX12_holds_395 : decode cX12_holds 395 = .ok (.ifCond .ne 12, 3) := by decide +kernel
theorem dX12_holds_398 : decode cX12_holds 398 = .ok (.aload_n 0, 1) := by decide +kernel
theorem dX12_holds_399 : decode cX12_holds 399 = .ok (.getfield 68, 3) := by decide +kernel
theorem dX12_holds_402 : decode cX12_holds 402 = .ok (.iconst 0, 1) := by decide +kernel
theorem dX12_holds_403 : decode cX12_holds 403 = .ok (.baload, 1) := by decide +kernel
theorem dX12_holds_404 : decode cX12_holds 404 = .ok (.ifCond .eq 7, 3) := by decide +kernel
theorem dX12_holds_407 : decode cX12_holds 407 = .ok (.iconst 1, 1) := by decide +kernel
theorem dX12_holds_408 : decode cX12_holds 408 = .ok (.goto 4, 3) := by decide +kernel
theorem dX12_holds_411 : decode cX12_holds 411 = .ok (.iconst 0, 1) := by decide +kernel
theorem dX12_holds_412 : decode cX12_holds 412 = .ok (.ireturn, 1) := by decide +kernel
def vb_X12_holds_127 (k16 : Nat → Int32 → Int32 → Int32 → Int32 → Int32 → Int32 → mj_M → Prop) (post : Bool → mj_M → Prop) (l0 : Nat) (l1 : Int32) (l2 : Int32) (l3 : Int32) (l4 : Int32) (l5 : Int32) (l6 : Int32) (s0 : Bool) (M : mj_M) : Prop := mj_tag M l0 = 13 ∧ vc_X12_join l0 (l5 + (-1)) s0 M (fun _ M2 => k16 l0 l1 l2 l3 l4 (l5 + (-1)) l6 M2)
def vb_X12_holds_122 (k16 : Nat → Int32 → Int32 → Int32 → Int32 → Int32 → Int32 → mj_M → Prop) (post : Bool → mj_M → Prop) (l0 : Nat) (l1 : Int32) (l2 : Int32) (l3 : Int32) (l4 : Int32) (l5 : Int32) (l6 : Int32) (M : mj_M) : Prop := vb_X12_holds_127 k16 post l0 l1 l2 l3 l4 l5 l6 true M
def vb_X12_holds_181 (k16 : Nat → Int32 → Int32 → Int32 → Int32 → Int32 → Int32 → mj_M → Prop) (post : Bool → mj_M → Prop) (l0 : Nat) (l1 : Int32) (l2 : Int32) (l3 : Int32) (l4 : Int32) (l5 : Int32) (l6 : Int32) (s0 : Nat) (s1 : Int32) (s2 : Bool) (M : mj_M) : Prop := mj_tag M s0 = 103 ∧ vp_in s1 (mj_len M s0) ∧ mj_tag M l0 = 13 ∧ mj_tag M (mj_r M l0 22) = 103 ∧ vp_in l5 (mj_len M (mj_r M l0 22)) ∧ k16 l0 l1 l2 l3 l4 l5 l6 (mj_wi (mj_wi M s0 (s1 : Int32).toNatClampNeg (mj_b s2)) (mj_r M l0 22) (l5 : Int32).toNatClampNeg (mj_b true))
def vb_X12_holds_176 (k16 : Nat → Int32 → Int32 → Int32 → Int32 → Int32 → Int32 → mj_M → Prop) (post : Bool → mj_M → Prop) (l0 : Nat) (l1 : Int32) (l2 : Int32) (l3 : Int32) (l4 : Int32) (l5 : Int32) (l6 : Int32) (s0 : Nat) (s1 : Int32) (M : mj_M) : Prop := vb_X12_holds_181 k16 post l0 l1 l2 l3 l4 l5 l6 s0 s1 true M
def vb_X12_holds_373 (k16 : Nat → Int32 → Int32 → Int32 → Int32 → Int32 → Int32 → mj_M → Prop) (post : Bool → mj_M → Prop) (l0 : Nat) (l1 : Int32) (l2 : Int32) (l3 : Int32) (l4 : Int32) (l5 : Int32) (l6 : Int32) (s0 : Nat) (s1 : Int32) (s2 : Bool) (M : mj_M) : Prop := mj_tag M s0 = 13 ∧ vc_X12_join s0 s1 s2 M (fun _ M9 => mj_tag M9 l0 = 13 ∧ k16 l0 l1 l2 l3 l4 l5 l6 (mj_wi M9 l0 24 ((mj_i M9 l0 24) + 1)))
def vb_X12_holds_365 (k16 : Nat → Int32 → Int32 → Int32 → Int32 → Int32 → Int32 → mj_M → Prop) (post : Bool → mj_M → Prop) (l0 : Nat) (l1 : Int32) (l2 : Int32) (l3 : Int32) (l4 : Int32) (l5 : Int32) (l6 : Int32) (s0 : Nat) (s1 : Int32) (s2 : Bool) (s3 : Bool) (M : mj_M) : Prop := if (mj_b s2) = (mj_b s3) then (vb_X12_holds_373 k16 post l0 l1 l2 l3 l4 l5 l6 s0 s1 false M) else (vb_X12_holds_373 k16 post l0 l1 l2 l3 l4 l5 l6 s0 s1 true M)
def vb_X12_holds_344 (k16 : Nat → Int32 → Int32 → Int32 → Int32 → Int32 → Int32 → mj_M → Prop) (post : Bool → mj_M → Prop) (l0 : Nat) (l1 : Int32) (l2 : Int32) (l3 : Int32) (l4 : Int32) (l5 : Int32) (l6 : Int32) (s0 : Bool) (M : mj_M) : Prop := mj_tag M l0 = 13 ∧ if (mj_i M l0 24) = l4 then (vb_X12_holds_365 k16 post l0 l1 l2 l3 l4 l5 l6 l0 l5 s0 true M) else (vb_X12_holds_365 k16 post l0 l1 l2 l3 l4 l5 l6 l0 l5 s0 false M)
def vb_X12_holds_278 (k16 : Nat → Int32 → Int32 → Int32 → Int32 → Int32 → Int32 → mj_M → Prop) (post : Bool → mj_M → Prop) (l0 : Nat) (l1 : Int32) (l2 : Int32) (l3 : Int32) (l4 : Int32) (l5 : Int32) (l6 : Int32) (l7 : Int32) (l8 : Int32) (l9 : Int32) (M : mj_M) : Prop := mj_tag M l0 = 13 ∧ vc_X12_factOf l0 l2 l7 l3 M (fun r15 M16 => if l8 = 60 then (if l9 ≤ r15 then (vb_X12_holds_344 k16 post l0 l1 l2 l3 l4 l5 l6 false M16) else (vb_X12_holds_344 k16 post l0 l1 l2 l3 l4 l5 l6 true M16)) else (if l8 = 62 then (if r15 ≤ l9 then (vb_X12_holds_344 k16 post l0 l1 l2 l3 l4 l5 l6 false M16) else (vb_X12_holds_344 k16 post l0 l1 l2 l3 l4 l5 l6 true M16)) else (if r15 = l9 then (vb_X12_holds_344 k16 post l0 l1 l2 l3 l4 l5 l6 true M16) else (vb_X12_holds_344 k16 post l0 l1 l2 l3 l4 l5 l6 false M16))))
def vb_X12_holds_220 (k16 : Nat → Int32 → Int32 → Int32 → Int32 → Int32 → Int32 → mj_M → Prop) (post : Bool → mj_M → Prop) : Nat → Nat → Int32 → Int32 → Int32 → Int32 → Int32 → Int32 → Int32 → Int32 → Int32 → mj_M → Prop
  | 0 => fun _ _ _ _ _ _ _ _ _ _ _ => False
  | f + 1 => fun l0 l1 l2 l3 l4 l5 l6 l7 l8 l9 M => mj_tag M l0 = 13 ∧ mj_tag M (mj_r M l0 17) = 101 ∧ vp_in l1 (mj_len M (mj_r M l0 17)) ∧ if (mj_i M (mj_r M l0 17) (l1 : Int32).toNatClampNeg) ≤ l6 then (vb_X12_holds_278 k16 post l0 l1 l2 l3 l4 l5 l6 l7 l8 l9 M) else (mj_tag M (mj_r M l0 16) = 101 ∧ vp_in ((48 * l1) + l6) (mj_len M (mj_r M l0 16)) ∧ vc_X12_isDigit (mj_i M (mj_r M l0 16) ((48 * l1) + l6 : Int32).toNatClampNeg) M (fun r28 M29 => if r28 = true then (mj_tag M29 l0 = 13 ∧ mj_tag M29 (mj_r M29 l0 16) = 101 ∧ vp_in ((48 * l1) + l6) (mj_len M29 (mj_r M29 l0 16)) ∧ vb_X12_holds_220 k16 post f l0 l1 l2 l3 l4 l5 (l6 + 1) l7 l8 (((10 * l9) + (mj_i M29 (mj_r M29 l0 16) ((48 * l1) + l6 : Int32).toNatClampNeg)) - 48) M29) else (vb_X12_holds_278 k16 post l0 l1 l2 l3 l4 l5 l6 l7 l8 l9 M29)))
def vb_X12_holds_16 (post : Bool → mj_M → Prop) : Nat → Nat → Int32 → Int32 → Int32 → Int32 → Int32 → Int32 → mj_M → Prop
  | 0 => fun _ _ _ _ _ _ _ _ => False
  | f + 1 => fun l0 l1 l2 l3 l4 l5 l6 M => mj_tag M l0 = 13 ∧ mj_tag M (mj_r M l0 17) = 101 ∧ vp_in l1 (mj_len M (mj_r M l0 17)) ∧ if (mj_i M (mj_r M l0 17) (l1 : Int32).toNatClampNeg) ≤ l6 then (mj_tag M (mj_r M l0 21) = 103 ∧ vp_in 0 (mj_len M (mj_r M l0 21)) ∧ if (mj_i M (mj_r M l0 21) (0 : Int32).toNatClampNeg) = 0 then (mj_tag M (mj_r M l0 22) = 103 ∧ vp_in 0 (mj_len M (mj_r M l0 22)) ∧ if (mj_i M (mj_r M l0 22) (0 : Int32).toNatClampNeg) = 0 then (post false M) else (post true M)) else (post true M)) else (mj_tag M (mj_r M l0 16) = 101 ∧ vp_in ((48 * l1) + l6) (mj_len M (mj_r M l0 16)) ∧ if (mj_i M (mj_r M l0 16) ((48 * l1) + l6 : Int32).toNatClampNeg) = 33 then (mj_tag M (mj_r M l0 23) = 103 ∧ vp_in l5 (mj_len M (mj_r M l0 23)) ∧ if (mj_i M (mj_r M l0 23) (l5 : Int32).toNatClampNeg) = 0 then (vb_X12_holds_16 post f l0 l1 l2 l3 l4 l5 (l6 + 1) (mj_wi M (mj_r M l0 23) (l5 : Int32).toNatClampNeg (mj_b true))) else (vb_X12_holds_16 post f l0 l1 l2 l3 l4 l5 (l6 + 1) (mj_wi M (mj_r M l0 23) (l5 : Int32).toNatClampNeg (mj_b false)))) else (if (mj_i M (mj_r M l0 16) ((48 * l1) + l6 : Int32).toNatClampNeg) = 40 then (vc_X12_begin l0 (l5 + 1) M (fun _ M64 => vb_X12_holds_16 post f l0 l1 l2 l3 l4 (l5 + 1) (l6 + 1) M64)) else (if (mj_i M (mj_r M l0 16) ((48 * l1) + l6 : Int32).toNatClampNeg) = 41 then (mj_tag M (mj_r M l0 21) = 103 ∧ vp_in l5 (mj_len M (mj_r M l0 21)) ∧ if (mj_i M (mj_r M l0 21) (l5 : Int32).toNatClampNeg) = 0 then (mj_tag M (mj_r M l0 22) = 103 ∧ vp_in l5 (mj_len M (mj_r M l0 22)) ∧ if (mj_i M (mj_r M l0 22) (l5 : Int32).toNatClampNeg) = 0 then (vb_X12_holds_127 (vb_X12_holds_16 post f) post l0 l1 l2 l3 l4 l5 (l6 + 1) false M) else (vb_X12_holds_122 (vb_X12_holds_16 post f) post l0 l1 l2 l3 l4 l5 (l6 + 1) M)) else (vb_X12_holds_122 (vb_X12_holds_16 post f) post l0 l1 l2 l3 l4 l5 (l6 + 1) M)) else (if (mj_i M (mj_r M l0 16) ((48 * l1) + l6 : Int32).toNatClampNeg) = 124 then (mj_tag M (mj_r M l0 21) = 103 ∧ vp_in l5 (mj_len M (mj_r M l0 21)) ∧ if (mj_i M (mj_r M l0 21) (l5 : Int32).toNatClampNeg) = 0 then (mj_tag M (mj_r M l0 22) = 103 ∧ vp_in l5 (mj_len M (mj_r M l0 22)) ∧ if (mj_i M (mj_r M l0 22) (l5 : Int32).toNatClampNeg) = 0 then (vb_X12_holds_181 (vb_X12_holds_16 post f) post l0 l1 l2 l3 l4 l5 (l6 + 1) (mj_r M l0 21) l5 false M) else (vb_X12_holds_176 (vb_X12_holds_16 post f) post l0 l1 l2 l3 l4 l5 (l6 + 1) (mj_r M l0 21) l5 M)) else (vb_X12_holds_176 (vb_X12_holds_16 post f) post l0 l1 l2 l3 l4 l5 (l6 + 1) (mj_r M l0 21) l5 M)) else (if (mj_i M (mj_r M l0 16) ((48 * l1) + l6 : Int32).toNatClampNeg) = 38 then (vb_X12_holds_16 post f l0 l1 l2 l3 l4 l5 (l6 + 1) M) else (vp_in ((48 * l1) + (l6 + 1)) (mj_len M (mj_r M l0 16)) ∧ ∃ fe, vb_X12_holds_220 (vb_X12_holds_16 post f) post fe l0 l1 l2 l3 l4 l5 ((l6 + 1) + 1) (mj_i M (mj_r M l0 16) ((48 * l1) + l6 : Int32).toNatClampNeg) (mj_i M (mj_r M l0 16) ((48 * l1) + (l6 + 1) : Int32).toNatClampNeg) 0 M))))))
def vc_X12_holds (l0 : Nat) (l1 : Int32) (l2 : Int32) (l3 : Int32) (l4 : Int32) (M : mj_M) (post : Bool → mj_M → Prop) : Prop := mj_tag M l0 = 13 ∧ vc_X12_begin l0 0 (mj_wi M l0 24 0) (fun _ M69 => ∃ fe, vb_X12_holds_16 post fe l0 l1 l2 l3 l4 0 0 M69)
set_option maxHeartbeats 4000000 in
set_option maxRecDepth 100000 in
theorem xb_X12_holds_127 {g : mj_G} {post : Bool → mj_M → Prop} (hC : mj_C g yX12_holds cX12_holds 12 (some .boolean) rm_X12_holds) (hE : mj_E g mj_jB post 0 0) {k16 : Nat → Int32 → Int32 → Int32 → Int32 → Int32 → Int32 → mj_M → Prop} (hk16 : ∀ (l0 : Nat) (l1 : Int32) (l2 : Int32) (l3 : Int32) (l4 : Int32) (l5 : Int32) (l6 : Int32) (M : mj_M), k16 l0 l1 l2 l3 l4 l5 l6 M → mj_X g 16 [(0, vR l0), (1, vI l1), (2, vI l2), (3, vI l3), (4, vI l4), (5, vI l5), (6, vI l6)] [] M 0 0) (l0 : Nat) (l1 : Int32) (l2 : Int32) (l3 : Int32) (l4 : Int32) (l5 : Int32) (l6 : Int32) (s0 : Bool) (M : mj_M) (h : vb_X12_holds_127 k16 post l0 l1 l2 l3 l4 l5 l6 s0 M) : mj_X g 127 [(0, vR l0), (1, vI l1), (2, vI l2), (3, vI l3), (4, vI l4), (5, vI l5), (6, vI l6)] [vI (mj_b s0)] M 0 0 := by
  simp only [vb_X12_holds_127] at h
  refine mx_istore (L' := [(8, vI (mj_b s0)), (0, vR l0), (1, vI l1), (2, vI l2), (3, vI l3), (4, vI l4), (5, vI l5), (6, vI l6)]) hC dX12_holds_127 (by decide) rfl ?_
  refine mx_iinc (j := 6) (v := l5 + (-1)) (L' := [(5, vI (l5 + (-1))), (8, vI (mj_b s0)), (0, vR l0), (1, vI l1), (2, vI l2), (3, vI l3), (4, vI l4), (6, vI l6)]) hC dX12_holds_129 rfl rfl (by decide) rfl ?_
  refine mx_aload_n (j := 2) hC dX12_holds_132 rfl rfl ?_
  refine mx_iload (j := 0) hC dX12_holds_133 rfl ?_
  refine mx_iload (j := 1) hC dX12_holds_135 rfl ?_
  obtain ⟨ht1, h⟩ := h
  refine mx_callV (inj := mj_jV) (As := [vI (l5 + (-1)), vI (mj_b s0)]) (st := []) hC (ct_X12_join l0 (l5 + (-1)) s0 M _ h) ty_X12_join tw1577 ht1 rfl (Nat.le_of_ble_eq_true rfl) ⟨rfl, rfl, ⟨by decide, by decide⟩, by decide, by decide⟩ dX12_holds_137 (fun _ M2 h => ?_)
  show mj_X g 140 [(5, vI (l5 + (-1))), (8, vI (mj_b s0)), (0, vR l0), (1, vI l1), (2, vI l2), (3, vI l3), (4, vI l4), (6, vI l6)] [] M2 0 0
  refine mx_goto (tgt := 386) hC dX12_holds_140 (by decide) ?_
  refine mx_goto (tgt := 16) hC dX12_holds_386 (by decide) ?_
  refine mx_sub (L' := [(0, vR l0), (1, vI l1), (2, vI l2), (3, vI l3), (4, vI l4), (5, vI (l5 + (-1))), (6, vI l6)]) [2, 3, 4, 5, 6, 0, 7] rfl ?_
  exact show mj_X g 16 [(0, vR l0), (1, vI l1), (2, vI l2), (3, vI l3), (4, vI l4), (5, vI (l5 + (-1))), (6, vI l6)] [] M2 0 0 from (hk16 l0 l1 l2 l3 l4 (l5 + (-1)) l6 M2 h)
set_option maxHeartbeats 4000000 in
set_option maxRecDepth 100000 in
theorem xb_X12_holds_122 {g : mj_G} {post : Bool → mj_M → Prop} (hC : mj_C g yX12_holds cX12_holds 12 (some .boolean) rm_X12_holds) (hE : mj_E g mj_jB post 0 0) {k16 : Nat → Int32 → Int32 → Int32 → Int32 → Int32 → Int32 → mj_M → Prop} (hk16 : ∀ (l0 : Nat) (l1 : Int32) (l2 : Int32) (l3 : Int32) (l4 : Int32) (l5 : Int32) (l6 : Int32) (M : mj_M), k16 l0 l1 l2 l3 l4 l5 l6 M → mj_X g 16 [(0, vR l0), (1, vI l1), (2, vI l2), (3, vI l3), (4, vI l4), (5, vI l5), (6, vI l6)] [] M 0 0) (l0 : Nat) (l1 : Int32) (l2 : Int32) (l3 : Int32) (l4 : Int32) (l5 : Int32) (l6 : Int32) (M : mj_M) (h : vb_X12_holds_122 k16 post l0 l1 l2 l3 l4 l5 l6 M) : mj_X g 122 [(0, vR l0), (1, vI l1), (2, vI l2), (3, vI l3), (4, vI l4), (5, vI l5), (6, vI l6)] [] M 0 0 := by
  simp only [vb_X12_holds_122] at h
  refine mx_iconst (v := 1) hC dX12_holds_122 (by decide) ?_
  refine mx_goto (tgt := 127) hC dX12_holds_123 (by decide) ?_
  refine mx_sub (L' := [(0, vR l0), (1, vI l1), (2, vI l2), (3, vI l3), (4, vI l4), (5, vI l5), (6, vI l6)]) [0, 1, 2, 3, 4, 5, 6] rfl ?_
  exact show mj_X g 127 [(0, vR l0), (1, vI l1), (2, vI l2), (3, vI l3), (4, vI l4), (5, vI l5), (6, vI l6)] [vI (mj_b true)] M 0 0 from (xb_X12_holds_127 hC hE hk16 l0 l1 l2 l3 l4 l5 l6 true M h)
set_option maxHeartbeats 4000000 in
set_option maxRecDepth 100000 in
theorem xb_X12_holds_181 {g : mj_G} {post : Bool → mj_M → Prop} (hC : mj_C g yX12_holds cX12_holds 12 (some .boolean) rm_X12_holds) (hE : mj_E g mj_jB post 0 0) {k16 : Nat → Int32 → Int32 → Int32 → Int32 → Int32 → Int32 → mj_M → Prop} (hk16 : ∀ (l0 : Nat) (l1 : Int32) (l2 : Int32) (l3 : Int32) (l4 : Int32) (l5 : Int32) (l6 : Int32) (M : mj_M), k16 l0 l1 l2 l3 l4 l5 l6 M → mj_X g 16 [(0, vR l0), (1, vI l1), (2, vI l2), (3, vI l3), (4, vI l4), (5, vI l5), (6, vI l6)] [] M 0 0) (l0 : Nat) (l1 : Int32) (l2 : Int32) (l3 : Int32) (l4 : Int32) (l5 : Int32) (l6 : Int32) (s0 : Nat) (s1 : Int32) (s2 : Bool) (M : mj_M) (h : vb_X12_holds_181 k16 post l0 l1 l2 l3 l4 l5 l6 s0 s1 s2 M) : mj_X g 181 [(0, vR l0), (1, vI l1), (2, vI l2), (3, vI l3), (4, vI l4), (5, vI l5), (6, vI l6)] [vI (mj_b s2), vI s1, vR s0] M 0 0 := by
  simp only [vb_X12_holds_181] at h
  obtain ⟨ht3, h⟩ := h
  obtain ⟨hi4, h⟩ := h
  refine mx_zastore (b := s2) hC ht3 hi4 dX12_holds_181 ?_
  refine mx_aload_n (j := 0) hC dX12_holds_182 rfl rfl ?_
  obtain ⟨ht5, h⟩ := h
  refine mx_get (v := vR (mj_r M l0 22)) hC tf_X12_68 ht5 rfl dX12_holds_183 ?_
  refine mx_iload (j := 5) hC dX12_holds_186 rfl ?_
  refine mx_iconst (v := 1) hC dX12_holds_188 (by decide) ?_
  obtain ⟨ht6, h⟩ := h
  obtain ⟨hi7, h⟩ := h
  refine mx_zastore (b := true) hC ht6 hi7 dX12_holds_189 ?_
  refine mx_goto (tgt := 386) hC dX12_holds_190 (by decide) ?_
  refine mx_goto (tgt := 16) hC dX12_holds_386 (by decide) ?_
  refine mx_sub (L' := [(0, vR l0), (1, vI l1), (2, vI l2), (3, vI l3), (4, vI l4), (5, vI l5), (6, vI l6)]) [0, 1, 2, 3, 4, 5, 6] rfl ?_
  exact show mj_X g 16 [(0, vR l0), (1, vI l1), (2, vI l2), (3, vI l3), (4, vI l4), (5, vI l5), (6, vI l6)] [] (mj_wi (mj_wi M s0 (s1 : Int32).toNatClampNeg (mj_b s2)) (mj_r M l0 22) (l5 : Int32).toNatClampNeg (mj_b true)) 0 0 from (hk16 l0 l1 l2 l3 l4 l5 l6 (mj_wi (mj_wi M s0 (s1 : Int32).toNatClampNeg (mj_b s2)) (mj_r M l0 22) (l5 : Int32).toNatClampNeg (mj_b true)) h)
set_option maxHeartbeats 4000000 in
set_option maxRecDepth 100000 in
theorem xb_X12_holds_176 {g : mj_G} {post : Bool → mj_M → Prop} (hC : mj_C g yX12_holds cX12_holds 12 (some .boolean) rm_X12_holds) (hE : mj_E g mj_jB post 0 0) {k16 : Nat → Int32 → Int32 → Int32 → Int32 → Int32 → Int32 → mj_M → Prop} (hk16 : ∀ (l0 : Nat) (l1 : Int32) (l2 : Int32) (l3 : Int32) (l4 : Int32) (l5 : Int32) (l6 : Int32) (M : mj_M), k16 l0 l1 l2 l3 l4 l5 l6 M → mj_X g 16 [(0, vR l0), (1, vI l1), (2, vI l2), (3, vI l3), (4, vI l4), (5, vI l5), (6, vI l6)] [] M 0 0) (l0 : Nat) (l1 : Int32) (l2 : Int32) (l3 : Int32) (l4 : Int32) (l5 : Int32) (l6 : Int32) (s0 : Nat) (s1 : Int32) (M : mj_M) (h : vb_X12_holds_176 k16 post l0 l1 l2 l3 l4 l5 l6 s0 s1 M) : mj_X g 176 [(0, vR l0), (1, vI l1), (2, vI l2), (3, vI l3), (4, vI l4), (5, vI l5), (6, vI l6)] [vI s1, vR s0] M 0 0 := by
  simp only [vb_X12_holds_176] at h
  refine mx_iconst (v := 1) hC dX12_holds_176 (by decide) ?_
  refine mx_goto (tgt := 181) hC dX12_holds_177 (by decide) ?_
  refine mx_sub (L' := [(0, vR l0), (1, vI l1), (2, vI l2), (3, vI l3), (4, vI l4), (5, vI l5), (6, vI l6)]) [0, 1, 2, 3, 4, 5, 6] rfl ?_
  exact show mj_X g 181 [(0, vR l0), (1, vI l1), (2, vI l2), (3, vI l3), (4, vI l4), (5, vI l5), (6, vI l6)] [vI (mj_b true), vI s1, vR s0] M 0 0 from (xb_X12_holds_181 hC hE hk16 l0 l1 l2 l3 l4 l5 l6 s0 s1 true M h)
set_option maxHeartbeats 4000000 in
set_option maxRecDepth 100000 in
theorem xb_X12_holds_373 {g : mj_G} {post : Bool → mj_M → Prop} (hC : mj_C g yX12_holds cX12_holds 12 (some .boolean) rm_X12_holds) (hE : mj_E g mj_jB post 0 0) {k16 : Nat → Int32 → Int32 → Int32 → Int32 → Int32 → Int32 → mj_M → Prop} (hk16 : ∀ (l0 : Nat) (l1 : Int32) (l2 : Int32) (l3 : Int32) (l4 : Int32) (l5 : Int32) (l6 : Int32) (M : mj_M), k16 l0 l1 l2 l3 l4 l5 l6 M → mj_X g 16 [(0, vR l0), (1, vI l1), (2, vI l2), (3, vI l3), (4, vI l4), (5, vI l5), (6, vI l6)] [] M 0 0) (l0 : Nat) (l1 : Int32) (l2 : Int32) (l3 : Int32) (l4 : Int32) (l5 : Int32) (l6 : Int32) (s0 : Nat) (s1 : Int32) (s2 : Bool) (M : mj_M) (h : vb_X12_holds_373 k16 post l0 l1 l2 l3 l4 l5 l6 s0 s1 s2 M) : mj_X g 373 [(0, vR l0), (1, vI l1), (2, vI l2), (3, vI l3), (4, vI l4), (5, vI l5), (6, vI l6)] [vI (mj_b s2), vI s1, vR s0] M 0 0 := by
  simp only [vb_X12_holds_373] at h
  obtain ⟨ht8, h⟩ := h
  refine mx_callV (inj := mj_jV) (As := [vI s1, vI (mj_b s2)]) (st := []) hC (ct_X12_join s0 s1 s2 M _ h) ty_X12_join tw1577 ht8 rfl (Nat.le_of_ble_eq_true rfl) ⟨rfl, rfl, ⟨by decide, by decide⟩, by decide, by decide⟩ dX12_holds_373 (fun _ M9 h => ?_)
  show mj_X g 376 [(0, vR l0), (1, vI l1), (2, vI l2), (3, vI l3), (4, vI l4), (5, vI l5), (6, vI l6)] [] M9 0 0
  refine mx_aload_n (j := 0) hC dX12_holds_376 rfl rfl ?_
  refine mx_dup hC dX12_holds_377 rfl ?_
  obtain ⟨ht10, h⟩ := h
  refine mx_get (v := vI (mj_i M9 l0 24)) hC tf_X12_267 ht10 rfl dX12_holds_378 ?_
  refine mx_iconst (v := 1) hC dX12_holds_381 (by decide) ?_
  refine mx_iadd hC dX12_holds_382 ?_
  refine mx_put (v := vI ((mj_i M9 l0 24) + 1)) (M1 := mj_wi M9 l0 24 ((mj_i M9 l0 24) + 1)) hC tf_X12_267 ht10 (Or.inl rfl) ⟨rfl, rfl⟩ (mj_off_wi _ _ _ _) mj_put_wi dX12_holds_383 ?_
  refine mx_goto (tgt := 16) hC dX12_holds_386 (by decide) ?_
  refine mx_sub (L' := [(0, vR l0), (1, vI l1), (2, vI l2), (3, vI l3), (4, vI l4), (5, vI l5), (6, vI l6)]) [0, 1, 2, 3, 4, 5, 6] rfl ?_
  exact show mj_X g 16 [(0, vR l0), (1, vI l1), (2, vI l2), (3, vI l3), (4, vI l4), (5, vI l5), (6, vI l6)] [] (mj_wi M9 l0 24 ((mj_i M9 l0 24) + 1)) 0 0 from (hk16 l0 l1 l2 l3 l4 l5 l6 (mj_wi M9 l0 24 ((mj_i M9 l0 24) + 1)) h)
set_option maxHeartbeats 4000000 in
set_option maxRecDepth 100000 in
theorem xb_X12_holds_365 {g : mj_G} {post : Bool → mj_M → Prop} (hC : mj_C g yX12_holds cX12_holds 12 (some .boolean) rm_X12_holds) (hE : mj_E g mj_jB post 0 0) {k16 : Nat → Int32 → Int32 → Int32 → Int32 → Int32 → Int32 → mj_M → Prop} (hk16 : ∀ (l0 : Nat) (l1 : Int32) (l2 : Int32) (l3 : Int32) (l4 : Int32) (l5 : Int32) (l6 : Int32) (M : mj_M), k16 l0 l1 l2 l3 l4 l5 l6 M → mj_X g 16 [(0, vR l0), (1, vI l1), (2, vI l2), (3, vI l3), (4, vI l4), (5, vI l5), (6, vI l6)] [] M 0 0) (l0 : Nat) (l1 : Int32) (l2 : Int32) (l3 : Int32) (l4 : Int32) (l5 : Int32) (l6 : Int32) (s0 : Nat) (s1 : Int32) (s2 : Bool) (s3 : Bool) (M : mj_M) (h : vb_X12_holds_365 k16 post l0 l1 l2 l3 l4 l5 l6 s0 s1 s2 s3 M) : mj_X g 365 [(0, vR l0), (1, vI l1), (2, vI l2), (3, vI l3), (4, vI l4), (5, vI l5), (6, vI l6)] [vI (mj_b s3), vI (mj_b s2), vI s1, vR s0] M 0 0 := by
  simp only [vb_X12_holds_365] at h
  refine mx_icmpeq (tgt := 372) hC dX12_holds_365 (by decide) (fun hc11 => ?_) (fun hc11 => ?_)
  · replace h := mj_yy hc11 h
    refine mx_iconst (v := 0) hC dX12_holds_372 (by decide) ?_
    refine mx_sub (L' := [(0, vR l0), (1, vI l1), (2, vI l2), (3, vI l3), (4, vI l4), (5, vI l5), (6, vI l6)]) [0, 1, 2, 3, 4, 5, 6] rfl ?_
    exact show mj_X g 373 [(0, vR l0), (1, vI l1), (2, vI l2), (3, vI l3), (4, vI l4), (5, vI l5), (6, vI l6)] [vI (mj_b false), vI s1, vR s0] M 0 0 from (xb_X12_holds_373 hC hE hk16 l0 l1 l2 l3 l4 l5 l6 s0 s1 false M h)
  · replace h := mj_nn hc11 h
    refine mx_iconst (v := 1) hC dX12_holds_368 (by decide) ?_
    refine mx_goto (tgt := 373) hC dX12_holds_369 (by decide) ?_
    refine mx_sub (L' := [(0, vR l0), (1, vI l1), (2, vI l2), (3, vI l3), (4, vI l4), (5, vI l5), (6, vI l6)]) [0, 1, 2, 3, 4, 5, 6] rfl ?_
    exact show mj_X g 373 [(0, vR l0), (1, vI l1), (2, vI l2), (3, vI l3), (4, vI l4), (5, vI l5), (6, vI l6)] [vI (mj_b true), vI s1, vR s0] M 0 0 from (xb_X12_holds_373 hC hE hk16 l0 l1 l2 l3 l4 l5 l6 s0 s1 true M h)
set_option maxHeartbeats 4000000 in
set_option maxRecDepth 100000 in
theorem xb_X12_holds_344 {g : mj_G} {post : Bool → mj_M → Prop} (hC : mj_C g yX12_holds cX12_holds 12 (some .boolean) rm_X12_holds) (hE : mj_E g mj_jB post 0 0) {k16 : Nat → Int32 → Int32 → Int32 → Int32 → Int32 → Int32 → mj_M → Prop} (hk16 : ∀ (l0 : Nat) (l1 : Int32) (l2 : Int32) (l3 : Int32) (l4 : Int32) (l5 : Int32) (l6 : Int32) (M : mj_M), k16 l0 l1 l2 l3 l4 l5 l6 M → mj_X g 16 [(0, vR l0), (1, vI l1), (2, vI l2), (3, vI l3), (4, vI l4), (5, vI l5), (6, vI l6)] [] M 0 0) (l0 : Nat) (l1 : Int32) (l2 : Int32) (l3 : Int32) (l4 : Int32) (l5 : Int32) (l6 : Int32) (s0 : Bool) (M : mj_M) (h : vb_X12_holds_344 k16 post l0 l1 l2 l3 l4 l5 l6 s0 M) : mj_X g 344 [(0, vR l0), (1, vI l1), (2, vI l2), (3, vI l3), (4, vI l4), (5, vI l5), (6, vI l6)] [vI (mj_b s0)] M 0 0 := by
  simp only [vb_X12_holds_344] at h
  refine mx_istore (L' := [(11, vI (mj_b s0)), (0, vR l0), (1, vI l1), (2, vI l2), (3, vI l3), (4, vI l4), (5, vI l5), (6, vI l6)]) hC dX12_holds_344 (by decide) rfl ?_
  refine mx_aload_n (j := 1) hC dX12_holds_346 rfl rfl ?_
  refine mx_iload (j := 6) hC dX12_holds_347 rfl ?_
  refine mx_iload (j := 0) hC dX12_holds_349 rfl ?_
  refine mx_aload_n (j := 1) hC dX12_holds_351 rfl rfl ?_
  obtain ⟨ht12, h⟩ := h
  refine mx_get (v := vI (mj_i M l0 24)) hC tf_X12_267 ht12 rfl dX12_holds_352 ?_
  refine mx_iload (j := 5) hC dX12_holds_355 rfl ?_
  refine mx_icmpne (tgt := 364) hC dX12_holds_357 (by decide) (fun hc13 => ?_) (fun hc13 => ?_)
  · replace h := mj_nn hc13 h
    refine mx_iconst (v := 0) hC dX12_holds_364 (by decide) ?_
    refine mx_sub (L' := [(0, vR l0), (1, vI l1), (2, vI l2), (3, vI l3), (4, vI l4), (5, vI l5), (6, vI l6)]) [1, 2, 3, 4, 5, 6, 7] rfl ?_
    exact show mj_X g 365 [(0, vR l0), (1, vI l1), (2, vI l2), (3, vI l3), (4, vI l4), (5, vI l5), (6, vI l6)] [vI (mj_b false), vI (mj_b s0), vI l5, vR l0] M 0 0 from (xb_X12_holds_365 hC hE hk16 l0 l1 l2 l3 l4 l5 l6 l0 l5 s0 false M h)
  · replace h := mj_yy hc13 h
    refine mx_iconst (v := 1) hC dX12_holds_360 (by decide) ?_
    refine mx_goto (tgt := 365) hC dX12_holds_361 (by decide) ?_
    refine mx_sub (L' := [(0, vR l0), (1, vI l1), (2, vI l2), (3, vI l3), (4, vI l4), (5, vI l5), (6, vI l6)]) [1, 2, 3, 4, 5, 6, 7] rfl ?_
    exact show mj_X g 365 [(0, vR l0), (1, vI l1), (2, vI l2), (3, vI l3), (4, vI l4), (5, vI l5), (6, vI l6)] [vI (mj_b true), vI (mj_b s0), vI l5, vR l0] M 0 0 from (xb_X12_holds_365 hC hE hk16 l0 l1 l2 l3 l4 l5 l6 l0 l5 s0 true M h)
set_option maxHeartbeats 4000000 in
set_option maxRecDepth 100000 in
theorem xb_X12_holds_278 {g : mj_G} {post : Bool → mj_M → Prop} (hC : mj_C g yX12_holds cX12_holds 12 (some .boolean) rm_X12_holds) (hE : mj_E g mj_jB post 0 0) {k16 : Nat → Int32 → Int32 → Int32 → Int32 → Int32 → Int32 → mj_M → Prop} (hk16 : ∀ (l0 : Nat) (l1 : Int32) (l2 : Int32) (l3 : Int32) (l4 : Int32) (l5 : Int32) (l6 : Int32) (M : mj_M), k16 l0 l1 l2 l3 l4 l5 l6 M → mj_X g 16 [(0, vR l0), (1, vI l1), (2, vI l2), (3, vI l3), (4, vI l4), (5, vI l5), (6, vI l6)] [] M 0 0) (l0 : Nat) (l1 : Int32) (l2 : Int32) (l3 : Int32) (l4 : Int32) (l5 : Int32) (l6 : Int32) (l7 : Int32) (l8 : Int32) (l9 : Int32) (M : mj_M) (h : vb_X12_holds_278 k16 post l0 l1 l2 l3 l4 l5 l6 l7 l8 l9 M) : mj_X g 278 [(0, vR l0), (1, vI l1), (2, vI l2), (3, vI l3), (4, vI l4), (5, vI l5), (6, vI l6), (7, vI l7), (8, vI l8), (9, vI l9)] [] M 0 0 := by
  simp only [vb_X12_holds_278] at h
  refine mx_aload_n (j := 0) hC dX12_holds_278 rfl rfl ?_
  refine mx_iload_n (j := 2) hC dX12_holds_279 rfl rfl ?_
  refine mx_iload (j := 7) hC dX12_holds_280 rfl ?_
  refine mx_iload_n (j := 3) hC dX12_holds_282 rfl rfl ?_
  obtain ⟨ht14, h⟩ := h
  refine mx_callV (inj := mj_jI) (As := [vI l2, vI l7, vI l3]) (st := []) hC (ct_X12_factOf l0 l2 l7 l3 M _ h) ty_X12_factOf tw1581 ht14 rfl (Nat.le_of_ble_eq_true rfl) ⟨rfl, rfl, ⟨by decide, by decide⟩, by decide, by decide⟩ dX12_holds_283 (fun r15 M16 h => ?_)
  show mj_X g 286 [(0, vR l0), (1, vI l1), (2, vI l2), (3, vI l3), (4, vI l4), (5, vI l5), (6, vI l6), (7, vI l7), (8, vI l8), (9, vI l9)] [vI r15] M16 0 0
  refine mx_istore (L' := [(10, vI r15), (0, vR l0), (1, vI l1), (2, vI l2), (3, vI l3), (4, vI l4), (5, vI l5), (6, vI l6), (7, vI l7), (8, vI l8), (9, vI l9)]) hC dX12_holds_286 (by decide) rfl ?_
  refine mx_iload (j := 9) hC dX12_holds_288 rfl ?_
  refine mx_bipush (v := 60) hC dX12_holds_290 (by decide) ?_
  refine mx_icmpne (tgt := 310) hC dX12_holds_292 (by decide) (fun hc17 => ?_) (fun hc17 => ?_)
  · replace h := mj_nn hc17 h
    refine mx_iload (j := 9) hC dX12_holds_310 rfl ?_
    refine mx_bipush (v := 62) hC dX12_holds_312 (by decide) ?_
    refine mx_icmpne (tgt := 332) hC dX12_holds_314 (by decide) (fun hc18 => ?_) (fun hc18 => ?_)
    · replace h := mj_nn hc18 h
      refine mx_iload (j := 0) hC dX12_holds_332 rfl ?_
      refine mx_iload (j := 10) hC dX12_holds_334 rfl ?_
      refine mx_icmpne (tgt := 343) hC dX12_holds_336 (by decide) (fun hc19 => ?_) (fun hc19 => ?_)
      · replace h := mj_nn hc19 h
        refine mx_iconst (v := 0) hC dX12_holds_343 (by decide) ?_
        refine mx_sub (L' := [(0, vR l0), (1, vI l1), (2, vI l2), (3, vI l3), (4, vI l4), (5, vI l5), (6, vI l6)]) [1, 2, 3, 4, 5, 6, 7] rfl ?_
        exact show mj_X g 344 [(0, vR l0), (1, vI l1), (2, vI l2), (3, vI l3), (4, vI l4), (5, vI l5), (6, vI l6)] [vI (mj_b false)] M16 0 0 from (xb_X12_holds_344 hC hE hk16 l0 l1 l2 l3 l4 l5 l6 false M16 h)
      · replace h := mj_yy hc19 h
        refine mx_iconst (v := 1) hC dX12_holds_339 (by decide) ?_
        refine mx_goto (tgt := 344) hC dX12_holds_340 (by decide) ?_
        refine mx_sub (L' := [(0, vR l0), (1, vI l1), (2, vI l2), (3, vI l3), (4, vI l4), (5, vI l5), (6, vI l6)]) [1, 2, 3, 4, 5, 6, 7] rfl ?_
        exact show mj_X g 344 [(0, vR l0), (1, vI l1), (2, vI l2), (3, vI l3), (4, vI l4), (5, vI l5), (6, vI l6)] [vI (mj_b true)] M16 0 0 from (xb_X12_holds_344 hC hE hk16 l0 l1 l2 l3 l4 l5 l6 true M16 h)
    · replace h := mj_yy hc18 h
      refine mx_iload (j := 0) hC dX12_holds_317 rfl ?_
      refine mx_iload (j := 10) hC dX12_holds_319 rfl ?_
      refine mx_icmple (tgt := 328) hC dX12_holds_321 (by decide) (fun hc20 => ?_) (fun hc20 => ?_)
      · replace h := mj_yy hc20 h
        refine mx_iconst (v := 0) hC dX12_holds_328 (by decide) ?_
        refine mx_goto (tgt := 344) hC dX12_holds_329 (by decide) ?_
        refine mx_sub (L' := [(0, vR l0), (1, vI l1), (2, vI l2), (3, vI l3), (4, vI l4), (5, vI l5), (6, vI l6)]) [1, 2, 3, 4, 5, 6, 7] rfl ?_
        exact show mj_X g 344 [(0, vR l0), (1, vI l1), (2, vI l2), (3, vI l3), (4, vI l4), (5, vI l5), (6, vI l6)] [vI (mj_b false)] M16 0 0 from (xb_X12_holds_344 hC hE hk16 l0 l1 l2 l3 l4 l5 l6 false M16 h)
      · replace h := mj_nn hc20 h
        refine mx_iconst (v := 1) hC dX12_holds_324 (by decide) ?_
        refine mx_goto (tgt := 344) hC dX12_holds_325 (by decide) ?_
        refine mx_sub (L' := [(0, vR l0), (1, vI l1), (2, vI l2), (3, vI l3), (4, vI l4), (5, vI l5), (6, vI l6)]) [1, 2, 3, 4, 5, 6, 7] rfl ?_
        exact show mj_X g 344 [(0, vR l0), (1, vI l1), (2, vI l2), (3, vI l3), (4, vI l4), (5, vI l5), (6, vI l6)] [vI (mj_b true)] M16 0 0 from (xb_X12_holds_344 hC hE hk16 l0 l1 l2 l3 l4 l5 l6 true M16 h)
  · replace h := mj_yy hc17 h
    refine mx_iload (j := 0) hC dX12_holds_295 rfl ?_
    refine mx_iload (j := 10) hC dX12_holds_297 rfl ?_
    refine mx_icmpge (tgt := 306) hC dX12_holds_299 (by decide) (fun hc21 => ?_) (fun hc21 => ?_)
    · replace h := mj_yy hc21 h
      refine mx_iconst (v := 0) hC dX12_holds_306 (by decide) ?_
      refine mx_goto (tgt := 344) hC dX12_holds_307 (by decide) ?_
      refine mx_sub (L' := [(0, vR l0), (1, vI l1), (2, vI l2), (3, vI l3), (4, vI l4), (5, vI l5), (6, vI l6)]) [1, 2, 3, 4, 5, 6, 7] rfl ?_
      exact show mj_X g 344 [(0, vR l0), (1, vI l1), (2, vI l2), (3, vI l3), (4, vI l4), (5, vI l5), (6, vI l6)] [vI (mj_b false)] M16 0 0 from (xb_X12_holds_344 hC hE hk16 l0 l1 l2 l3 l4 l5 l6 false M16 h)
    · replace h := mj_nn hc21 h
      refine mx_iconst (v := 1) hC dX12_holds_302 (by decide) ?_
      refine mx_goto (tgt := 344) hC dX12_holds_303 (by decide) ?_
      refine mx_sub (L' := [(0, vR l0), (1, vI l1), (2, vI l2), (3, vI l3), (4, vI l4), (5, vI l5), (6, vI l6)]) [1, 2, 3, 4, 5, 6, 7] rfl ?_
      exact show mj_X g 344 [(0, vR l0), (1, vI l1), (2, vI l2), (3, vI l3), (4, vI l4), (5, vI l5), (6, vI l6)] [vI (mj_b true)] M16 0 0 from (xb_X12_holds_344 hC hE hk16 l0 l1 l2 l3 l4 l5 l6 true M16 h)
set_option maxHeartbeats 4000000 in
set_option maxRecDepth 100000 in
theorem xb_X12_holds_220 {g : mj_G} {post : Bool → mj_M → Prop} (hC : mj_C g yX12_holds cX12_holds 12 (some .boolean) rm_X12_holds) (hE : mj_E g mj_jB post 0 0) {k16 : Nat → Int32 → Int32 → Int32 → Int32 → Int32 → Int32 → mj_M → Prop} (hk16 : ∀ (l0 : Nat) (l1 : Int32) (l2 : Int32) (l3 : Int32) (l4 : Int32) (l5 : Int32) (l6 : Int32) (M : mj_M), k16 l0 l1 l2 l3 l4 l5 l6 M → mj_X g 16 [(0, vR l0), (1, vI l1), (2, vI l2), (3, vI l3), (4, vI l4), (5, vI l5), (6, vI l6)] [] M 0 0) : ∀ (f : Nat) (l0 : Nat) (l1 : Int32) (l2 : Int32) (l3 : Int32) (l4 : Int32) (l5 : Int32) (l6 : Int32) (l7 : Int32) (l8 : Int32) (l9 : Int32) (M : mj_M), vb_X12_holds_220 k16 post f l0 l1 l2 l3 l4 l5 l6 l7 l8 l9 M → mj_X g 220 [(0, vR l0), (1, vI l1), (2, vI l2), (3, vI l3), (4, vI l4), (5, vI l5), (6, vI l6), (7, vI l7), (8, vI l8), (9, vI l9)] [] M 0 0 := by
  intro f
  induction f with
  | zero => exact fun _ _ _ _ _ _ _ _ _ _ _ h => absurd h (fun z => z)
  | succ f ih =>
    intro l0 l1 l2 l3 l4 l5 l6 l7 l8 l9 M h
    simp only [vb_X12_holds_220] at h
    refine mx_iload (j := 6) hC dX12_holds_220 rfl ?_
    refine mx_aload_n (j := 0) hC dX12_holds_222 rfl rfl ?_
    obtain ⟨ht22, h⟩ := h
    refine mx_get (v := vR (mj_r M l0 17)) hC tf_X12_55 ht22 rfl dX12_holds_223 ?_
    refine mx_iload_n (j := 1) hC dX12_holds_226 rfl rfl ?_
    obtain ⟨ht23, h⟩ := h
    obtain ⟨hi24, h⟩ := h
    refine mx_iaload hC ht23 hi24 dX12_holds_227 ?_
    refine mx_icmpge (tgt := 278) hC dX12_holds_228 (by decide) (fun hc25 => ?_) (fun hc25 => ?_)
    · replace h := mj_yy hc25 h
      refine mx_sub (L' := [(0, vR l0), (1, vI l1), (2, vI l2), (3, vI l3), (4, vI l4), (5, vI l5), (6, vI l6), (7, vI l7), (8, vI l8), (9, vI l9)]) [0, 1, 2, 3, 4, 5, 6, 7, 8, 9] rfl ?_
      exact show mj_X g 278 [(0, vR l0), (1, vI l1), (2, vI l2), (3, vI l3), (4, vI l4), (5, vI l5), (6, vI l6), (7, vI l7), (8, vI l8), (9, vI l9)] [] M 0 0 from (xb_X12_holds_278 hC hE hk16 l0 l1 l2 l3 l4 l5 l6 l7 l8 l9 M h)
    · replace h := mj_nn hc25 h
      refine mx_aload_n (j := 0) hC dX12_holds_231 rfl rfl ?_
      refine mx_get (v := vR (mj_r M l0 16)) hC tf_X12_52 ht22 rfl dX12_holds_232 ?_
      refine mx_bipush (v := 48) hC dX12_holds_235 (by decide) ?_
      refine mx_iload_n (j := 1) hC dX12_holds_237 rfl rfl ?_
      refine mx_imul hC dX12_holds_238 ?_
      refine mx_iload (j := 6) hC dX12_holds_239 rfl ?_
      refine mx_iadd hC dX12_holds_241 ?_
      obtain ⟨ht26, h⟩ := h
      obtain ⟨hi27, h⟩ := h
      refine mx_iaload hC ht26 hi27 dX12_holds_242 ?_
      refine mx_callS (inj := mj_jB) (As := [vI (mj_i M (mj_r M l0 16) ((48 * l1) + l6 : Int32).toNatClampNeg)]) (st := []) hC (ct_X12_isDigit (mj_i M (mj_r M l0 16) ((48 * l1) + l6 : Int32).toNatClampNeg) M _ h) ty_X12_isDigit tw1544 rfl (Nat.le_of_ble_eq_true rfl) ⟨rfl, rfl, ⟨by decide, by decide⟩, by decide, by decide⟩ dX12_holds_243 (fun r28 M29 h => ?_)
      show mj_X g 246 [(0, vR l0), (1, vI l1), (2, vI l2), (3, vI l3), (4, vI l4), (5, vI l5), (6, vI l6), (7, vI l7), (8, vI l8), (9, vI l9)] [vI (mj_b r28)] M29 0 0
      refine mx_ifeqB (tgt := 278) hC dX12_holds_246 (by decide) (fun hc30 => ?_) (fun hc30 => ?_)
      · replace h := mj_nn hc30 h
        refine mx_sub (L' := [(0, vR l0), (1, vI l1), (2, vI l2), (3, vI l3), (4, vI l4), (5, vI l5), (6, vI l6), (7, vI l7), (8, vI l8), (9, vI l9)]) [0, 1, 2, 3, 4, 5, 6, 7, 8, 9] rfl ?_
        exact show mj_X g 278 [(0, vR l0), (1, vI l1), (2, vI l2), (3, vI l3), (4, vI l4), (5, vI l5), (6, vI l6), (7, vI l7), (8, vI l8), (9, vI l9)] [] M29 0 0 from (xb_X12_holds_278 hC hE hk16 l0 l1 l2 l3 l4 l5 l6 l7 l8 l9 M29 h)
      · replace h := mj_yy hc30 h
        refine mx_bipush (v := 10) hC dX12_holds_249 (by decide) ?_
        refine mx_iload (j := 9) hC dX12_holds_251 rfl ?_
        refine mx_imul hC dX12_holds_253 ?_
        refine mx_aload_n (j := 0) hC dX12_holds_254 rfl rfl ?_
        obtain ⟨ht31, h⟩ := h
        refine mx_get (v := vR (mj_r M29 l0 16)) hC tf_X12_52 ht31 rfl dX12_holds_255 ?_
        refine mx_bipush (v := 48) hC dX12_holds_258 (by decide) ?_
        refine mx_iload_n (j := 1) hC dX12_holds_260 rfl rfl ?_
        refine mx_imul hC dX12_holds_261 ?_
        refine mx_iload (j := 6) hC dX12_holds_262 rfl ?_
        refine mx_iadd hC dX12_holds_264 ?_
        obtain ⟨ht32, h⟩ := h
        obtain ⟨hi33, h⟩ := h
        refine mx_iaload hC ht32 hi33 dX12_holds_265 ?_
        refine mx_iadd hC dX12_holds_266 ?_
        refine mx_bipush (v := 48) hC dX12_holds_267 (by decide) ?_
        refine mx_isub hC dX12_holds_269 ?_
        refine mx_istore (L' := [(9, vI (((10 * l9) + (mj_i M29 (mj_r M29 l0 16) ((48 * l1) + l6 : Int32).toNatClampNeg)) - 48)), (0, vR l0), (1, vI l1), (2, vI l2), (3, vI l3), (4, vI l4), (5, vI l5), (6, vI l6), (7, vI l7), (8, vI l8)]) hC dX12_holds_270 (by decide) rfl ?_
        refine mx_iinc (j := 7) (v := l6 + 1) (L' := [(6, vI (l6 + 1)), (9, vI (((10 * l9) + (mj_i M29 (mj_r M29 l0 16) ((48 * l1) + l6 : Int32).toNatClampNeg)) - 48)), (0, vR l0), (1, vI l1), (2, vI l2), (3, vI l3), (4, vI l4), (5, vI l5), (7, vI l7), (8, vI l8)]) hC dX12_holds_272 rfl rfl (by decide) rfl ?_
        refine mx_goto (tgt := 220) hC dX12_holds_275 (by decide) ?_
        refine mx_sub (L' := [(0, vR l0), (1, vI l1), (2, vI l2), (3, vI l3), (4, vI l4), (5, vI l5), (6, vI (l6 + 1)), (7, vI l7), (8, vI l8), (9, vI (((10 * l9) + (mj_i M29 (mj_r M29 l0 16) ((48 * l1) + l6 : Int32).toNatClampNeg)) - 48))]) [2, 3, 4, 5, 6, 7, 0, 8, 9, 1] rfl ?_
        exact show mj_X g 220 [(0, vR l0), (1, vI l1), (2, vI l2), (3, vI l3), (4, vI l4), (5, vI l5), (6, vI (l6 + 1)), (7, vI l7), (8, vI l8), (9, vI (((10 * l9) + (mj_i M29 (mj_r M29 l0 16) ((48 * l1) + l6 : Int32).toNatClampNeg)) - 48))] [] M29 0 0 from (ih l0 l1 l2 l3 l4 l5 (l6 + 1) l7 l8 (((10 * l9) + (mj_i M29 (mj_r M29 l0 16) ((48 * l1) + l6 : Int32).toNatClampNeg)) - 48) M29 h)
set_option maxHeartbeats 4000000 in
set_option maxRecDepth 100000 in
theorem xb_X12_holds_16 {g : mj_G} {post : Bool → mj_M → Prop} (hC : mj_C g yX12_holds cX12_holds 12 (some .boolean) rm_X12_holds) (hE : mj_E g mj_jB post 0 0) : ∀ (f : Nat) (l0 : Nat) (l1 : Int32) (l2 : Int32) (l3 : Int32) (l4 : Int32) (l5 : Int32) (l6 : Int32) (M : mj_M), vb_X12_holds_16 post f l0 l1 l2 l3 l4 l5 l6 M → mj_X g 16 [(0, vR l0), (1, vI l1), (2, vI l2), (3, vI l3), (4, vI l4), (5, vI l5), (6, vI l6)] [] M 0 0 := by
  intro f
  induction f with
  | zero => exact fun _ _ _ _ _ _ _ _ h => absurd h (fun z => z)
  | succ f ih =>
    intro l0 l1 l2 l3 l4 l5 l6 M h
    simp only [vb_X12_holds_16] at h
    refine mx_iload (j := 6) hC dX12_holds_16 rfl ?_
    refine mx_aload_n (j := 0) hC dX12_holds_18 rfl rfl ?_
    obtain ⟨ht34, h⟩ := h
    refine mx_get (v := vR (mj_r M l0 17)) hC tf_X12_55 ht34 rfl dX12_holds_19 ?_
    refine mx_iload_n (j := 1) hC dX12_holds_22 rfl rfl ?_
    obtain ⟨ht35, h⟩ := h
    obtain ⟨hi36, h⟩ := h
    refine mx_iaload hC ht35 hi36 dX12_holds_23 ?_
    refine mx_icmpge (tgt := 389) hC dX12_holds_24 (by decide) (fun hc37 => ?_) (fun hc37 => ?_)
    · replace h := mj_yy hc37 h
      refine mx_aload_n (j := 0) hC dX12_holds_389 rfl rfl ?_
      refine mx_get (v := vR (mj_r M l0 21)) hC tf_X12_64 ht34 rfl dX12_holds_390 ?_
      refine mx_iconst (v := 0) hC dX12_holds_393 (by decide) ?_
      obtain ⟨ht38, h⟩ := h
      obtain ⟨hi39, h⟩ := h
      refine mx_zaload hC ht38 hi39 dX12_holds_394 ?_
      refine mx_ifne (tgt := 407) hC dX12_holds_395 (by decide) (fun hc40 => ?_) (fun hc40 => ?_)
      · replace h := mj_nn hc40 h
        refine mx_iconst (v := 1) hC dX12_holds_407 (by decide) ?_
        refine mx_goto (tgt := 412) hC dX12_holds_408 (by decide) ?_
        exact mx_zret (b := true) hC hE rfl dX12_holds_412 h
      · replace h := mj_yy hc40 h
        refine mx_aload_n (j := 0) hC dX12_holds_398 rfl rfl ?_
        refine mx_get (v := vR (mj_r M l0 22)) hC tf_X12_68 ht34 rfl dX12_holds_399 ?_
        refine mx_iconst (v := 0) hC dX12_holds_402 (by decide) ?_
        obtain ⟨ht41, h⟩ := h
        obtain ⟨hi42, h⟩ := h
        refine mx_zaload hC ht41 hi42 dX12_holds_403 ?_
        refine mx_ifeq (tgt := 411) hC dX12_holds_404 (by decide) (fun hc43 => ?_) (fun hc43 => ?_)
        · replace h := mj_yy hc43 h
          refine mx_iconst (v := 0) hC dX12_holds_411 (by decide) ?_
          exact mx_zret (b := false) hC hE rfl dX12_holds_412 h
        · replace h := mj_nn hc43 h
          refine mx_iconst (v := 1) hC dX12_holds_407 (by decide) ?_
          refine mx_goto (tgt := 412) hC dX12_holds_408 (by decide) ?_
          exact mx_zret (b := true) hC hE rfl dX12_holds_412 h
    · replace h := mj_nn hc37 h
      refine mx_aload_n (j := 0) hC dX12_holds_27 rfl rfl ?_
      refine mx_get (v := vR (mj_r M l0 16)) hC tf_X12_52 ht34 rfl dX12_holds_28 ?_
      refine mx_bipush (v := 48) hC dX12_holds_31 (by decide) ?_
      refine mx_iload_n (j := 1) hC dX12_holds_33 rfl rfl ?_
      refine mx_imul hC dX12_holds_34 ?_
      refine mx_iload (j := 6) hC dX12_holds_35 rfl ?_
      refine mx_iadd hC dX12_holds_37 ?_
      obtain ⟨ht44, h⟩ := h
      obtain ⟨hi45, h⟩ := h
      refine mx_iaload hC ht44 hi45 dX12_holds_38 ?_
      refine mx_istore (L' := [(7, vI (mj_i M (mj_r M l0 16) ((48 * l1) + l6 : Int32).toNatClampNeg)), (0, vR l0), (1, vI l1), (2, vI l2), (3, vI l3), (4, vI l4), (5, vI l5), (6, vI l6)]) hC dX12_holds_39 (by decide) rfl ?_
      refine mx_iinc (j := 7) (v := l6 + 1) (L' := [(6, vI (l6 + 1)), (7, vI (mj_i M (mj_r M l0 16) ((48 * l1) + l6 : Int32).toNatClampNeg)), (0, vR l0), (1, vI l1), (2, vI l2), (3, vI l3), (4, vI l4), (5, vI l5)]) hC dX12_holds_41 rfl rfl (by decide) rfl ?_
      refine mx_iload (j := 1) hC dX12_holds_44 rfl ?_
      refine mx_bipush (v := 33) hC dX12_holds_46 (by decide) ?_
      refine mx_icmpne (tgt := 76) hC dX12_holds_48 (by decide) (fun hc46 => ?_) (fun hc46 => ?_)
      · replace h := mj_nn hc46 h
        refine mx_iload (j := 1) hC dX12_holds_76 rfl ?_
        refine mx_bipush (v := 40) hC dX12_holds_78 (by decide) ?_
        refine mx_icmpne (tgt := 95) hC dX12_holds_80 (by decide) (fun hc47 => ?_) (fun hc47 => ?_)
        · replace h := mj_nn hc47 h
          refine mx_iload (j := 1) hC dX12_holds_95 rfl ?_
          refine mx_bipush (v := 41) hC dX12_holds_97 (by decide) ?_
          refine mx_icmpne (tgt := 143) hC dX12_holds_99 (by decide) (fun hc48 => ?_) (fun hc48 => ?_)
          · replace h := mj_nn hc48 h
            refine mx_iload (j := 1) hC dX12_holds_143 rfl ?_
            refine mx_bipush (v := 124) hC dX12_holds_145 (by decide) ?_
            refine mx_icmpne (tgt := 193) hC dX12_holds_147 (by decide) (fun hc49 => ?_) (fun hc49 => ?_)
            · replace h := mj_nn hc49 h
              refine mx_iload (j := 1) hC dX12_holds_193 rfl ?_
              refine mx_bipush (v := 38) hC dX12_holds_195 (by decide) ?_
              refine mx_icmpeq (tgt := 386) hC dX12_holds_197 (by decide) (fun hc50 => ?_) (fun hc50 => ?_)
              · replace h := mj_yy hc50 h
                refine mx_goto (tgt := 16) hC dX12_holds_386 (by decide) ?_
                refine mx_sub (L' := [(0, vR l0), (1, vI l1), (2, vI l2), (3, vI l3), (4, vI l4), (5, vI l5), (6, vI (l6 + 1))]) [2, 3, 4, 5, 6, 7, 0] rfl ?_
                exact show mj_X g 16 [(0, vR l0), (1, vI l1), (2, vI l2), (3, vI l3), (4, vI l4), (5, vI l5), (6, vI (l6 + 1))] [] M 0 0 from (ih l0 l1 l2 l3 l4 l5 (l6 + 1) M h)
              · replace h := mj_nn hc50 h
                refine mx_aload_n (j := 2) hC dX12_holds_200 rfl rfl ?_
                refine mx_get (v := vR (mj_r M l0 16)) hC tf_X12_52 ht34 rfl dX12_holds_201 ?_
                refine mx_bipush (v := 48) hC dX12_holds_204 (by decide) ?_
                refine mx_iload_n (j := 3) hC dX12_holds_206 rfl rfl ?_
                refine mx_imul hC dX12_holds_207 ?_
                refine mx_iload (j := 0) hC dX12_holds_208 rfl ?_
                refine mx_iadd hC dX12_holds_210 ?_
                obtain ⟨hi51, h⟩ := h
                refine mx_iaload hC ht44 hi51 dX12_holds_211 ?_
                refine mx_istore (L' := [(8, vI (mj_i M (mj_r M l0 16) ((48 * l1) + (l6 + 1) : Int32).toNatClampNeg)), (6, vI (l6 + 1)), (7, vI (mj_i M (mj_r M l0 16) ((48 * l1) + l6 : Int32).toNatClampNeg)), (0, vR l0), (1, vI l1), (2, vI l2), (3, vI l3), (4, vI l4), (5, vI l5)]) hC dX12_holds_212 (by decide) rfl ?_
                refine mx_iinc (j := 1) (v := (l6 + 1) + 1) (L' := [(6, vI ((l6 + 1) + 1)), (8, vI (mj_i M (mj_r M l0 16) ((48 * l1) + (l6 + 1) : Int32).toNatClampNeg)), (7, vI (mj_i M (mj_r M l0 16) ((48 * l1) + l6 : Int32).toNatClampNeg)), (0, vR l0), (1, vI l1), (2, vI l2), (3, vI l3), (4, vI l4), (5, vI l5)]) hC dX12_holds_214 rfl rfl (by decide) rfl ?_
                refine mx_iconst (v := 0) hC dX12_holds_217 (by decide) ?_
                refine mx_istore (L' := [(9, vI 0), (6, vI ((l6 + 1) + 1)), (8, vI (mj_i M (mj_r M l0 16) ((48 * l1) + (l6 + 1) : Int32).toNatClampNeg)), (7, vI (mj_i M (mj_r M l0 16) ((48 * l1) + l6 : Int32).toNatClampNeg)), (0, vR l0), (1, vI l1), (2, vI l2), (3, vI l3), (4, vI l4), (5, vI l5)]) hC dX12_holds_218 (by decide) rfl ?_
                refine mx_sub (L' := [(0, vR l0), (1, vI l1), (2, vI l2), (3, vI l3), (4, vI l4), (5, vI l5), (6, vI ((l6 + 1) + 1)), (7, vI (mj_i M (mj_r M l0 16) ((48 * l1) + l6 : Int32).toNatClampNeg)), (8, vI (mj_i M (mj_r M l0 16) ((48 * l1) + (l6 + 1) : Int32).toNatClampNeg)), (9, vI 0)]) [4, 5, 6, 7, 8, 9, 1, 3, 2, 0] rfl ?_
                obtain ⟨fe, h⟩ := h
                exact show mj_X g 220 [(0, vR l0), (1, vI l1), (2, vI l2), (3, vI l3), (4, vI l4), (5, vI l5), (6, vI ((l6 + 1) + 1)), (7, vI (mj_i M (mj_r M l0 16) ((48 * l1) + l6 : Int32).toNatClampNeg)), (8, vI (mj_i M (mj_r M l0 16) ((48 * l1) + (l6 + 1) : Int32).toNatClampNeg)), (9, vI 0)] [] M 0 0 from (xb_X12_holds_220 hC hE ih fe l0 l1 l2 l3 l4 l5 ((l6 + 1) + 1) (mj_i M (mj_r M l0 16) ((48 * l1) + l6 : Int32).toNatClampNeg) (mj_i M (mj_r M l0 16) ((48 * l1) + (l6 + 1) : Int32).toNatClampNeg) 0 M h)
            · replace h := mj_yy hc49 h
              refine mx_aload_n (j := 2) hC dX12_holds_150 rfl rfl ?_
              refine mx_get (v := vR (mj_r M l0 21)) hC tf_X12_64 ht34 rfl dX12_holds_151 ?_
              refine mx_iload (j := 7) hC dX12_holds_154 rfl ?_
              refine mx_aload_n (j := 2) hC dX12_holds_156 rfl rfl ?_
              refine mx_get (v := vR (mj_r M l0 21)) hC tf_X12_64 ht34 rfl dX12_holds_157 ?_
              refine mx_iload (j := 7) hC dX12_holds_160 rfl ?_
              obtain ⟨ht52, h⟩ := h
              obtain ⟨hi53, h⟩ := h
              refine mx_zaload hC ht52 hi53 dX12_holds_162 ?_
              refine mx_ifne (tgt := 176) hC dX12_holds_163 (by decide) (fun hc54 => ?_) (fun hc54 => ?_)
              · replace h := mj_nn hc54 h
                refine mx_sub (L' := [(0, vR l0), (1, vI l1), (2, vI l2), (3, vI l3), (4, vI l4), (5, vI l5), (6, vI (l6 + 1))]) [2, 3, 4, 5, 6, 7, 0] rfl ?_
                exact show mj_X g 176 [(0, vR l0), (1, vI l1), (2, vI l2), (3, vI l3), (4, vI l4), (5, vI l5), (6, vI (l6 + 1))] [vI l5, vR (mj_r M l0 21)] M 0 0 from (xb_X12_holds_176 hC hE ih l0 l1 l2 l3 l4 l5 (l6 + 1) (mj_r M l0 21) l5 M h)
              · replace h := mj_yy hc54 h
                refine mx_aload_n (j := 2) hC dX12_holds_166 rfl rfl ?_
                refine mx_get (v := vR (mj_r M l0 22)) hC tf_X12_68 ht34 rfl dX12_holds_167 ?_
                refine mx_iload (j := 7) hC dX12_holds_170 rfl ?_
                obtain ⟨ht55, h⟩ := h
                obtain ⟨hi56, h⟩ := h
                refine mx_zaload hC ht55 hi56 dX12_holds_172 ?_
                refine mx_ifeq (tgt := 180) hC dX12_holds_173 (by decide) (fun hc57 => ?_) (fun hc57 => ?_)
                · replace h := mj_yy hc57 h
                  refine mx_iconst (v := 0) hC dX12_holds_180 (by decide) ?_
                  refine mx_sub (L' := [(0, vR l0), (1, vI l1), (2, vI l2), (3, vI l3), (4, vI l4), (5, vI l5), (6, vI (l6 + 1))]) [2, 3, 4, 5, 6, 7, 0] rfl ?_
                  exact show mj_X g 181 [(0, vR l0), (1, vI l1), (2, vI l2), (3, vI l3), (4, vI l4), (5, vI l5), (6, vI (l6 + 1))] [vI (mj_b false), vI l5, vR (mj_r M l0 21)] M 0 0 from (xb_X12_holds_181 hC hE ih l0 l1 l2 l3 l4 l5 (l6 + 1) (mj_r M l0 21) l5 false M h)
                · replace h := mj_nn hc57 h
                  refine mx_sub (L' := [(0, vR l0), (1, vI l1), (2, vI l2), (3, vI l3), (4, vI l4), (5, vI l5), (6, vI (l6 + 1))]) [2, 3, 4, 5, 6, 7, 0] rfl ?_
                  exact show mj_X g 176 [(0, vR l0), (1, vI l1), (2, vI l2), (3, vI l3), (4, vI l4), (5, vI l5), (6, vI (l6 + 1))] [vI l5, vR (mj_r M l0 21)] M 0 0 from (xb_X12_holds_176 hC hE ih l0 l1 l2 l3 l4 l5 (l6 + 1) (mj_r M l0 21) l5 M h)
          · replace h := mj_yy hc48 h
            refine mx_aload_n (j := 2) hC dX12_holds_102 rfl rfl ?_
            refine mx_get (v := vR (mj_r M l0 21)) hC tf_X12_64 ht34 rfl dX12_holds_103 ?_
            refine mx_iload (j := 7) hC dX12_holds_106 rfl ?_
            obtain ⟨ht58, h⟩ := h
            obtain ⟨hi59, h⟩ := h
            refine mx_zaload hC ht58 hi59 dX12_holds_108 ?_
            refine mx_ifne (tgt := 122) hC dX12_holds_109 (by decide) (fun hc60 => ?_) (fun hc60 => ?_)
            · replace h := mj_nn hc60 h
              refine mx_sub (L' := [(0, vR l0), (1, vI l1), (2, vI l2), (3, vI l3), (4, vI l4), (5, vI l5), (6, vI (l6 + 1))]) [2, 3, 4, 5, 6, 7, 0] rfl ?_
              exact show mj_X g 122 [(0, vR l0), (1, vI l1), (2, vI l2), (3, vI l3), (4, vI l4), (5, vI l5), (6, vI (l6 + 1))] [] M 0 0 from (xb_X12_holds_122 hC hE ih l0 l1 l2 l3 l4 l5 (l6 + 1) M h)
            · replace h := mj_yy hc60 h
              refine mx_aload_n (j := 2) hC dX12_holds_112 rfl rfl ?_
              refine mx_get (v := vR (mj_r M l0 22)) hC tf_X12_68 ht34 rfl dX12_holds_113 ?_
              refine mx_iload (j := 7) hC dX12_holds_116 rfl ?_
              obtain ⟨ht61, h⟩ := h
              obtain ⟨hi62, h⟩ := h
              refine mx_zaload hC ht61 hi62 dX12_holds_118 ?_
              refine mx_ifeq (tgt := 126) hC dX12_holds_119 (by decide) (fun hc63 => ?_) (fun hc63 => ?_)
              · replace h := mj_yy hc63 h
                refine mx_iconst (v := 0) hC dX12_holds_126 (by decide) ?_
                refine mx_sub (L' := [(0, vR l0), (1, vI l1), (2, vI l2), (3, vI l3), (4, vI l4), (5, vI l5), (6, vI (l6 + 1))]) [2, 3, 4, 5, 6, 7, 0] rfl ?_
                exact show mj_X g 127 [(0, vR l0), (1, vI l1), (2, vI l2), (3, vI l3), (4, vI l4), (5, vI l5), (6, vI (l6 + 1))] [vI (mj_b false)] M 0 0 from (xb_X12_holds_127 hC hE ih l0 l1 l2 l3 l4 l5 (l6 + 1) false M h)
              · replace h := mj_nn hc63 h
                refine mx_sub (L' := [(0, vR l0), (1, vI l1), (2, vI l2), (3, vI l3), (4, vI l4), (5, vI l5), (6, vI (l6 + 1))]) [2, 3, 4, 5, 6, 7, 0] rfl ?_
                exact show mj_X g 122 [(0, vR l0), (1, vI l1), (2, vI l2), (3, vI l3), (4, vI l4), (5, vI l5), (6, vI (l6 + 1))] [] M 0 0 from (xb_X12_holds_122 hC hE ih l0 l1 l2 l3 l4 l5 (l6 + 1) M h)
        · replace h := mj_yy hc47 h
          refine mx_iinc (j := 7) (v := l5 + 1) (L' := [(5, vI (l5 + 1)), (6, vI (l6 + 1)), (7, vI (mj_i M (mj_r M l0 16) ((48 * l1) + l6 : Int32).toNatClampNeg)), (0, vR l0), (1, vI l1), (2, vI l2), (3, vI l3), (4, vI l4)]) hC dX12_holds_83 rfl rfl (by decide) rfl ?_
          refine mx_aload_n (j := 3) hC dX12_holds_86 rfl rfl ?_
          refine mx_iload (j := 0) hC dX12_holds_87 rfl ?_
          refine mx_callV (inj := mj_jV) (As := [vI (l5 + 1)]) (st := []) hC (ct_X12_begin l0 (l5 + 1) M _ h) ty_X12_begin tw1573 ht34 rfl (Nat.le_of_ble_eq_true rfl) ⟨rfl, rfl, ⟨by decide, by decide⟩, by decide, by decide⟩ dX12_holds_89 (fun _ M64 h => ?_)
          show mj_X g 92 [(5, vI (l5 + 1)), (6, vI (l6 + 1)), (7, vI (mj_i M (mj_r M l0 16) ((48 * l1) + l6 : Int32).toNatClampNeg)), (0, vR l0), (1, vI l1), (2, vI l2), (3, vI l3), (4, vI l4)] [] M64 0 0
          refine mx_goto (tgt := 386) hC dX12_holds_92 (by decide) ?_
          refine mx_goto (tgt := 16) hC dX12_holds_386 (by decide) ?_
          refine mx_sub (L' := [(0, vR l0), (1, vI l1), (2, vI l2), (3, vI l3), (4, vI l4), (5, vI (l5 + 1)), (6, vI (l6 + 1))]) [3, 4, 5, 6, 7, 0, 1] rfl ?_
          exact show mj_X g 16 [(0, vR l0), (1, vI l1), (2, vI l2), (3, vI l3), (4, vI l4), (5, vI (l5 + 1)), (6, vI (l6 + 1))] [] M64 0 0 from (ih l0 l1 l2 l3 l4 (l5 + 1) (l6 + 1) M64 h)
      · replace h := mj_yy hc46 h
        refine mx_aload_n (j := 2) hC dX12_holds_51 rfl rfl ?_
        refine mx_get (v := vR (mj_r M l0 23)) hC tf_X12_71 ht34 rfl dX12_holds_52 ?_
        refine mx_iload (j := 7) hC dX12_holds_55 rfl ?_
        refine mx_aload_n (j := 2) hC dX12_holds_57 rfl rfl ?_
        refine mx_get (v := vR (mj_r M l0 23)) hC tf_X12_71 ht34 rfl dX12_holds_58 ?_
        refine mx_iload (j := 7) hC dX12_holds_61 rfl ?_
        obtain ⟨ht65, h⟩ := h
        obtain ⟨hi66, h⟩ := h
        refine mx_zaload hC ht65 hi66 dX12_holds_63 ?_
        refine mx_ifne (tgt := 71) hC dX12_holds_64 (by decide) (fun hc67 => ?_) (fun hc67 => ?_)
        · replace h := mj_nn hc67 h
          refine mx_iconst (v := 0) hC dX12_holds_71 (by decide) ?_
          refine mx_zastore (b := false) hC ht65 hi66 dX12_holds_72 ?_
          refine mx_goto (tgt := 386) hC dX12_holds_73 (by decide) ?_
          refine mx_goto (tgt := 16) hC dX12_holds_386 (by decide) ?_
          refine mx_sub (L' := [(0, vR l0), (1, vI l1), (2, vI l2), (3, vI l3), (4, vI l4), (5, vI l5), (6, vI (l6 + 1))]) [2, 3, 4, 5, 6, 7, 0] rfl ?_
          exact show mj_X g 16 [(0, vR l0), (1, vI l1), (2, vI l2), (3, vI l3), (4, vI l4), (5, vI l5), (6, vI (l6 + 1))] [] (mj_wi M (mj_r M l0 23) (l5 : Int32).toNatClampNeg (mj_b false)) 0 0 from (ih l0 l1 l2 l3 l4 l5 (l6 + 1) (mj_wi M (mj_r M l0 23) (l5 : Int32).toNatClampNeg (mj_b false)) h)
        · replace h := mj_yy hc67 h
          refine mx_iconst (v := 1) hC dX12_holds_67 (by decide) ?_
          refine mx_goto (tgt := 72) hC dX12_holds_68 (by decide) ?_
          refine mx_zastore (b := true) hC ht65 hi66 dX12_holds_72 ?_
          refine mx_goto (tgt := 386) hC dX12_holds_73 (by decide) ?_
          refine mx_goto (tgt := 16) hC dX12_holds_386 (by decide) ?_
          refine mx_sub (L' := [(0, vR l0), (1, vI l1), (2, vI l2), (3, vI l3), (4, vI l4), (5, vI l5), (6, vI (l6 + 1))]) [2, 3, 4, 5, 6, 7, 0] rfl ?_
          exact show mj_X g 16 [(0, vR l0), (1, vI l1), (2, vI l2), (3, vI l3), (4, vI l4), (5, vI l5), (6, vI (l6 + 1))] [] (mj_wi M (mj_r M l0 23) (l5 : Int32).toNatClampNeg (mj_b true)) 0 0 from (ih l0 l1 l2 l3 l4 l5 (l6 + 1) (mj_wi M (mj_r M l0 23) (l5 : Int32).toNatClampNeg (mj_b true)) h)
set_option maxHeartbeats 4000000 in
set_option maxRecDepth 100000 in
theorem ct_X12_holds {l : Launch} {base : Nat} {D : va_G} {A : ClassId × ClassId × ClassId} (l0 : Nat) (l1 : Int32) (l2 : Int32) (l3 : Int32) (l4 : Int32) (M : mj_M) (post : Bool → mj_M → Prop) (h : vc_X12_holds l0 l1 l2 l3 l4 M post) : mj_Met l base D A mj_jB yX12_holds cX12_holds 12 (some .boolean) rm_X12_holds 0 0 [vR l0, vI l1, vI l2, vI l3, vI l4] M post := by
  refine mj_entry (by decide +kernel) (Nat.le_of_ble_eq_true rfl) (fun g hC hE h1 h2 h3 h4 => ?_)
  show mj_X g 0 [(0, vR l0), (1, vI l1), (2, vI l2), (3, vI l3), (4, vI l4)] [] M 0 0
  simp only [vc_X12_holds] at h
  refine mx_iconst (v := 0) hC dX12_holds_0 (by decide) ?_
  refine mx_istore (L' := [(5, vI 0), (0, vR l0), (1, vI l1), (2, vI l2), (3, vI l3), (4, vI l4)]) hC dX12_holds_1 (by decide) rfl ?_
  refine mx_aload_n (j := 1) hC dX12_holds_3 rfl rfl ?_
  refine mx_iconst (v := 0) hC dX12_holds_4 (by decide) ?_
  obtain ⟨ht68, h⟩ := h
  refine mx_put (v := vI 0) (M1 := mj_wi M l0 24 0) hC tf_X12_267 ht68 (Or.inl rfl) ⟨rfl, rfl⟩ (mj_off_wi _ _ _ _) mj_put_wi dX12_holds_5 ?_
  refine mx_aload_n (j := 1) hC dX12_holds_8 rfl rfl ?_
  refine mx_iconst (v := 0) hC dX12_holds_9 (by decide) ?_
  refine mx_callV (inj := mj_jV) (As := [vI 0]) (st := []) hC (ct_X12_begin l0 0 (mj_wi M l0 24 0) _ h) ty_X12_begin tw1573 ht68 rfl (Nat.le_of_ble_eq_true rfl) ⟨rfl, rfl, ⟨by decide, by decide⟩, by decide, by decide⟩ dX12_holds_10 (fun _ M69 h => ?_)
  show mj_X g 13 [(5, vI 0), (0, vR l0), (1, vI l1), (2, vI l2), (3, vI l3), (4, vI l4)] [] M69 0 0
  refine mx_iconst (v := 0) hC dX12_holds_13 (by decide) ?_
  refine mx_istore (L' := [(6, vI 0), (5, vI 0), (0, vR l0), (1, vI l1), (2, vI l2), (3, vI l3), (4, vI l4)]) hC dX12_holds_14 (by decide) rfl ?_
  refine mx_sub (L' := [(0, vR l0), (1, vI l1), (2, vI l2), (3, vI l3), (4, vI l4), (5, vI 0), (6, vI 0)]) [2, 3, 4, 5, 6, 1, 0] rfl ?_
  obtain ⟨fe, h⟩ := h
  exact show mj_X g 16 [(0, vR l0), (1, vI l1), (2, vI l2), (3, vI l3), (4, vI l4), (5, vI 0), (6, vI 0)] [] M69 0 0 from (xb_X12_holds_16 hC hE fe l0 l1 l2 l3 l4 0 0 M69 h)
theorem tw1565 : (Jvm.Cond.methodLink "LeaseLandModel" (281 : Nat) ({ cls := "LeaseLandModel", name := "actOn", desc := "(II)I" } : Jvm.MethodName)) ∈ mj_tbl := mj_w 1618 (by decide +kernel) (by decide +kernel)
theorem tw1569 : (Jvm.Cond.methodLink "LeaseLandModel" (284 : Nat) ({ cls := "LeaseLandModel", name := "holds", desc := "(IIII)Z" } : Jvm.MethodName)) ∈ mj_tbl := mj_w 1622 (by decide +kernel) (by decide +kernel)
theorem tw1568 : (Jvm.Cond.code ({ cls := "LeaseLandModel", name := "actOn", desc := "(II)I" } : Jvm.MethodName) prog_14_method_50_code (6 : Nat) (Option.some Jvm.ClassFile.FieldType.int)) ∈ mj_tbl := mj_w 1621 (by decide +kernel) (by decide +kernel)
theorem tw1567 : (Jvm.Cond.instanceMethod ({ cls := "LeaseLandModel", name := "actOn", desc := "(II)I" } : Jvm.MethodName)) ∈ mj_tbl := mj_w 1620 (by decide +kernel) (by decide +kernel)
theorem ty_X12_actOn : mj_YV 12 yX12_actOn cX12_actOn 6 (some .int) 2 := ⟨⟨tw1568, tw11, by decide +kernel, by decide +kernel, by decide +kernel⟩, tw1567, mj_w 22 (by decide +kernel) (by decide +kernel), _, rfl, rfl⟩
theorem tw1572 : (Jvm.Cond.code ({ cls := "LeaseLandModel", name := "holds", desc := "(IIII)Z" } : Jvm.MethodName) prog_14_method_53_code (12 : Nat) (Option.some Jvm.ClassFile.FieldType.boolean)) ∈ mj_tbl := mj_w 1625 (by decide +kernel) (by decide +kernel)
theorem tw1571 : (Jvm.Cond.instanceMethod ({ cls := "LeaseLandModel", name := "holds", desc := "(IIII)Z" } : Jvm.MethodName)) ∈ mj_tbl := mj_w 1624 (by decide +kernel) (by decide +kernel)
theorem ty_X12_holds : mj_YV 12 yX12_holds cX12_holds 12 (some .boolean) 4 := ⟨⟨tw1572, tw11, by decide +kernel, by decide +kernel, by decide +kernel⟩, tw1571, mj_w 23 (by decide +kernel) (by decide +kernel), _, rfl, rfl⟩
def rm_X12_rightOn : Room := { frames := 5, cells := 0, slots := 0, locals := 121 }
theorem dX12_rightOn_0 : decode cX12_rightOn 0 = .ok (.aload_n 0, 1) := by decide +kernel
theorem dX12_rightOn_1 : decode cX12_rightOn 1 = .ok (.iload_n 2, 1) := by decide +kernel
theorem dX12_rightOn_2 : decode cX12_rightOn 2 = .ok (.iload_n 3, 1) := by decide +kernel
theorem dX12_rightOn_3 : decode cX12_rightOn 3 = .ok (.invokevirtual 281, 3) := by decide +kernel
theorem dX12_rightOn_6 : decode cX12_rightOn 6 = .ok (.istore 4, 2) := by decide +kernel
theorem dX12_rightOn_8 : decode cX12_rightOn 8 = .ok (.iload 4, 2) := by decide +kernel
theorem dX12_rightOn_10 : decode cX12_rightOn 10 = .ok (.ifCond .ge 8, 3) := by decide +kernel
theorem dX12_rightOn_13 : decode cX12_rightOn 13 = .ok (.bipush (-6), 2) := by decide +kernel
theorem dX12_rightOn_15 : decode cX12_rightOn 15 = .ok (.goto 20, 3) := by decide +kernel
theorem dX12_rightOn_18 : decode cX12_rightOn 18 = .ok (.aload_n 0, 1) := by decide +kernel
theorem dX12_rightOn_19 : decode cX12_rightOn 19 = .ok (.iload 4, 2) := by decide +kernel
theorem dX12_rightOn_21 : decode cX12_rightOn 21 = .ok (.iload_n 1, 1) := by decide +kernel
theorem dX12_rightOn_22 : decode cX12_rightOn 22 = .ok (.iload_n 3, 1) := by decide +kernel
theorem dX12_rightOn_23 : decode cX12_rightOn 23 = .ok (.iconst (-1), 1) := by decide +kernel
theorem dX12_rightOn_24 : decode cX12_rightOn 24 = .ok (.invokevirtual 284, 3) := by decide +kernel
theorem dX12_rightOn_27 : decode cX12_rightOn 27 = .ok (.ifCond .eq 7, 3) := by decide +kernel
theorem dX12_rightOn_30 : decode cX12_rightOn 30 = .ok (.iconst 1, 1) := by decide +kernel
theorem dX12_rightOn_31 : decode cX12_rightOn 31 = .ok (.goto 4, 3) := by decide +kernel
theorem dX12_rightOn_34 : decode cX12_rightOn 34 = .ok (.iconst 0, 1) := by decide +kernel
theorem dX12_rightOn_35 : decode cX12_rightOn 35 = .ok (.ireturn, 1) := by decide +kernel
def vc_X12_rightOn (l0 : Nat) (l1 : Int32) (l2 : Int32) (l3 : Int32) (M : mj_M) (post : Int32 → mj_M → Prop) : Prop := mj_tag M l0 = 13 ∧ vc_X12_actOn l0 l2 l3 M (fun r2 M3 => if 0 ≤ r2 then (mj_tag M3 l0 = 13 ∧ vc_X12_holds l0 r2 l1 l3 ((-1)) M3 (fun r6 M7 => if r6 = true then (post 1 M7) else (post 0 M7))) else (post ((-6)) M3))
set_option maxHeartbeats 4000000 in
set_option maxRecDepth 100000 in
theorem ct_X12_rightOn {l : Launch} {base : Nat} {D : va_G} {A : ClassId × ClassId × ClassId} (l0 : Nat) (l1 : Int32) (l2 : Int32) (l3 : Int32) (M : mj_M) (post : Int32 → mj_M → Prop) (h : vc_X12_rightOn l0 l1 l2 l3 M post) : mj_Met l base D A mj_jI yX12_rightOn cX12_rightOn 5 (some .int) rm_X12_rightOn 0 0 [vR l0, vI l1, vI l2, vI l3] M post := by
  refine mj_entry (by decide +kernel) (Nat.le_of_ble_eq_true rfl) (fun g hC hE h1 h2 h3 h4 => ?_)
  show mj_X g 0 [(0, vR l0), (1, vI l1), (2, vI l2), (3, vI l3)] [] M 0 0
  simp only [vc_X12_rightOn] at h
  refine mx_aload_n (j := 0) hC dX12_rightOn_0 rfl rfl ?_
  refine mx_iload_n (j := 2) hC dX12_rightOn_1 rfl rfl ?_
  refine mx_iload_n (j := 3) hC dX12_rightOn_2 rfl rfl ?_
  obtain ⟨ht1, h⟩ := h
  refine mx_callV (inj := mj_jI) (As := [vI l2, vI l3]) (st := []) hC (ct_X12_actOn l0 l2 l3 M _ h) ty_X12_actOn tw1565 ht1 rfl (Nat.le_of_ble_eq_true rfl) ⟨rfl, rfl, ⟨by decide, by decide⟩, by decide, by decide⟩ dX12_rightOn_3 (fun r2 M3 h => ?_)
  show mj_X g 6 [(0, vR l0), (1, vI l1), (2, vI l2), (3, vI l3)] [vI r2] M3 0 0
  refine mx_istore (L' := [(4, vI r2), (0, vR l0), (1, vI l1), (2, vI l2), (3, vI l3)]) hC dX12_rightOn_6 (by decide) rfl ?_
  refine mx_iload (j := 0) hC dX12_rightOn_8 rfl ?_
  refine mx_ifge (tgt := 18) hC dX12_rightOn_10 (by decide) (fun hc4 => ?_) (fun hc4 => ?_)
  · replace h := mj_yy hc4 h
    refine mx_aload_n (j := 1) hC dX12_rightOn_18 rfl rfl ?_
    refine mx_iload (j := 0) hC dX12_rightOn_19 rfl ?_
    refine mx_iload_n (j := 2) hC dX12_rightOn_21 rfl rfl ?_
    refine mx_iload_n (j := 4) hC dX12_rightOn_22 rfl rfl ?_
    refine mx_iconst (v := (-1)) hC dX12_rightOn_23 (by decide) ?_
    obtain ⟨ht5, h⟩ := h
    refine mx_callV (inj := mj_jB) (As := [vI r2, vI l1, vI l3, vI ((-1))]) (st := []) hC (ct_X12_holds l0 r2 l1 l3 ((-1)) M3 _ h) ty_X12_holds tw1569 ht5 rfl (Nat.le_of_ble_eq_true rfl) ⟨rfl, rfl, ⟨by decide, by decide⟩, by decide, by decide⟩ dX12_rightOn_24 (fun r6 M7 h => ?_)
    show mj_X g 27 [(4, vI r2), (0, vR l0), (1, vI l1), (2, vI l2), (3, vI l3)] [vI (mj_b r6)] M7 0 0
    refine mx_ifeqB (tgt := 34) hC dX12_rightOn_27 (by decide) (fun hc8 => ?_) (fun hc8 => ?_)
    · replace h := mj_nn hc8 h
      refine mx_iconst (v := 0) hC dX12_rightOn_34 (by decide) ?_
      exact mx_iret hC hE rfl dX12_rightOn_35 h
    · replace h := mj_yy hc8 h
      refine mx_iconst (v := 1) hC dX12_rightOn_30 (by decide) ?_
      refine mx_goto (tgt := 35) hC dX12_rightOn_31 (by decide) ?_
      exact mx_iret hC hE rfl dX12_rightOn_35 h
  · replace h := mj_nn hc4 h
    refine mx_bipush (v := (-6)) hC dX12_rightOn_13 (by decide) ?_
    refine mx_goto (tgt := 35) hC dX12_rightOn_15 (by decide) ?_
    exact mx_iret hC hE rfl dX12_rightOn_35 h
theorem tw1561 : (Jvm.Cond.methodLink "LeaseLandModel" (287 : Nat) ({ cls := "LeaseLandModel", name := "rightOn", desc := "(III)I" } : Jvm.MethodName)) ∈ mj_tbl := mj_w 1614 (by decide +kernel) (by decide +kernel)
theorem tw1564 : (Jvm.Cond.code ({ cls := "LeaseLandModel", name := "rightOn", desc := "(III)I" } : Jvm.MethodName) prog_14_method_56_code (5 : Nat) (Option.some Jvm.ClassFile.FieldType.int)) ∈ mj_tbl := mj_w 1617 (by decide +kernel) (by decide +kernel)
theorem tw1563 : (Jvm.Cond.instanceMethod ({ cls := "LeaseLandModel", name := "rightOn", desc := "(III)I" } : Jvm.MethodName)) ∈ mj_tbl := mj_w 1616 (by decide +kernel) (by decide +kernel)
theorem ty_X12_rightOn : mj_YV 12 yX12_rightOn cX12_rightOn 5 (some .int) 3 := ⟨⟨tw1564, tw11, by decide +kernel, by decide +kernel, by decide +kernel⟩, tw1563, mj_w 21 (by decide +kernel) (by decide +kernel), _, rfl, rfl⟩
def rm_X12_right : Room := { frames := 6, cells := 0, slots := 0, locals := 145 }
theorem dX12_right_0 : decode cX12_right 0 = .ok (.aload_n 0, 1) := by decide +kernel
theorem dX12_right_1 : decode cX12_right 1 = .ok (.iload_n 1, 1) := by decide +kernel
theorem dX12_right_2 : decode cX12_right 2 = .ok (.invokevirtual 137, 3) := by decide +kernel
theorem dX12_right_5 : decode cX12_right 5 = .ok (.ifCond .eq 10, 3) := by decide +kernel
theorem dX12_right_8 : decode cX12_right 8 = .ok (.iload_n 2, 1) := by decide +kernel
theorem dX12_right_9 : decode cX12_right 9 = .ok (.invokestatic 255, 3) := by decide +kernel
theorem dX12_right_12 : decode cX12_right 12 = .ok (.ifCond .ne 5, 3) := by decide +kernel
theorem dX12_right_15 : decode cX12_right 15 = .ok (.iconst (-1), 1) := by decide +kernel
theorem dX12_right_16 : decode cX12_right 16 = .ok (.ireturn, 1) := by decide +kernel
theorem dX12_right_17 : decode cX12_right 17 = .ok (.aload_n 0, 1) := by decide +kernel
theorem dX12_right_18 : decode cX12_right 18 = .ok (.iload_n 1, 1) := by decide +kernel
theorem dX12_right_19 : decode cX12_right 19 = .ok (.aload_n 0, 1) := by decide +kernel
theorem dX12_right_20 : decode cX12_right 20 = .ok (.getfield 151, 3) := by decide +kernel
theorem dX12_right_23 : decode cX12_right 23 = .ok (.invokevirtual 187, 3) := by decide +kernel
theorem dX12_right_26 : decode cX12_right 26 = .ok (.ifCond .eq 16, 3) := by decide +kernel
theorem dX12_right_29 : decode cX12_right 29 = .ok (.aload_n 0, 1) := by decide +kernel
theorem dX12_right_30 : decode cX12_right 30 = .ok (.iload_n 1, 1) := by decide +kernel
theorem dX12_right_31 : decode cX12_right 31 = .ok (.iload_n 2, 1) := by decide +kernel
theorem dX12_right_32 : decode cX12_right 32 = .ok (.aload_n 0, 1) := by decide +kernel
theorem dX12_right_33 : decode cX12_right 33 = .ok (.getfield 151, 3) := by decide +kernel
theorem dX12_right_36 : decode cX12_right 36 = .ok (.invokevirtual 287, 3) := by decide +kernel
theorem dX12_right_39 : decode cX12_right 39 = .ok (.goto 5, 3) := by decide +kernel
theorem dX12_right_42 : decode cX12_right 42 = .ok (.bipush (-3), 2) := by decide +kernel
theorem dX12_right_44 : decode cX12_right 44 = .ok (.ireturn, 1) := by decide +kernel
def vc_X12_right (l0 : Nat) (l1 : Int32) (l2 : Int32) (M : mj_M) (post : Int32 → mj_M → Prop) : Prop := mj_tag M l0 = 13 ∧ vc_X12_isHolding l0 l1 M (fun r2 M3 => if r2 = true then (vc_X12_isKind l2 M3 (fun r5 M6 => if r5 = true then (mj_tag M6 l0 = 13 ∧ vc_X12_isOn l0 l1 (mj_i M6 l0 0) M6 (fun r9 M10 => if r9 = true then (mj_tag M10 l0 = 13 ∧ vc_X12_rightOn l0 l1 l2 (mj_i M10 l0 0) M10 (fun r13 M14 => post r13 M14)) else (post ((-3)) M10))) else (post ((-1)) M6))) else (post ((-1)) M3))
set_option maxHeartbeats 4000000 in
set_option maxRecDepth 100000 in
theorem ct_X12_right {l : Launch} {base : Nat} {D : va_G} {A : ClassId × ClassId × ClassId} (l0 : Nat) (l1 : Int32) (l2 : Int32) (M : mj_M) (post : Int32 → mj_M → Prop) (h : vc_X12_right l0 l1 l2 M post) : mj_Met l base D A mj_jI yX12_right cX12_right 3 (some .int) rm_X12_right 0 0 [vR l0, vI l1, vI l2] M post := by
  refine mj_entry (by decide +kernel) (Nat.le_of_ble_eq_true rfl) (fun g hC hE h1 h2 h3 h4 => ?_)
  show mj_X g 0 [(0, vR l0), (1, vI l1), (2, vI l2)] [] M 0 0
  simp only [vc_X12_right] at h
  refine mx_aload_n (j := 0) hC dX12_right_0 rfl rfl ?_
  refine mx_iload_n (j := 1) hC dX12_right_1 rfl rfl ?_
  obtain ⟨ht1, h⟩ := h
  refine mx_callV (inj := mj_jB) (As := [vI l1]) (st := []) hC (ct_X12_isHolding l0 l1 M _ h) ty_X12_isHolding tw1407 ht1 rfl (Nat.le_of_ble_eq_true rfl) ⟨rfl, rfl, ⟨by decide, by decide⟩, by decide, by decide⟩ dX12_right_2 (fun r2 M3 h => ?_)
  show mj_X g 5 [(0, vR l0), (1, vI l1), (2, vI l2)] [vI (mj_b r2)] M3 0 0
  refine mx_ifeqB (tgt := 15) hC dX12_right_5 (by decide) (fun hc4 => ?_) (fun hc4 => ?_)
  · replace h := mj_nn hc4 h
    refine mx_iconst (v := (-1)) hC dX12_right_15 (by decide) ?_
    exact mx_iret hC hE rfl dX12_right_16 h
  · replace h := mj_yy hc4 h
    refine mx_iload_n (j := 2) hC dX12_right_8 rfl rfl ?_
    refine mx_callS (inj := mj_jB) (As := [vI l2]) (st := []) hC (ct_X12_isKind l2 M3 _ h) ty_X12_isKind tw1553 rfl (Nat.le_of_ble_eq_true rfl) ⟨rfl, rfl, ⟨by decide, by decide⟩, by decide, by decide⟩ dX12_right_9 (fun r5 M6 h => ?_)
    show mj_X g 12 [(0, vR l0), (1, vI l1), (2, vI l2)] [vI (mj_b r5)] M6 0 0
    refine mx_ifneB (tgt := 17) hC dX12_right_12 (by decide) (fun hc7 => ?_) (fun hc7 => ?_)
    · replace h := mj_yy hc7 h
      refine mx_aload_n (j := 0) hC dX12_right_17 rfl rfl ?_
      refine mx_iload_n (j := 1) hC dX12_right_18 rfl rfl ?_
      refine mx_aload_n (j := 0) hC dX12_right_19 rfl rfl ?_
      obtain ⟨ht8, h⟩ := h
      refine mx_get (v := vI (mj_i M6 l0 0)) hC tf_X12_151 ht8 rfl dX12_right_20 ?_
      refine mx_callV (inj := mj_jB) (As := [vI l1, vI (mj_i M6 l0 0)]) (st := []) hC (ct_X12_isOn l0 l1 (mj_i M6 l0 0) M6 _ h) ty_X12_isOn tw1440 ht8 rfl (Nat.le_of_ble_eq_true rfl) ⟨rfl, rfl, ⟨by decide, by decide⟩, by decide, by decide⟩ dX12_right_23 (fun r9 M10 h => ?_)
      show mj_X g 26 [(0, vR l0), (1, vI l1), (2, vI l2)] [vI (mj_b r9)] M10 0 0
      refine mx_ifeqB (tgt := 42) hC dX12_right_26 (by decide) (fun hc11 => ?_) (fun hc11 => ?_)
      · replace h := mj_nn hc11 h
        refine mx_bipush (v := (-3)) hC dX12_right_42 (by decide) ?_
        exact mx_iret hC hE rfl dX12_right_44 h
      · replace h := mj_yy hc11 h
        refine mx_aload_n (j := 0) hC dX12_right_29 rfl rfl ?_
        refine mx_iload_n (j := 1) hC dX12_right_30 rfl rfl ?_
        refine mx_iload_n (j := 2) hC dX12_right_31 rfl rfl ?_
        refine mx_aload_n (j := 0) hC dX12_right_32 rfl rfl ?_
        obtain ⟨ht12, h⟩ := h
        refine mx_get (v := vI (mj_i M10 l0 0)) hC tf_X12_151 ht12 rfl dX12_right_33 ?_
        refine mx_callV (inj := mj_jI) (As := [vI l1, vI l2, vI (mj_i M10 l0 0)]) (st := []) hC (ct_X12_rightOn l0 l1 l2 (mj_i M10 l0 0) M10 _ h) ty_X12_rightOn tw1561 ht12 rfl (Nat.le_of_ble_eq_true rfl) ⟨rfl, rfl, ⟨by decide, by decide⟩, by decide, by decide⟩ dX12_right_36 (fun r13 M14 h => ?_)
        show mj_X g 39 [(0, vR l0), (1, vI l1), (2, vI l2)] [vI r13] M14 0 0
        refine mx_goto (tgt := 44) hC dX12_right_39 (by decide) ?_
        exact mx_iret hC hE rfl dX12_right_44 h
    · replace h := mj_nn hc7 h
      refine mx_iconst (v := (-1)) hC dX12_right_15 (by decide) ?_
      exact mx_iret hC hE rfl dX12_right_16 h
def rm_X12_decisive : Room := { frames := 5, cells := 0, slots := 0, locals := 121 }
theorem dX12_decisive_0 : decode cX12_decisive 0 = .ok (.aload_n 0, 1) := by decide +kernel
theorem dX12_decisive_1 : decode cX12_decisive 1 = .ok (.iload_n 1, 1) := by decide +kernel
theorem dX12_decisive_2 : decode cX12_decisive 2 = .ok (.invokevirtual 137, 3) := by decide +kernel
theorem dX12_decisive_5 : decode cX12_decisive 5 = .ok (.ifCond .eq 10, 3) := by decide +kernel
theorem dX12_decisive_8 : decode cX12_decisive 8 = .ok (.iload_n 2, 1) := by decide +kernel
theorem dX12_decisive_9 : decode cX12_decisive 9 = .ok (.invokestatic 255, 3) := by decide +kernel
theorem dX12_decisive_12 : decode cX12_decisive 12 = .ok (.ifCond .ne 5, 3) := by decide +kernel
theorem dX12_decisive_15 : decode cX12_decisive 15 = .ok (.iconst (-1), 1) := by decide +kernel
theorem dX12_decisive_16 : decode cX12_decisive 16 = .ok (.ireturn, 1) := by decide +kernel
theorem dX12_decisive_17 : decode cX12_decisive 17 = .ok (.aload_n 0, 1) := by decide +kernel
theorem dX12_decisive_18 : decode cX12_decisive 18 = .ok (.iload_n 1, 1) := by decide +kernel
theorem dX12_decisive_19 : decode cX12_decisive 19 = .ok (.aload_n 0, 1) := by decide +kernel
theorem dX12_decisive_20 : decode cX12_decisive 20 = .ok (.getfield 151, 3) := by decide +kernel
theorem dX12_decisive_23 : decode cX12_decisive 23 = .ok (.invokevirtual 187, 3) := by decide +kernel
theorem dX12_decisive_26 : decode cX12_decisive 26 = .ok (.ifCond .ne 6, 3) := by decide +kernel
theorem dX12_decisive_29 : decode cX12_decisive 29 = .ok (.bipush (-3), 2) := by decide +kernel
theorem dX12_decisive_31 : decode cX12_decisive 31 = .ok (.ireturn, 1) := by decide +kernel
theorem dX12_decisive_32 : decode cX12_decisive 32 = .ok (.aload_n 0, 1) := by decide +kernel
theorem dX12_decisive_33 : decode cX12_decisive 33 = .ok (.iload_n 2, 1) := by decide +kernel
theorem dX12_decisive_34 : decode cX12_decisive 34 = .ok (.aload_n 0, 1) := by decide +kernel
theorem dX12_decisive_35 : decode cX12_decisive 35 = .ok (.getfield 151, 3) := by decide +kernel
theorem dX12_decisive_38 : decode cX12_decisive 38 = .ok (.invokevirtual 281, 3) := by decide +kernel
theorem dX12_decisive_41 : decode cX12_decisive 41 = .ok (.istore_n 3, 1) := by decide +kernel
theorem dX12_decisive_42 : decode cX12_decisive 42 = .ok (.iload_n 3, 1) := by decide +kernel
theorem dX12_decisive_43 : decode cX12_decisive 43 = .ok (.ifCond .ge 6, 3) := by decide +kernel
theorem dX12_decisive_46 : decode cX12_decisive 46 = .ok (.bipush (-6), 2) := by decide +kernel
theorem dX12_decisive_48 : decode cX12_decisive 48 = .ok (.ireturn, 1) := by decide +kernel
theorem dX12_decisive_49 : decode cX12_decisive 49 = .ok (.aload_n 0, 1) := by decide +kernel
theorem dX12_decisive_50 : decode cX12_decisive 50 = .ok (.iload_n 3, 1) := by decide +kernel
theorem dX12_decisive_51 : decode cX12_decisive 51 = .ok (.iload_n 1, 1) := by decide +kernel
theorem dX12_decisive_52 : decode cX12_decisive 52 = .ok (.aload_n 0, 1) := by decide +kernel
theorem dX12_decisive_53 : decode cX12_decisive 53 = .ok (.getfield 151, 3) := by decide +kernel
theorem dX12_decisive_56 : decode cX12_decisive 56 = .ok (.iconst (-1), 1) := by decide +kernel
theorem dX12_decisive_57 : decode cX12_decisive 57 = .ok (.invokevirtual 284, 3) := by decide +kernel
theorem dX12_decisive_60 : decode cX12_decisive 60 = .ok (.istore 4, 2) := by decide +kernel
theorem dX12_decisive_62 : decode cX12_decisive 62 = .ok (.aload_n 0, 1) := by decide +kernel
theorem dX12_decisive_63 : decode cX12_decisive 63 = .ok (.getfield 267, 3) := by decide +kernel
theorem dX12_decisive_66 : decode cX12_decisive 66 = .ok (.istore 5, 2) := by decide +kernel
theorem dX12_decisive_68 : decode cX12_decisive 68 = .ok (.iconst 0, 1) := by decide +kernel
theorem dX12_decisive_69 : decode cX12_decisive 69 = .ok (.istore 6, 2) := by decide +kernel
theorem dX12_decisive_71 : decode cX12_decisive 71 = .ok (.iconst 0, 1) := by decide +kernel
theorem dX12_decisive_72 : decode cX12_decisive 72 = .ok (.istore 7, 2) := by decide +kernel
theorem dX12_decisive_74 : decode cX12_decisive 74 = .ok (.iload 7, 2) := by decide +kernel
theorem dX12_decisive_76 : decode cX12_decisive 76 = .ok (.iload 5, 2) := by decide +kernel
theorem dX12_decisive_78 : decode cX12_decisive 78 = .ok (.if_icmp .ge 39, 3) := by decide +kernel
theorem dX12_decisive_81 : decode cX12_decisive 81 = .ok (.iload 6, 2) := by decide +kernel
theorem dX12_decisive_83 : decode cX12_decisive 83 = .ok (.aload_n 0, 1) := by decide +kernel
theorem dX12_decisive_84 : decode cX12_decisive 84 = .ok (.iload_n 3, 1) := by decide +kernel
theorem dX12_decisive_85 : decode cX12_decisive 85 = .ok (.iload_n 1, 1) := by decide +kernel
theorem dX12_decisive_86 : decode cX12_decisive 86 = .ok (.aload_n 0, 1) := by decide +kernel
theorem dX12_decisive_87 : decode cX12_decisive 87 = .ok (.getfield 151, 3) := by decide +kernel
theorem dX12_decisive_90 : decode cX12_decisive 90 = .ok (.iload 7, 2) := by decide +kernel
theorem dX12_decisive_92 : decode cX12_decisive 92 = .ok (.invokevirtual 284, 3) := by decide +kernel
theorem dX12_decisive_95 : decode cX12_decisive 95 = .ok (.iload 4, 2) := by decide +kernel
theorem dX12_decisive_97 : decode cX12_decisive 97 = .ok (.if_icmp .eq 10, 3) := by decide +kernel
theorem dX12_decisive_100 : decode cX12_decisive 100 = .ok (.iconst 1, 1) := by decide +kernel
theorem dX12_decisive_101 : decode cX12_decisive 101 = .ok (.iload 7, 2) := by decide +kernel
theorem dX12_decisive_103 : decode cX12_decisive 103 = .ok (.ishl, 1) := by decide +kernel
theorem dX12_decisive_104 : decode cX12_decisive 104 = .ok (.goto 4, 3) := by decide +kernel
theorem dX12_decisive_107 : decode cX12_decisive 107 = .ok (.iconst 0, 1) := by decide +kernel
theorem dX12_decisive_108 : decode cX12_decisive 108 = .ok (.ior, 1) := by decide +kernel
theorem dX12_decisive_109 : decode cX12_decisive 109 = .ok (.istore 6, 2) := by decide +kernel
theorem dX12_decisive_111 : decode cX12_decisive 111 = .ok (.iinc 7 1, 3) := by decide +kernel
theorem dX12_decisive_114 : decode cX12_decisive 114 = .ok (.goto (-40), 3) := by decide +kernel
theorem dX12_decisive_117 : decode cX12_decisive 117 = .ok (.iload 6, 2) := by decide +kernel
theorem dX12_decisive_119 : decode cX12_decisive 119 = .ok (.ireturn, 1) := by decide +kernel
def vb_X12_decisive_74 (post : Int32 → mj_M → Prop) : Nat → Nat → Int32 → Int32 → Bool → Int32 → Int32 → Int32 → mj_M → Prop
  | 0 => fun _ _ _ _ _ _ _ _ => False
  | f + 1 => fun l0 l1 l3 l4 l5 l6 l7 M => if l5 ≤ l7 then (post l6 M) else (mj_tag M l0 = 13 ∧ vc_X12_holds l0 l3 l1 (mj_i M l0 0) l7 M (fun r3 M4 => if (mj_b r3) = (mj_b l4) then (vb_X12_decisive_74 post f l0 l1 l3 l4 l5 (l6 ||| 0) (l7 + 1) M4) else (vb_X12_decisive_74 post f l0 l1 l3 l4 l5 (l6 ||| (1 <<< (l7 &&& 31))) (l7 + 1) M4)))
def vc_X12_decisive (l0 : Nat) (l1 : Int32) (l2 : Int32) (M : mj_M) (post : Int32 → mj_M → Prop) : Prop := mj_tag M l0 = 13 ∧ vc_X12_isHolding l0 l1 M (fun r7 M8 => if r7 = true then (vc_X12_isKind l2 M8 (fun r10 M11 => if r10 = true then (mj_tag M11 l0 = 13 ∧ vc_X12_isOn l0 l1 (mj_i M11 l0 0) M11 (fun r14 M15 => if r14 = true then (mj_tag M15 l0 = 13 ∧ vc_X12_actOn l0 l2 (mj_i M15 l0 0) M15 (fun r18 M19 => if 0 ≤ r18 then (mj_tag M19 l0 = 13 ∧ vc_X12_holds l0 r18 l1 (mj_i M19 l0 0) ((-1)) M19 (fun r22 M23 => mj_tag M23 l0 = 13 ∧ ∃ fe, vb_X12_decisive_74 post fe l0 l1 r18 r22 (mj_i M23 l0 24) 0 0 M23)) else (post ((-6)) M19))) else (post ((-3)) M15))) else (post ((-1)) M11))) else (post ((-1)) M8))
set_option maxHeartbeats 4000000 in
set_option maxRecDepth 100000 in
theorem xb_X12_decisive_74 {g : mj_G} {post : Int32 → mj_M → Prop} (hC : mj_C g yX12_decisive cX12_decisive 8 (some .int) rm_X12_decisive) (hE : mj_E g mj_jI post 0 0) : ∀ (f : Nat) (l0 : Nat) (l1 : Int32) (l3 : Int32) (l4 : Bool) (l5 : Int32) (l6 : Int32) (l7 : Int32) (M : mj_M), vb_X12_decisive_74 post f l0 l1 l3 l4 l5 l6 l7 M → mj_X g 74 [(0, vR l0), (1, vI l1), (3, vI l3), (4, vI (mj_b l4)), (5, vI l5), (6, vI l6), (7, vI l7)] [] M 0 0 := by
  intro f
  induction f with
  | zero => exact fun _ _ _ _ _ _ _ _ h => absurd h (fun z => z)
  | succ f ih =>
    intro l0 l1 l3 l4 l5 l6 l7 M h
    simp only [vb_X12_decisive_74] at h
    refine mx_iload (j := 6) hC dX12_decisive_74 rfl ?_
    refine mx_iload (j := 4) hC dX12_decisive_76 rfl ?_
    refine mx_icmpge (tgt := 117) hC dX12_decisive_78 (by decide) (fun hc1 => ?_) (fun hc1 => ?_)
    · replace h := mj_yy hc1 h
      refine mx_iload (j := 5) hC dX12_decisive_117 rfl ?_
      exact mx_iret hC hE rfl dX12_decisive_119 h
    · replace h := mj_nn hc1 h
      refine mx_iload (j := 5) hC dX12_decisive_81 rfl ?_
      refine mx_aload_n (j := 0) hC dX12_decisive_83 rfl rfl ?_
      refine mx_iload_n (j := 2) hC dX12_decisive_84 rfl rfl ?_
      refine mx_iload_n (j := 1) hC dX12_decisive_85 rfl rfl ?_
      refine mx_aload_n (j := 0) hC dX12_decisive_86 rfl rfl ?_
      obtain ⟨ht2, h⟩ := h
      refine mx_get (v := vI (mj_i M l0 0)) hC tf_X12_151 ht2 rfl dX12_decisive_87 ?_
      refine mx_iload (j := 6) hC dX12_decisive_90 rfl ?_
      refine mx_callV (inj := mj_jB) (As := [vI l3, vI l1, vI (mj_i M l0 0), vI l7]) (st := [vI l6]) hC (ct_X12_holds l0 l3 l1 (mj_i M l0 0) l7 M _ h) ty_X12_holds tw1569 ht2 rfl (Nat.le_of_ble_eq_true rfl) ⟨rfl, rfl, ⟨by decide, by decide⟩, by decide, by decide⟩ dX12_decisive_92 (fun r3 M4 h => ?_)
      show mj_X g 95 [(0, vR l0), (1, vI l1), (3, vI l3), (4, vI (mj_b l4)), (5, vI l5), (6, vI l6), (7, vI l7)] [vI (mj_b r3), vI l6] M4 0 0
      refine mx_iload (j := 3) hC dX12_decisive_95 rfl ?_
      refine mx_icmpeq (tgt := 107) hC dX12_decisive_97 (by decide) (fun hc5 => ?_) (fun hc5 => ?_)
      · replace h := mj_yy hc5 h
        refine mx_iconst (v := 0) hC dX12_decisive_107 (by decide) ?_
        refine mx_ior hC dX12_decisive_108 ?_
        refine mx_istore (L' := [(6, vI (l6 ||| 0)), (0, vR l0), (1, vI l1), (3, vI l3), (4, vI (mj_b l4)), (5, vI l5), (7, vI l7)]) hC dX12_decisive_109 (by decide) rfl ?_
        refine mx_iinc (j := 6) (v := l7 + 1) (L' := [(7, vI (l7 + 1)), (6, vI (l6 ||| 0)), (0, vR l0), (1, vI l1), (3, vI l3), (4, vI (mj_b l4)), (5, vI l5)]) hC dX12_decisive_111 rfl rfl (by decide) rfl ?_
        refine mx_goto (tgt := 74) hC dX12_decisive_114 (by decide) ?_
        refine mx_sub (L' := [(0, vR l0), (1, vI l1), (3, vI l3), (4, vI (mj_b l4)), (5, vI l5), (6, vI (l6 ||| 0)), (7, vI (l7 + 1))]) [2, 3, 4, 5, 6, 1, 0] rfl ?_
        exact show mj_X g 74 [(0, vR l0), (1, vI l1), (3, vI l3), (4, vI (mj_b l4)), (5, vI l5), (6, vI (l6 ||| 0)), (7, vI (l7 + 1))] [] M4 0 0 from (ih l0 l1 l3 l4 l5 (l6 ||| 0) (l7 + 1) M4 h)
      · replace h := mj_nn hc5 h
        refine mx_iconst (v := 1) hC dX12_decisive_100 (by decide) ?_
        refine mx_iload (j := 6) hC dX12_decisive_101 rfl ?_
        refine mx_ishl hC dX12_decisive_103 ?_
        refine mx_goto (tgt := 108) hC dX12_decisive_104 (by decide) ?_
        refine mx_ior hC dX12_decisive_108 ?_
        refine mx_istore (L' := [(6, vI (l6 ||| (1 <<< (l7 &&& 31)))), (0, vR l0), (1, vI l1), (3, vI l3), (4, vI (mj_b l4)), (5, vI l5), (7, vI l7)]) hC dX12_decisive_109 (by decide) rfl ?_
        refine mx_iinc (j := 6) (v := l7 + 1) (L' := [(7, vI (l7 + 1)), (6, vI (l6 ||| (1 <<< (l7 &&& 31)))), (0, vR l0), (1, vI l1), (3, vI l3), (4, vI (mj_b l4)), (5, vI l5)]) hC dX12_decisive_111 rfl rfl (by decide) rfl ?_
        refine mx_goto (tgt := 74) hC dX12_decisive_114 (by decide) ?_
        refine mx_sub (L' := [(0, vR l0), (1, vI l1), (3, vI l3), (4, vI (mj_b l4)), (5, vI l5), (6, vI (l6 ||| (1 <<< (l7 &&& 31)))), (7, vI (l7 + 1))]) [2, 3, 4, 5, 6, 1, 0] rfl ?_
        exact show mj_X g 74 [(0, vR l0), (1, vI l1), (3, vI l3), (4, vI (mj_b l4)), (5, vI l5), (6, vI (l6 ||| (1 <<< (l7 &&& 31)))), (7, vI (l7 + 1))] [] M4 0 0 from (ih l0 l1 l3 l4 l5 (l6 ||| (1 <<< (l7 &&& 31))) (l7 + 1) M4 h)
set_option maxHeartbeats 4000000 in
set_option maxRecDepth 100000 in
theorem ct_X12_decisive {l : Launch} {base : Nat} {D : va_G} {A : ClassId × ClassId × ClassId} (l0 : Nat) (l1 : Int32) (l2 : Int32) (M : mj_M) (post : Int32 → mj_M → Prop) (h : vc_X12_decisive l0 l1 l2 M post) : mj_Met l base D A mj_jI yX12_decisive cX12_decisive 8 (some .int) rm_X12_decisive 0 0 [vR l0, vI l1, vI l2] M post := by
  refine mj_entry (by decide +kernel) (Nat.le_of_ble_eq_true rfl) (fun g hC hE h1 h2 h3 h4 => ?_)
  show mj_X g 0 [(0, vR l0), (1, vI l1), (2, vI l2)] [] M 0 0
  simp only [vc_X12_decisive] at h
  refine mx_aload_n (j := 0) hC dX12_decisive_0 rfl rfl ?_
  refine mx_iload_n (j := 1) hC dX12_decisive_1 rfl rfl ?_
  obtain ⟨ht6, h⟩ := h
  refine mx_callV (inj := mj_jB) (As := [vI l1]) (st := []) hC (ct_X12_isHolding l0 l1 M _ h) ty_X12_isHolding tw1407 ht6 rfl (Nat.le_of_ble_eq_true rfl) ⟨rfl, rfl, ⟨by decide, by decide⟩, by decide, by decide⟩ dX12_decisive_2 (fun r7 M8 h => ?_)
  show mj_X g 5 [(0, vR l0), (1, vI l1), (2, vI l2)] [vI (mj_b r7)] M8 0 0
  refine mx_ifeqB (tgt := 15) hC dX12_decisive_5 (by decide) (fun hc9 => ?_) (fun hc9 => ?_)
  · replace h := mj_nn hc9 h
    refine mx_iconst (v := (-1)) hC dX12_decisive_15 (by decide) ?_
    exact mx_iret hC hE rfl dX12_decisive_16 h
  · replace h := mj_yy hc9 h
    refine mx_iload_n (j := 2) hC dX12_decisive_8 rfl rfl ?_
    refine mx_callS (inj := mj_jB) (As := [vI l2]) (st := []) hC (ct_X12_isKind l2 M8 _ h) ty_X12_isKind tw1553 rfl (Nat.le_of_ble_eq_true rfl) ⟨rfl, rfl, ⟨by decide, by decide⟩, by decide, by decide⟩ dX12_decisive_9 (fun r10 M11 h => ?_)
    show mj_X g 12 [(0, vR l0), (1, vI l1), (2, vI l2)] [vI (mj_b r10)] M11 0 0
    refine mx_ifneB (tgt := 17) hC dX12_decisive_12 (by decide) (fun hc12 => ?_) (fun hc12 => ?_)
    · replace h := mj_yy hc12 h
      refine mx_aload_n (j := 0) hC dX12_decisive_17 rfl rfl ?_
      refine mx_iload_n (j := 1) hC dX12_decisive_18 rfl rfl ?_
      refine mx_aload_n (j := 0) hC dX12_decisive_19 rfl rfl ?_
      obtain ⟨ht13, h⟩ := h
      refine mx_get (v := vI (mj_i M11 l0 0)) hC tf_X12_151 ht13 rfl dX12_decisive_20 ?_
      refine mx_callV (inj := mj_jB) (As := [vI l1, vI (mj_i M11 l0 0)]) (st := []) hC (ct_X12_isOn l0 l1 (mj_i M11 l0 0) M11 _ h) ty_X12_isOn tw1440 ht13 rfl (Nat.le_of_ble_eq_true rfl) ⟨rfl, rfl, ⟨by decide, by decide⟩, by decide, by decide⟩ dX12_decisive_23 (fun r14 M15 h => ?_)
      show mj_X g 26 [(0, vR l0), (1, vI l1), (2, vI l2)] [vI (mj_b r14)] M15 0 0
      refine mx_ifneB (tgt := 32) hC dX12_decisive_26 (by decide) (fun hc16 => ?_) (fun hc16 => ?_)
      · replace h := mj_yy hc16 h
        refine mx_aload_n (j := 0) hC dX12_decisive_32 rfl rfl ?_
        refine mx_iload_n (j := 2) hC dX12_decisive_33 rfl rfl ?_
        refine mx_aload_n (j := 0) hC dX12_decisive_34 rfl rfl ?_
        obtain ⟨ht17, h⟩ := h
        refine mx_get (v := vI (mj_i M15 l0 0)) hC tf_X12_151 ht17 rfl dX12_decisive_35 ?_
        refine mx_callV (inj := mj_jI) (As := [vI l2, vI (mj_i M15 l0 0)]) (st := []) hC (ct_X12_actOn l0 l2 (mj_i M15 l0 0) M15 _ h) ty_X12_actOn tw1565 ht17 rfl (Nat.le_of_ble_eq_true rfl) ⟨rfl, rfl, ⟨by decide, by decide⟩, by decide, by decide⟩ dX12_decisive_38 (fun r18 M19 h => ?_)
        show mj_X g 41 [(0, vR l0), (1, vI l1), (2, vI l2)] [vI r18] M19 0 0
        refine mx_istore_n (L' := [(3, vI r18), (0, vR l0), (1, vI l1), (2, vI l2)]) hC dX12_decisive_41 rfl (by decide) rfl ?_
        refine mx_iload_n (j := 0) hC dX12_decisive_42 rfl rfl ?_
        refine mx_ifge (tgt := 49) hC dX12_decisive_43 (by decide) (fun hc20 => ?_) (fun hc20 => ?_)
        · replace h := mj_yy hc20 h
          refine mx_aload_n (j := 1) hC dX12_decisive_49 rfl rfl ?_
          refine mx_iload_n (j := 0) hC dX12_decisive_50 rfl rfl ?_
          refine mx_iload_n (j := 2) hC dX12_decisive_51 rfl rfl ?_
          refine mx_aload_n (j := 1) hC dX12_decisive_52 rfl rfl ?_
          obtain ⟨ht21, h⟩ := h
          refine mx_get (v := vI (mj_i M19 l0 0)) hC tf_X12_151 ht21 rfl dX12_decisive_53 ?_
          refine mx_iconst (v := (-1)) hC dX12_decisive_56 (by decide) ?_
          refine mx_callV (inj := mj_jB) (As := [vI r18, vI l1, vI (mj_i M19 l0 0), vI ((-1))]) (st := []) hC (ct_X12_holds l0 r18 l1 (mj_i M19 l0 0) ((-1)) M19 _ h) ty_X12_holds tw1569 ht21 rfl (Nat.le_of_ble_eq_true rfl) ⟨rfl, rfl, ⟨by decide, by decide⟩, by decide, by decide⟩ dX12_decisive_57 (fun r22 M23 h => ?_)
          show mj_X g 60 [(3, vI r18), (0, vR l0), (1, vI l1), (2, vI l2)] [vI (mj_b r22)] M23 0 0
          refine mx_istore (L' := [(4, vI (mj_b r22)), (3, vI r18), (0, vR l0), (1, vI l1), (2, vI l2)]) hC dX12_decisive_60 (by decide) rfl ?_
          refine mx_aload_n (j := 2) hC dX12_decisive_62 rfl rfl ?_
          obtain ⟨ht24, h⟩ := h
          refine mx_get (v := vI (mj_i M23 l0 24)) hC tf_X12_267 ht24 rfl dX12_decisive_63 ?_
          refine mx_istore (L' := [(5, vI (mj_i M23 l0 24)), (4, vI (mj_b r22)), (3, vI r18), (0, vR l0), (1, vI l1), (2, vI l2)]) hC dX12_decisive_66 (by decide) rfl ?_
          refine mx_iconst (v := 0) hC dX12_decisive_68 (by decide) ?_
          refine mx_istore (L' := [(6, vI 0), (5, vI (mj_i M23 l0 24)), (4, vI (mj_b r22)), (3, vI r18), (0, vR l0), (1, vI l1), (2, vI l2)]) hC dX12_decisive_69 (by decide) rfl ?_
          refine mx_iconst (v := 0) hC dX12_decisive_71 (by decide) ?_
          refine mx_istore (L' := [(7, vI 0), (6, vI 0), (5, vI (mj_i M23 l0 24)), (4, vI (mj_b r22)), (3, vI r18), (0, vR l0), (1, vI l1), (2, vI l2)]) hC dX12_decisive_72 (by decide) rfl ?_
          refine mx_sub (L' := [(0, vR l0), (1, vI l1), (3, vI r18), (4, vI (mj_b r22)), (5, vI (mj_i M23 l0 24)), (6, vI 0), (7, vI 0)]) [5, 6, 4, 3, 2, 1, 0] rfl ?_
          obtain ⟨fe, h⟩ := h
          exact show mj_X g 74 [(0, vR l0), (1, vI l1), (3, vI r18), (4, vI (mj_b r22)), (5, vI (mj_i M23 l0 24)), (6, vI 0), (7, vI 0)] [] M23 0 0 from (xb_X12_decisive_74 hC hE fe l0 l1 r18 r22 (mj_i M23 l0 24) 0 0 M23 h)
        · replace h := mj_nn hc20 h
          refine mx_bipush (v := (-6)) hC dX12_decisive_46 (by decide) ?_
          exact mx_iret hC hE rfl dX12_decisive_48 h
      · replace h := mj_nn hc16 h
        refine mx_bipush (v := (-3)) hC dX12_decisive_29 (by decide) ?_
        exact mx_iret hC hE rfl dX12_decisive_31 h
    · replace h := mj_nn hc12 h
      refine mx_iconst (v := (-1)) hC dX12_decisive_15 (by decide) ?_
      exact mx_iret hC hE rfl dX12_decisive_16 h
def rm_X12_fact : Room := { frames := 4, cells := 0, slots := 0, locals := 90 }
theorem dX12_fact_0 : decode cX12_fact 0 = .ok (.aload_n 0, 1) := by decide +kernel
theorem dX12_fact_1 : decode cX12_fact 1 = .ok (.iload_n 1, 1) := by decide +kernel
theorem dX12_fact_2 : decode cX12_fact 2 = .ok (.invokevirtual 137, 3) := by decide +kernel
theorem dX12_fact_5 : decode cX12_fact 5 = .ok (.ifCond .ne 5, 3) := by decide +kernel
theorem dX12_fact_8 : decode cX12_fact 8 = .ok (.iconst (-1), 1) := by decide +kernel
theorem dX12_fact_9 : decode cX12_fact 9 = .ok (.ireturn, 1) := by decide +kernel
theorem dX12_fact_10 : decode cX12_fact 10 = .ok (.iload_n 2, 1) := by decide +kernel
theorem dX12_fact_11 : decode cX12_fact 11 = .ok (.invokestatic 240, 3) := by decide +kernel
theorem dX12_fact_14 : decode cX12_fact 14 = .ok (.ifCond .ne 6, 3) := by decide +kernel
theorem dX12_fact_17 : decode cX12_fact 17 = .ok (.bipush (-2), 2) := by decide +kernel
theorem dX12_fact_19 : decode cX12_fact 19 = .ok (.ireturn, 1) := by decide +kernel
theorem dX12_fact_20 : decode cX12_fact 20 = .ok (.aload_n 0, 1) := by decide +kernel
theorem dX12_fact_21 : decode cX12_fact 21 = .ok (.iload_n 1, 1) := by decide +kernel
theorem dX12_fact_22 : decode cX12_fact 22 = .ok (.aload_n 0, 1) := by decide +kernel
theorem dX12_fact_23 : decode cX12_fact 23 = .ok (.getfield 151, 3) := by decide +kernel
theorem dX12_fact_26 : decode cX12_fact 26 = .ok (.invokevirtual 187, 3) := by decide +kernel
theorem dX12_fact_29 : decode cX12_fact 29 = .ok (.ifCond .eq 16, 3) := by decide +kernel
theorem dX12_fact_32 : decode cX12_fact 32 = .ok (.aload_n 0, 1) := by decide +kernel
theorem dX12_fact_33 : decode cX12_fact 33 = .ok (.iload_n 1, 1) := by decide +kernel
theorem dX12_fact_34 : decode cX12_fact 34 = .ok (.iload_n 2, 1) := by decide +kernel
theorem dX12_fact_35 : decode cX12_fact 35 = .ok (.aload_n 0, 1) := by decide +kernel
theorem dX12_fact_36 : decode cX12_fact 36 = .ok (.getfield 151, 3) := by decide +kernel
theorem dX12_fact_39 : decode cX12_fact 39 = .ok (.invokevirtual 278, 3) := by decide +kernel
theorem dX12_fact_42 : decode cX12_fact 42 = .ok (.goto 5, 3) := by decide +kernel
theorem dX12_fact_45 : decode cX12_fact 45 = .ok (.bipush (-3), 2) := by decide +kernel
theorem dX12_fact_47 : decode cX12_fact 47 = .ok (.ireturn, 1) := by decide +kernel
def vc_X12_fact (l0 : Nat) (l1 : Int32) (l2 : Int32) (M : mj_M) (post : Int32 → mj_M → Prop) : Prop := mj_tag M l0 = 13 ∧ vc_X12_isHolding l0 l1 M (fun r2 M3 => if r2 = true then (vc_X12_isFact l2 M3 (fun r5 M6 => if r5 = true then (mj_tag M6 l0 = 13 ∧ vc_X12_isOn l0 l1 (mj_i M6 l0 0) M6 (fun r9 M10 => if r9 = true then (mj_tag M10 l0 = 13 ∧ vc_X12_factOf l0 l1 l2 (mj_i M10 l0 0) M10 (fun r13 M14 => post r13 M14)) else (post ((-3)) M10))) else (post ((-2)) M6))) else (post ((-1)) M3))
set_option maxHeartbeats 4000000 in
set_option maxRecDepth 100000 in
theorem ct_X12_fact {l : Launch} {base : Nat} {D : va_G} {A : ClassId × ClassId × ClassId} (l0 : Nat) (l1 : Int32) (l2 : Int32) (M : mj_M) (post : Int32 → mj_M → Prop) (h : vc_X12_fact l0 l1 l2 M post) : mj_Met l base D A mj_jI yX12_fact cX12_fact 3 (some .int) rm_X12_fact 0 0 [vR l0, vI l1, vI l2] M post := by
  refine mj_entry (by decide +kernel) (Nat.le_of_ble_eq_true rfl) (fun g hC hE h1 h2 h3 h4 => ?_)
  show mj_X g 0 [(0, vR l0), (1, vI l1), (2, vI l2)] [] M 0 0
  simp only [vc_X12_fact] at h
  refine mx_aload_n (j := 0) hC dX12_fact_0 rfl rfl ?_
  refine mx_iload_n (j := 1) hC dX12_fact_1 rfl rfl ?_
  obtain ⟨ht1, h⟩ := h
  refine mx_callV (inj := mj_jB) (As := [vI l1]) (st := []) hC (ct_X12_isHolding l0 l1 M _ h) ty_X12_isHolding tw1407 ht1 rfl (Nat.le_of_ble_eq_true rfl) ⟨rfl, rfl, ⟨by decide, by decide⟩, by decide, by decide⟩ dX12_fact_2 (fun r2 M3 h => ?_)
  show mj_X g 5 [(0, vR l0), (1, vI l1), (2, vI l2)] [vI (mj_b r2)] M3 0 0
  refine mx_ifneB (tgt := 10) hC dX12_fact_5 (by decide) (fun hc4 => ?_) (fun hc4 => ?_)
  · replace h := mj_yy hc4 h
    refine mx_iload_n (j := 2) hC dX12_fact_10 rfl rfl ?_
    refine mx_callS (inj := mj_jB) (As := [vI l2]) (st := []) hC (ct_X12_isFact l2 M3 _ h) ty_X12_isFact tw1541 rfl (Nat.le_of_ble_eq_true rfl) ⟨rfl, rfl, ⟨by decide, by decide⟩, by decide, by decide⟩ dX12_fact_11 (fun r5 M6 h => ?_)
    show mj_X g 14 [(0, vR l0), (1, vI l1), (2, vI l2)] [vI (mj_b r5)] M6 0 0
    refine mx_ifneB (tgt := 20) hC dX12_fact_14 (by decide) (fun hc7 => ?_) (fun hc7 => ?_)
    · replace h := mj_yy hc7 h
      refine mx_aload_n (j := 0) hC dX12_fact_20 rfl rfl ?_
      refine mx_iload_n (j := 1) hC dX12_fact_21 rfl rfl ?_
      refine mx_aload_n (j := 0) hC dX12_fact_22 rfl rfl ?_
      obtain ⟨ht8, h⟩ := h
      refine mx_get (v := vI (mj_i M6 l0 0)) hC tf_X12_151 ht8 rfl dX12_fact_23 ?_
      refine mx_callV (inj := mj_jB) (As := [vI l1, vI (mj_i M6 l0 0)]) (st := []) hC (ct_X12_isOn l0 l1 (mj_i M6 l0 0) M6 _ h) ty_X12_isOn tw1440 ht8 rfl (Nat.le_of_ble_eq_true rfl) ⟨rfl, rfl, ⟨by decide, by decide⟩, by decide, by decide⟩ dX12_fact_26 (fun r9 M10 h => ?_)
      show mj_X g 29 [(0, vR l0), (1, vI l1), (2, vI l2)] [vI (mj_b r9)] M10 0 0
      refine mx_ifeqB (tgt := 45) hC dX12_fact_29 (by decide) (fun hc11 => ?_) (fun hc11 => ?_)
      · replace h := mj_nn hc11 h
        refine mx_bipush (v := (-3)) hC dX12_fact_45 (by decide) ?_
        exact mx_iret hC hE rfl dX12_fact_47 h
      · replace h := mj_yy hc11 h
        refine mx_aload_n (j := 0) hC dX12_fact_32 rfl rfl ?_
        refine mx_iload_n (j := 1) hC dX12_fact_33 rfl rfl ?_
        refine mx_iload_n (j := 2) hC dX12_fact_34 rfl rfl ?_
        refine mx_aload_n (j := 0) hC dX12_fact_35 rfl rfl ?_
        obtain ⟨ht12, h⟩ := h
        refine mx_get (v := vI (mj_i M10 l0 0)) hC tf_X12_151 ht12 rfl dX12_fact_36 ?_
        refine mx_callV (inj := mj_jI) (As := [vI l1, vI l2, vI (mj_i M10 l0 0)]) (st := []) hC (ct_X12_factOf l0 l1 l2 (mj_i M10 l0 0) M10 _ h) ty_X12_factOf tw1581 ht12 rfl (Nat.le_of_ble_eq_true rfl) ⟨rfl, rfl, ⟨by decide, by decide⟩, by decide, by decide⟩ dX12_fact_39 (fun r13 M14 h => ?_)
        show mj_X g 42 [(0, vR l0), (1, vI l1), (2, vI l2)] [vI r13] M14 0 0
        refine mx_goto (tgt := 47) hC dX12_fact_42 (by decide) ?_
        exact mx_iret hC hE rfl dX12_fact_47 h
    · replace h := mj_nn hc7 h
      refine mx_bipush (v := (-2)) hC dX12_fact_17 (by decide) ?_
      exact mx_iret hC hE rfl dX12_fact_19 h
  · replace h := mj_nn hc4 h
    refine mx_iconst (v := (-1)) hC dX12_fact_8 (by decide) ?_
    exact mx_iret hC hE rfl dX12_fact_9 h
def rm_X12_first : Room := { frames := 6, cells := 0, slots := 0, locals := 145 }
theorem dX12_first_0 : decode cX12_first 0 = .ok (.aload_n 0, 1) := by decide +kernel
theorem dX12_first_1 : decode cX12_first 1 = .ok (.iload_n 1, 1) := by decide +kernel
theorem dX12_first_2 : decode cX12_first 2 = .ok (.invokevirtual 137, 3) := by decide +kernel
theorem dX12_first_5 : decode cX12_first 5 = .ok (.ifCond .eq 10, 3) := by decide +kernel
theorem dX12_first_8 : decode cX12_first 8 = .ok (.iload_n 2, 1) := by decide +kernel
theorem dX12_first_9 : decode cX12_first 9 = .ok (.invokestatic 255, 3) := by decide +kernel
theorem dX12_first_12 : decode cX12_first 12 = .ok (.ifCond .ne 5, 3) := by decide +kernel
theorem dX12_first_15 : decode cX12_first 15 = .ok (.iconst (-1), 1) := by decide +kernel
theorem dX12_first_16 : decode cX12_first 16 = .ok (.ireturn, 1) := by decide +kernel
theorem dX12_first_17 : decode cX12_first 17 = .ok (.aload_n 0, 1) := by decide +kernel
theorem dX12_first_18 : decode cX12_first 18 = .ok (.getfield 151, 3) := by decide +kernel
theorem dX12_first_21 : decode cX12_first 21 = .ok (.istore_n 3, 1) := by decide +kernel
theorem dX12_first_22 : decode cX12_first 22 = .ok (.iload_n 3, 1) := by decide +kernel
theorem dX12_first_23 : decode cX12_first 23 = .ok (.aload_n 0, 1) := by decide +kernel
theorem dX12_first_24 : decode cX12_first 24 = .ok (.getfield 151, 3) := by decide +kernel
theorem dX12_first_27 : decode cX12_first 27 = .ok (.sipush 1000, 3) := by decide +kernel
theorem dX12_first_30 : decode cX12_first 30 = .ok (.iadd, 1) := by decide +kernel
theorem dX12_first_31 : decode cX12_first 31 = .ok (.if_icmp .ge 37, 3) := by decide +kernel
theorem dX12_first_34 : decode cX12_first 34 = .ok (.iload_n 3, 1) := by decide +kernel
theorem dX12_first_35 : decode cX12_first 35 = .ok (.ldc 160, 2) := by decide +kernel
theorem dX12_first_37 : decode cX12_first 37 = .ok (.if_icmp .gt 31, 3) := by decide +kernel
theorem dX12_first_40 : decode cX12_first 40 = .ok (.aload_n 0, 1) := by decide +kernel
theorem dX12_first_41 : decode cX12_first 41 = .ok (.iload_n 1, 1) := by decide +kernel
theorem dX12_first_42 : decode cX12_first 42 = .ok (.iload_n 3, 1) := by decide +kernel
theorem dX12_first_43 : decode cX12_first 43 = .ok (.invokevirtual 187, 3) := by decide +kernel
theorem dX12_first_46 : decode cX12_first 46 = .ok (.ifCond .eq 16, 3) := by decide +kernel
theorem dX12_first_49 : decode cX12_first 49 = .ok (.aload_n 0, 1) := by decide +kernel
theorem dX12_first_50 : decode cX12_first 50 = .ok (.iload_n 1, 1) := by decide +kernel
theorem dX12_first_51 : decode cX12_first 51 = .ok (.iload_n 2, 1) := by decide +kernel
theorem dX12_first_52 : decode cX12_first 52 = .ok (.iload_n 3, 1) := by decide +kernel
theorem dX12_first_53 : decode cX12_first 53 = .ok (.invokevirtual 287, 3) := by decide +kernel
theorem dX12_first_56 : decode cX12_first 56 = .ok (.iconst 1, 1) := by decide +kernel
theorem dX12_first_57 : decode cX12_first 57 = .ok (.if_icmp .ne 5, 3) := by decide +kernel
theorem dX12_first_60 : decode cX12_first 60 = .ok (.iload_n 3, 1) := by decide +kernel
theorem dX12_first_61 : decode cX12_first 61 = .ok (.ireturn, 1) := by decide +kernel
theorem dX12_first_62 : decode cX12_first 62 = .ok (.iinc 3 1, 3) := by decide +kernel
theorem dX12_first_65 : decode cX12_first 65 = .ok (.goto (-43), 3) := by decide +kernel
theorem dX12_first_68 : decode cX12_first 68 = .ok (.bipush (-6), 2) := by decide +kernel
theorem dX12_first_70 : decode cX12_first 70 = .ok (.ireturn, 1) := by decide +kernel
def vb_X12_first_22 (post : Int32 → mj_M → Prop) : Nat → Nat → Int32 → Int32 → Int32 → mj_M → Prop
  | 0 => fun _ _ _ _ _ => False
  | f + 1 => fun l0 l1 l2 l3 M => mj_tag M l0 = 13 ∧ if ((mj_i M l0 0) + 1000) ≤ l3 then (post ((-6)) M) else (if 73000 < l3 then (post ((-6)) M) else (vc_X12_isOn l0 l1 l3 M (fun r4 M5 => if r4 = true then (mj_tag M5 l0 = 13 ∧ vc_X12_rightOn l0 l1 l2 l3 M5 (fun r8 M9 => if r8 = 1 then (post l3 M9) else (vb_X12_first_22 post f l0 l1 l2 (l3 + 1) M9))) else (vb_X12_first_22 post f l0 l1 l2 (l3 + 1) M5))))
def vc_X12_first (l0 : Nat) (l1 : Int32) (l2 : Int32) (M : mj_M) (post : Int32 → mj_M → Prop) : Prop := mj_tag M l0 = 13 ∧ vc_X12_isHolding l0 l1 M (fun r12 M13 => if r12 = true then (vc_X12_isKind l2 M13 (fun r15 M16 => if r15 = true then (mj_tag M16 l0 = 13 ∧ ∃ fe, vb_X12_first_22 post fe l0 l1 l2 (mj_i M16 l0 0) M16) else (post ((-1)) M16))) else (post ((-1)) M13))
set_option maxHeartbeats 4000000 in
set_option maxRecDepth 100000 in
theorem xb_X12_first_22 {g : mj_G} {post : Int32 → mj_M → Prop} (hC : mj_C g yX12_first cX12_first 4 (some .int) rm_X12_first) (hE : mj_E g mj_jI post 0 0) : ∀ (f : Nat) (l0 : Nat) (l1 : Int32) (l2 : Int32) (l3 : Int32) (M : mj_M), vb_X12_first_22 post f l0 l1 l2 l3 M → mj_X g 22 [(0, vR l0), (1, vI l1), (2, vI l2), (3, vI l3)] [] M 0 0 := by
  intro f
  induction f with
  | zero => exact fun _ _ _ _ _ h => absurd h (fun z => z)
  | succ f ih =>
    intro l0 l1 l2 l3 M h
    simp only [vb_X12_first_22] at h
    refine mx_iload_n (j := 3) hC dX12_first_22 rfl rfl ?_
    refine mx_aload_n (j := 0) hC dX12_first_23 rfl rfl ?_
    obtain ⟨ht1, h⟩ := h
    refine mx_get (v := vI (mj_i M l0 0)) hC tf_X12_151 ht1 rfl dX12_first_24 ?_
    refine mx_sipush (v := 1000) hC dX12_first_27 (by decide) ?_
    refine mx_iadd hC dX12_first_30 ?_
    refine mx_icmpge (tgt := 68) hC dX12_first_31 (by decide) (fun hc2 => ?_) (fun hc2 => ?_)
    · replace h := mj_yy hc2 h
      refine mx_bipush (v := (-6)) hC dX12_first_68 (by decide) ?_
      exact mx_iret hC hE rfl dX12_first_70 h
    · replace h := mj_nn hc2 h
      refine mx_iload_n (j := 3) hC dX12_first_34 rfl rfl ?_
      refine mx_ldc (v := 73000) hC dX12_first_35 tw1394 ?_
      refine mx_icmpgt (tgt := 68) hC dX12_first_37 (by decide) (fun hc3 => ?_) (fun hc3 => ?_)
      · replace h := mj_yy hc3 h
        refine mx_bipush (v := (-6)) hC dX12_first_68 (by decide) ?_
        exact mx_iret hC hE rfl dX12_first_70 h
      · replace h := mj_nn hc3 h
        refine mx_aload_n (j := 0) hC dX12_first_40 rfl rfl ?_
        refine mx_iload_n (j := 1) hC dX12_first_41 rfl rfl ?_
        refine mx_iload_n (j := 3) hC dX12_first_42 rfl rfl ?_
        refine mx_callV (inj := mj_jB) (As := [vI l1, vI l3]) (st := []) hC (ct_X12_isOn l0 l1 l3 M _ h) ty_X12_isOn tw1440 ht1 rfl (Nat.le_of_ble_eq_true rfl) ⟨rfl, rfl, ⟨by decide, by decide⟩, by decide, by decide⟩ dX12_first_43 (fun r4 M5 h => ?_)
        show mj_X g 46 [(0, vR l0), (1, vI l1), (2, vI l2), (3, vI l3)] [vI (mj_b r4)] M5 0 0
        refine mx_ifeqB (tgt := 62) hC dX12_first_46 (by decide) (fun hc6 => ?_) (fun hc6 => ?_)
        · replace h := mj_nn hc6 h
          refine mx_iinc (j := 3) (v := l3 + 1) (L' := [(3, vI (l3 + 1)), (0, vR l0), (1, vI l1), (2, vI l2)]) hC dX12_first_62 rfl rfl (by decide) rfl ?_
          refine mx_goto (tgt := 22) hC dX12_first_65 (by decide) ?_
          refine mx_sub (L' := [(0, vR l0), (1, vI l1), (2, vI l2), (3, vI (l3 + 1))]) [1, 2, 3, 0] rfl ?_
          exact show mj_X g 22 [(0, vR l0), (1, vI l1), (2, vI l2), (3, vI (l3 + 1))] [] M5 0 0 from (ih l0 l1 l2 (l3 + 1) M5 h)
        · replace h := mj_yy hc6 h
          refine mx_aload_n (j := 0) hC dX12_first_49 rfl rfl ?_
          refine mx_iload_n (j := 1) hC dX12_first_50 rfl rfl ?_
          refine mx_iload_n (j := 2) hC dX12_first_51 rfl rfl ?_
          refine mx_iload_n (j := 3) hC dX12_first_52 rfl rfl ?_
          obtain ⟨ht7, h⟩ := h
          refine mx_callV (inj := mj_jI) (As := [vI l1, vI l2, vI l3]) (st := []) hC (ct_X12_rightOn l0 l1 l2 l3 M5 _ h) ty_X12_rightOn tw1561 ht7 rfl (Nat.le_of_ble_eq_true rfl) ⟨rfl, rfl, ⟨by decide, by decide⟩, by decide, by decide⟩ dX12_first_53 (fun r8 M9 h => ?_)
          show mj_X g 56 [(0, vR l0), (1, vI l1), (2, vI l2), (3, vI l3)] [vI r8] M9 0 0
          refine mx_iconst (v := 1) hC dX12_first_56 (by decide) ?_
          refine mx_icmpne (tgt := 62) hC dX12_first_57 (by decide) (fun hc10 => ?_) (fun hc10 => ?_)
          · replace h := mj_nn hc10 h
            refine mx_iinc (j := 3) (v := l3 + 1) (L' := [(3, vI (l3 + 1)), (0, vR l0), (1, vI l1), (2, vI l2)]) hC dX12_first_62 rfl rfl (by decide) rfl ?_
            refine mx_goto (tgt := 22) hC dX12_first_65 (by decide) ?_
            refine mx_sub (L' := [(0, vR l0), (1, vI l1), (2, vI l2), (3, vI (l3 + 1))]) [1, 2, 3, 0] rfl ?_
            exact show mj_X g 22 [(0, vR l0), (1, vI l1), (2, vI l2), (3, vI (l3 + 1))] [] M9 0 0 from (ih l0 l1 l2 (l3 + 1) M9 h)
          · replace h := mj_yy hc10 h
            refine mx_iload_n (j := 3) hC dX12_first_60 rfl rfl ?_
            exact mx_iret hC hE rfl dX12_first_61 h
set_option maxHeartbeats 4000000 in
set_option maxRecDepth 100000 in
theorem ct_X12_first {l : Launch} {base : Nat} {D : va_G} {A : ClassId × ClassId × ClassId} (l0 : Nat) (l1 : Int32) (l2 : Int32) (M : mj_M) (post : Int32 → mj_M → Prop) (h : vc_X12_first l0 l1 l2 M post) : mj_Met l base D A mj_jI yX12_first cX12_first 4 (some .int) rm_X12_first 0 0 [vR l0, vI l1, vI l2] M post := by
  refine mj_entry (by decide +kernel) (Nat.le_of_ble_eq_true rfl) (fun g hC hE h1 h2 h3 h4 => ?_)
  show mj_X g 0 [(0, vR l0), (1, vI l1), (2, vI l2)] [] M 0 0
  simp only [vc_X12_first] at h
  refine mx_aload_n (j := 0) hC dX12_first_0 rfl rfl ?_
  refine mx_iload_n (j := 1) hC dX12_first_1 rfl rfl ?_
  obtain ⟨ht11, h⟩ := h
  refine mx_callV (inj := mj_jB) (As := [vI l1]) (st := []) hC (ct_X12_isHolding l0 l1 M _ h) ty_X12_isHolding tw1407 ht11 rfl (Nat.le_of_ble_eq_true rfl) ⟨rfl, rfl, ⟨by decide, by decide⟩, by decide, by decide⟩ dX12_first_2 (fun r12 M13 h => ?_)
  show mj_X g 5 [(0, vR l0), (1, vI l1), (2, vI l2)] [vI (mj_b r12)] M13 0 0
  refine mx_ifeqB (tgt := 15) hC dX12_first_5 (by decide) (fun hc14 => ?_) (fun hc14 => ?_)
  · replace h := mj_nn hc14 h
    refine mx_iconst (v := (-1)) hC dX12_first_15 (by decide) ?_
    exact mx_iret hC hE rfl dX12_first_16 h
  · replace h := mj_yy hc14 h
    refine mx_iload_n (j := 2) hC dX12_first_8 rfl rfl ?_
    refine mx_callS (inj := mj_jB) (As := [vI l2]) (st := []) hC (ct_X12_isKind l2 M13 _ h) ty_X12_isKind tw1553 rfl (Nat.le_of_ble_eq_true rfl) ⟨rfl, rfl, ⟨by decide, by decide⟩, by decide, by decide⟩ dX12_first_9 (fun r15 M16 h => ?_)
    show mj_X g 12 [(0, vR l0), (1, vI l1), (2, vI l2)] [vI (mj_b r15)] M16 0 0
    refine mx_ifneB (tgt := 17) hC dX12_first_12 (by decide) (fun hc17 => ?_) (fun hc17 => ?_)
    · replace h := mj_yy hc17 h
      refine mx_aload_n (j := 0) hC dX12_first_17 rfl rfl ?_
      obtain ⟨ht18, h⟩ := h
      refine mx_get (v := vI (mj_i M16 l0 0)) hC tf_X12_151 ht18 rfl dX12_first_18 ?_
      refine mx_istore_n (L' := [(3, vI (mj_i M16 l0 0)), (0, vR l0), (1, vI l1), (2, vI l2)]) hC dX12_first_21 rfl (by decide) rfl ?_
      refine mx_sub (L' := [(0, vR l0), (1, vI l1), (2, vI l2), (3, vI (mj_i M16 l0 0))]) [1, 2, 3, 0] rfl ?_
      obtain ⟨fe, h⟩ := h
      exact show mj_X g 22 [(0, vR l0), (1, vI l1), (2, vI l2), (3, vI (mj_i M16 l0 0))] [] M16 0 0 from (xb_X12_first_22 hC hE fe l0 l1 l2 (mj_i M16 l0 0) M16 h)
    · replace h := mj_nn hc17 h
      refine mx_iconst (v := (-1)) hC dX12_first_15 (by decide) ?_
      exact mx_iret hC hE rfl dX12_first_16 h
def rm_X12_statusOf : Room := { frames := 0, cells := 0, slots := 0, locals := 0 }
theorem dX12_statusOf_0 : decode cX12_statusOf 0 = .ok (.aload_n 0, 1) := by decide +kernel
theorem dX12_statusOf_1 : decode cX12_statusOf 1 = .ok (.getfield 83, 3) := by decide +kernel
theorem dX12_statusOf_4 : decode cX12_statusOf 4 = .ok (.iload_n 1, 1) := by decide +kernel
theorem dX12_statusOf_5 : decode cX12_statusOf 5 = .ok (.iaload, 1) := by decide +kernel
theorem dX12_statusOf_6 : decode cX12_statusOf 6 = .ok (.ifCond .ne 23, 3) := by decide +kernel
theorem dX12_statusOf_9 : decode cX12_statusOf 9 = .ok (.aload_n 0, 1) := by decide +kernel
theorem dX12_statusOf_10 : decode cX12_statusOf 10 = .ok (.getfield 151, 3) := by decide +kernel
theorem dX12_statusOf_13 : decode cX12_statusOf 13 = .ok (.aload_n 0, 1) := by decide +kernel
theorem dX12_statusOf_14 : decode cX12_statusOf 14 = .ok (.getfield 80, 3) := by decide +kernel
theorem dX12_statusOf_17 : decode cX12_statusOf 17 = .ok (.iload_n 1, 1) := by decide +kernel
theorem dX12_statusOf_18 : decode cX12_statusOf 18 = .ok (.iaload, 1) := by decide +kernel
theorem dX12_statusOf_19 : decode cX12_statusOf 19 = .ok (.isub, 1) := by decide +kernel
theorem dX12_statusOf_20 : decode cX12_statusOf 20 = .ok (.bipush 60, 2) := by decide +kernel
theorem dX12_statusOf_22 : decode cX12_statusOf 22 = .ok (.if_icmp .lt 7, 3) := by decide +kernel
theorem dX12_statusOf_25 : decode cX12_statusOf 25 = .ok (.iconst 1, 1) := by decide +kernel
theorem dX12_statusOf_26 : decode cX12_statusOf 26 = .ok (.goto 9, 3) := by decide +kernel
theorem dX12_statusOf_29 : decode cX12_statusOf 29 = .ok (.aload_n 0, 1) := by decide +kernel
theorem dX12_statusOf_30 : decode cX12_statusOf 30 = .ok (.getfield 83, 3) := by decide +kernel
theorem dX12_statusOf_33 : decode cX12_statusOf 33 = .ok (.iload_n 1, 1) := by decide +kernel
theorem dX12_statusOf_34 : decode cX12_statusOf 34 = .ok (.iaload, 1) := by decide +kernel
theorem dX12_statusOf_35 : decode cX12_statusOf 35 = .ok (.ireturn, 1) := by decide +kernel
def vc_X12_statusOf (l0 : Nat) (l1 : Int32) (M : mj_M) (post : Int32 → mj_M → Prop) : Prop := mj_tag M l0 = 13 ∧ mj_tag M (mj_r M l0 28) = 101 ∧ vp_in l1 (mj_len M (mj_r M l0 28)) ∧ if (mj_i M (mj_r M l0 28) (l1 : Int32).toNatClampNeg) = 0 then (mj_tag M (mj_r M l0 27) = 101 ∧ vp_in l1 (mj_len M (mj_r M l0 27)) ∧ if ((mj_i M l0 0) - (mj_i M (mj_r M l0 27) (l1 : Int32).toNatClampNeg)) < 60 then (post (mj_i M (mj_r M l0 28) (l1 : Int32).toNatClampNeg) M) else (post 1 M)) else (post (mj_i M (mj_r M l0 28) (l1 : Int32).toNatClampNeg) M)
set_option maxHeartbeats 4000000 in
set_option maxRecDepth 100000 in
theorem ct_X12_statusOf {l : Launch} {base : Nat} {D : va_G} {A : ClassId × ClassId × ClassId} (l0 : Nat) (l1 : Int32) (M : mj_M) (post : Int32 → mj_M → Prop) (h : vc_X12_statusOf l0 l1 M post) : mj_Met l base D A mj_jI yX12_statusOf cX12_statusOf 2 (some .int) rm_X12_statusOf 0 0 [vR l0, vI l1] M post := by
  refine mj_entry (by decide +kernel) (Nat.le_of_ble_eq_true rfl) (fun g hC hE h1 h2 h3 h4 => ?_)
  show mj_X g 0 [(0, vR l0), (1, vI l1)] [] M 0 0
  simp only [vc_X12_statusOf] at h
  refine mx_aload_n (j := 0) hC dX12_statusOf_0 rfl rfl ?_
  obtain ⟨ht1, h⟩ := h
  refine mx_get (v := vR (mj_r M l0 28)) hC tf_X12_83 ht1 rfl dX12_statusOf_1 ?_
  refine mx_iload_n (j := 1) hC dX12_statusOf_4 rfl rfl ?_
  obtain ⟨ht2, h⟩ := h
  obtain ⟨hi3, h⟩ := h
  refine mx_iaload hC ht2 hi3 dX12_statusOf_5 ?_
  refine mx_ifne (tgt := 29) hC dX12_statusOf_6 (by decide) (fun hc4 => ?_) (fun hc4 => ?_)
  · replace h := mj_nn hc4 h
    refine mx_aload_n (j := 0) hC dX12_statusOf_29 rfl rfl ?_
    refine mx_get (v := vR (mj_r M l0 28)) hC tf_X12_83 ht1 rfl dX12_statusOf_30 ?_
    refine mx_iload_n (j := 1) hC dX12_statusOf_33 rfl rfl ?_
    refine mx_iaload hC ht2 hi3 dX12_statusOf_34 ?_
    exact mx_iret hC hE rfl dX12_statusOf_35 h
  · replace h := mj_yy hc4 h
    refine mx_aload_n (j := 0) hC dX12_statusOf_9 rfl rfl ?_
    refine mx_get (v := vI (mj_i M l0 0)) hC tf_X12_151 ht1 rfl dX12_statusOf_10 ?_
    refine mx_aload_n (j := 0) hC dX12_statusOf_13 rfl rfl ?_
    refine mx_get (v := vR (mj_r M l0 27)) hC tf_X12_80 ht1 rfl dX12_statusOf_14 ?_
    refine mx_iload_n (j := 1) hC dX12_statusOf_17 rfl rfl ?_
    obtain ⟨ht5, h⟩ := h
    obtain ⟨hi6, h⟩ := h
    refine mx_iaload hC ht5 hi6 dX12_statusOf_18 ?_
    refine mx_isub hC dX12_statusOf_19 ?_
    refine mx_bipush (v := 60) hC dX12_statusOf_20 (by decide) ?_
    refine mx_icmplt (tgt := 29) hC dX12_statusOf_22 (by decide) (fun hc7 => ?_) (fun hc7 => ?_)
    · replace h := mj_yy hc7 h
      refine mx_aload_n (j := 0) hC dX12_statusOf_29 rfl rfl ?_
      refine mx_get (v := vR (mj_r M l0 28)) hC tf_X12_83 ht1 rfl dX12_statusOf_30 ?_
      refine mx_iload_n (j := 1) hC dX12_statusOf_33 rfl rfl ?_
      refine mx_iaload hC ht2 hi3 dX12_statusOf_34 ?_
      exact mx_iret hC hE rfl dX12_statusOf_35 h
    · replace h := mj_nn hc7 h
      refine mx_iconst (v := 1) hC dX12_statusOf_25 (by decide) ?_
      refine mx_goto (tgt := 35) hC dX12_statusOf_26 (by decide) ?_
      exact mx_iret hC hE rfl dX12_statusOf_35 h

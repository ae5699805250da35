/-! methods 13. By program (wip/gen) out of the bytecode: vc_KEY: what must hold of a call; ct_KEY: then the machine does it. -/
theorem tw1448 : (Jvm.Cond.methodLink "LeaseLandModel" (191 : Nat) ({ cls := "LeaseLandModel", name := "isLease", desc := "(I)Z" } : Jvm.MethodName)) ∈ mj_tbl := mj_w 1501 (by decide +kernel) (by decide +kernel)
theorem tw1452 : (Jvm.Cond.methodLink "LeaseLandModel" (194 : Nat) ({ cls := "LeaseLandModel", name := "weightOf", desc := "(I)I" } : Jvm.MethodName)) ∈ mj_tbl := mj_w 1505 (by decide +kernel) (by decide +kernel)
theorem tw1451 : (Jvm.Cond.code ({ cls := "LeaseLandModel", name := "isLease", desc := "(I)Z" } : Jvm.MethodName) prog_14_method_6_code (2 : Nat) (Option.some Jvm.ClassFile.FieldType.boolean)) ∈ mj_tbl := mj_w 1504 (by decide +kernel) (by decide +kernel)
theorem tw1450 : (Jvm.Cond.instanceMethod ({ cls := "LeaseLandModel", name := "isLease", desc := "(I)Z" } : Jvm.MethodName)) ∈ mj_tbl := mj_w 1503 (by decide +kernel) (by decide +kernel)
theorem ty_X12_isLease : mj_YV 12 yX12_isLease cX12_isLease 2 (some .boolean) 1 := ⟨⟨tw1451, tw11, by decide +kernel, by decide +kernel, by decide +kernel⟩, tw1450, mj_w 13 (by decide +kernel) (by decide +kernel), _, rfl, rfl⟩
theorem tw1455 : (Jvm.Cond.code ({ cls := "LeaseLandModel", name := "weightOf", desc := "(I)I" } : Jvm.MethodName) prog_14_method_24_code (4 : Nat) (Option.some Jvm.ClassFile.FieldType.int)) ∈ mj_tbl := mj_w 1508 (by decide +kernel) (by decide +kernel)
theorem tw1454 : (Jvm.Cond.instanceMethod ({ cls := "LeaseLandModel", name := "weightOf", desc := "(I)I" } : Jvm.MethodName)) ∈ mj_tbl := mj_w 1507 (by decide +kernel) (by decide +kernel)
theorem ty_X12_weightOf : mj_YV 12 yX12_weightOf cX12_weightOf 4 (some .int) 1 := ⟨⟨tw1455, tw11, by decide +kernel, by decide +kernel, by decide +kernel⟩, tw1454, mj_w 14 (by decide +kernel) (by decide +kernel), _, rfl, rfl⟩
def rm_X12_part : Room := { frames := 3, cells := 0, slots := 0, locals := 67 }
theorem dX12_part_0 : decode cX12_part 0 = .ok (.aload_n 0, 1) := by decide +kernel
theorem dX12_part_1 : decode cX12_part 1 = .ok (.iload_n 1, 1) := by decide +kernel
theorem dX12_part_2 : decode cX12_part 2 = .ok (.invokevirtual 191, 3) := by decide +kernel
theorem dX12_part_5 : decode cX12_part 5 = .ok (.ifCond .eq 10, 3) := by decide +kernel
theorem dX12_part_8 : decode cX12_part 8 = .ok (.iload_n 3, 1) := by decide +kernel
theorem dX12_part_9 : decode cX12_part 9 = .ok (.invokestatic 154, 3) := by decide +kernel
theorem dX12_part_12 : decode cX12_part 12 = .ok (.ifCond .ne 5, 3) := by decide +kernel
theorem dX12_part_15 : decode cX12_part 15 = .ok (.iconst (-1), 1) := by decide +kernel
theorem dX12_part_16 : decode cX12_part 16 = .ok (.ireturn, 1) := by decide +kernel
theorem dX12_part_17 : decode cX12_part 17 = .ok (.iload_n 2, 1) := by decide +kernel
theorem dX12_part_18 : decode cX12_part 18 = .ok (.invokestatic 157, 3) := by decide +kernel
theorem dX12_part_21 : decode cX12_part 21 = .ok (.ifCond .ne 6, 3) := by decide +kernel
theorem dX12_part_24 : decode cX12_part 24 = .ok (.bipush (-2), 2) := by decide +kernel
theorem dX12_part_26 : decode cX12_part 26 = .ok (.ireturn, 1) := by decide +kernel
theorem dX12_part_27 : decode cX12_part 27 = .ok (.aload_n 0, 1) := by decide +kernel
theorem dX12_part_28 : decode cX12_part 28 = .ok (.iload_n 1, 1) := by decide +kernel
theorem dX12_part_29 : decode cX12_part 29 = .ok (.aload_n 0, 1) := by decide +kernel
theorem dX12_part_30 : decode cX12_part 30 = .ok (.getfield 151, 3) := by decide +kernel
theorem dX12_part_33 : decode cX12_part 33 = .ok (.invokevirtual 187, 3) := by decide +kernel
theorem dX12_part_36 : decode cX12_part 36 = .ok (.ifCond .ne 6, 3) := by decide +kernel
theorem dX12_part_39 : decode cX12_part 39 = .ok (.bipush (-3), 2) := by decide +kernel
theorem dX12_part_41 : decode cX12_part 41 = .ok (.ireturn, 1) := by decide +kernel
theorem dX12_part_42 : decode cX12_part 42 = .ok (.aload_n 0, 1) := by decide +kernel
theorem dX12_part_43 : decode cX12_part 43 = .ok (.getfield 130, 3) := by decide +kernel
theorem dX12_part_46 : decode cX12_part 46 = .ok (.bipush 40, 2) := by decide +kernel
theorem dX12_part_48 : decode cX12_part 48 = .ok (.if_icmp .ne 6, 3) := by decide +kernel
theorem dX12_part_51 : decode cX12_part 51 = .ok (.bipush (-4), 2) := by decide +kernel
theorem dX12_part_53 : decode cX12_part 53 = .ok (.ireturn, 1) := by decide +kernel
theorem dX12_part_54 : decode cX12_part 54 = .ok (.iload_n 2, 1) := by decide +kernel
theorem dX12_part_55 : decode cX12_part 55 = .ok (.aload_n 0, 1) := by decide +kernel
theorem dX12_part_56 : decode cX12_part 56 = .ok (.getfield 13, 3) := by decide +kernel
theorem dX12_part_59 : decode cX12_part 59 = .ok (.iload_n 1, 1) := by decide +kernel
theorem dX12_part_60 : decode cX12_part 60 = .ok (.iaload, 1) := by decide +kernel
theorem dX12_part_61 : decode cX12_part 61 = .ok (.iconst (-1), 1) := by decide +kernel
theorem dX12_part_62 : decode cX12_part 62 = .ok (.ixor, 1) := by decide +kernel
theorem dX12_part_63 : decode cX12_part 63 = .ok (.iand, 1) := by decide +kernel
theorem dX12_part_64 : decode cX12_part 64 = .ok (.ifCond .ne 13, 3) := by decide +kernel
theorem dX12_part_67 : decode cX12_part 67 = .ok (.iload_n 2, 1) := by decide +kernel
theorem dX12_part_68 : decode cX12_part 68 = .ok (.aload_n 0, 1) := by decide +kernel
theorem dX12_part_69 : decode cX12_part 69 = .ok (.getfield 13, 3) := by decide +kernel
theorem dX12_part_72 : decode cX12_part 72 = .ok (.iload_n 1, 1) := by decide +kernel
theorem dX12_part_73 : decode cX12_part 73 = .ok (.iaload, 1) := by decide +kernel
theorem dX12_part_74 : decode cX12_part 74 = .ok (.if_icmp .ne 6, 3) := by decide +kernel
theorem dX12_part_77 : decode cX12_part 77 = .ok (.bipush (-5), 2) := by decide +kernel
theorem dX12_part_79 : decode cX12_part 79 = .ok (.ireturn, 1) := by decide +kernel
theorem dX12_part_80 : decode cX12_part 80 = .ok (.iconst 0, 1) := by decide +kernel
theorem dX12_part_81 : decode cX12_part 81 = .ok (.istore 4, 2) := by decide +kernel
theorem dX12_part_83 : decode cX12_part 83 = .ok (.iload 4, 2) := by decide +kernel
theorem dX12_part_85 : decode cX12_part 85 = .ok (.aload_n 0, 1) := by decide +kernel
theorem dX12_part_86 : decode cX12_part 86 = .ok (.getfield 130, 3) := by decide +kernel
theorem dX12_part_89 : decode cX12_part 89 = .ok (.if_icmp .ge 74, 3) := by decide +kernel
theorem dX12_part_92 : decode cX12_part 92 = .ok (.aload_n 0, 1) := by decide +kernel
theorem dX12_part_93 : decode cX12_part 93 = .ok (.getfield 13, 3) := by decide +kernel
theorem dX12_part_96 : decode cX12_part 96 = .ok (.iload 4, 2) := by decide +kernel
theorem dX12_part_98 : decode cX12_part 98 = .ok (.iaload, 1) := by decide +kernel
theorem dX12_part_99 : decode cX12_part 99 = .ok (.iload_n 2, 1) := by decide +kernel
theorem dX12_part_100 : decode cX12_part 100 = .ok (.iand, 1) := by decide +kernel
theorem dX12_part_101 : decode cX12_part 101 = .ok (.ifCond .eq 21, 3) := by decide +kernel
theorem dX12_part_104 : decode cX12_part 104 = .ok (.aload_n 0, 1) := by decide +kernel
theorem dX12_part_105 : decode cX12_part 105 = .ok (.getfield 13, 3) := by decide +kernel
theorem dX12_part_108 : decode cX12_part 108 = .ok (.iload 4, 2) := by decide +kernel
theorem dX12_part_110 : decode cX12_part 110 = .ok (.iaload, 1) := by decide +kernel
theorem dX12_part_111 : decode cX12_part 111 = .ok (.iload_n 2, 1) := by decide +kernel
theorem dX12_part_112 : decode cX12_part 112 = .ok (.iconst (-1), 1) := by decide +kernel
theorem dX12_part_113 : decode cX12_part 113 = .ok (.ixor, 1) := by decide +kernel
theorem dX12_part_114 : decode cX12_part 114 = .ok (.iand, 1) := by decide +kernel
theorem dX12_part_115 : decode cX12_part 115 = .ok (.ifCond .eq 7, 3) := by decide +kernel
theorem dX12_part_118 : decode cX12_part 118 = .ok (.iconst 1, 1) := by decide +kernel
theorem dX12_part_119 : decode cX12_part 119 = .ok (.goto 4, 3) := by decide +kernel
theorem dX12_part_122 : decode cX12_part 122 = .ok (.iconst 0, 1) := by decide +kernel
theorem dX12_part_123 : decode cX12_part 123 = .ok (.istore 5, 2) := by decide +kernel
theorem dX12_part_125 : decode cX12_part 125 = .ok (.aload_n 0, 1) := by decide +kernel
theorem dX12_part_126 : decode cX12_part 126 = .ok (.getfield 7, 3) := by decide +kernel
theorem dX12_part_129 : decode cX12_part 129 = .ok (.iload 4, 2) := by decide +kernel
theorem dX12_part_131 : decode cX12_part 131 = .ok (.iaload, 1) := by decide +kernel
theorem dX12_part_132 : decode cX12_part 132 = .ok (.iload_n 1, 1) := by decide +kernel
theorem dX12_part_133 : decode cX12_part 133 = .ok (.if_icmp .ne 24, 3) := by decide +kernel
theorem dX12_part_136 : decode cX12_part 136 = .ok (.aload_n 0, 1) := by decide +kernel
theorem dX12_part_137 : decode cX12_part 137 = .ok (.iload 4, 2) := by decide +kernel
theorem dX12_part_139 : decode cX12_part 139 = .ok (.invokevirtual 147, 3) := by decide +kernel
theorem dX12_part_142 : decode cX12_part 142 = .ok (.aload_n 0, 1) := by decide +kernel
theorem dX12_part_143 : decode cX12_part 143 = .ok (.getfield 151, 3) := by decide +kernel
theorem dX12_part_146 : decode cX12_part 146 = .ok (.if_icmp .le 11, 3) := by decide +kernel
theorem dX12_part_149 : decode cX12_part 149 = .ok (.iload 5, 2) := by decide +kernel
theorem dX12_part_151 : decode cX12_part 151 = .ok (.ifCond .eq 6, 3) := by decide +kernel
theorem dX12_part_154 : decode cX12_part 154 = .ok (.bipush (-5), 2) := by decide +kernel
theorem dX12_part_156 : decode cX12_part 156 = .ok (.ireturn, 1) := by decide +kernel
theorem dX12_part_157 : decode cX12_part 157 = .ok (.iinc 4 1, 3) := by decide +kernel
theorem dX12_part_160 : decode cX12_part 160 = .ok (.goto (-77), 3) := by decide +kernel
theorem dX12_part_163 : decode cX12_part 163 = .ok (.aload_n 0, 1) := by decide +kernel
theorem dX12_part_164 : decode cX12_part 164 = .ok (.getfield 34, 3) := by decide +kernel
theorem dX12_part_167 : decode cX12_part 167 = .ok (.iload_n 1, 1) := by decide +kernel
theorem dX12_part_168 : decode cX12_part 168 = .ok (.iaload, 1) := by decide +kernel
theorem dX12_part_169 : decode cX12_part 169 = .ok (.i2l, 1) := by decide +kernel
theorem dX12_part_170 : decode cX12_part 170 = .ok (.aload_n 0, 1) := by decide +kernel
theorem dX12_part_171 : decode cX12_part 171 = .ok (.iload_n 2, 1) := by decide +kernel
theorem dX12_part_172 : decode cX12_part 172 = .ok (.invokevirtual 194, 3) := by decide +kernel
theorem dX12_part_175 : decode cX12_part 175 = .ok (.i2l, 1) := by decide +kernel
theorem dX12_part_176 : decode cX12_part 176 = .ok (.lmul, 1) := by decide +kernel
theorem dX12_part_177 : decode cX12_part 177 = .ok (.aload_n 0, 1) := by decide +kernel
theorem dX12_part_178 : decode cX12_part 178 = .ok (.aload_n 0, 1) := by decide +kernel
theorem dX12_part_179 : decode cX12_part 179 = .ok (.getfield 13, 3) := by decide +kernel
theorem dX12_part_182 : decode cX12_part 182 = .ok (.iload_n 1, 1) := by decide +kernel
theorem dX12_part_183 : decode cX12_part 183 = .ok (.iaload, 1) := by decide +kernel
theorem dX12_part_184 : decode cX12_part 184 = .ok (.invokevirtual 194, 3) := by decide +kernel
theorem dX12_part_187 : decode cX12_part 187 = .ok (.i2l, 1) := by decide +kernel
theorem dX12_part_188 : decode cX12_part 188 = .ok (.ldiv, 1) := by decide +kernel
theorem dX12_part_189 : decode cX12_part 189 = .ok (.l2i, 1) := by decide +kernel
theorem dX12_part_190 : decode cX12_part 190 = .ok (.istore 4, 2) := by decide +kernel
theorem dX12_part_192 : decode cX12_part 192 = .ok (.aload_n 0, 1) := by decide +kernel
theorem dX12_part_193 : decode cX12_part 193 = .ok (.aload_n 0, 1) := by decide +kernel
theorem dX12_part_194 : decode cX12_part 194 = .ok (.getfield 7, 3) := by decide +kernel
theorem dX12_part_197 : decode cX12_part 197 = .ok (.iload_n 1, 1) := by decide +kernel
theorem dX12_part_198 : decode cX12_part 198 = .ok (.iaload, 1) := by decide +kernel
theorem dX12_part_199 : decode cX12_part 199 = .ok (.iload_n 2, 1) := by decide +kernel
theorem dX12_part_200 : decode cX12_part 200 = .ok (.aload_n 0, 1) := by decide +kernel
theorem dX12_part_201 : decode cX12_part 201 = .ok (.getfield 16, 3) := by decide +kernel
theorem dX12_part_204 : decode cX12_part 204 = .ok (.iload_n 1, 1) := by decide +kernel
theorem dX12_part_205 : decode cX12_part 205 = .ok (.iaload, 1) := by decide +kernel
theorem dX12_part_206 : decode cX12_part 206 = .ok (.aload_n 0, 1) := by decide +kernel
theorem dX12_part_207 : decode cX12_part 207 = .ok (.getfield 19, 3) := by decide +kernel
theorem dX12_part_210 : decode cX12_part 210 = .ok (.iload_n 1, 1) := by decide +kernel
theorem dX12_part_211 : decode cX12_part 211 = .ok (.iaload, 1) := by decide +kernel
theorem dX12_part_212 : decode cX12_part 212 = .ok (.iload_n 3, 1) := by decide +kernel
theorem dX12_part_213 : decode cX12_part 213 = .ok (.aload_n 0, 1) := by decide +kernel
theorem dX12_part_214 : decode cX12_part 214 = .ok (.getfield 151, 3) := by decide +kernel
theorem dX12_part_217 : decode cX12_part 217 = .ok (.invokevirtual 161, 3) := by decide +kernel
theorem dX12_part_220 : decode cX12_part 220 = .ok (.istore 5, 2) := by decide +kernel
theorem dX12_part_222 : decode cX12_part 222 = .ok (.aload_n 0, 1) := by decide +kernel
theorem dX12_part_223 : decode cX12_part 223 = .ok (.getfield 34, 3) := by decide +kernel
theorem dX12_part_226 : decode cX12_part 226 = .ok (.iload 5, 2) := by decide +kernel
theorem dX12_part_228 : decode cX12_part 228 = .ok (.iload 4, 2) := by decide +kernel
theorem dX12_part_230 : decode cX12_part 230 = .ok (.iastore, 1) := by decide +kernel
theorem dX12_part_231 : decode cX12_part 231 = .ok (.aload_n 0, 1) := by decide +kernel
theorem dX12_part_232 : decode cX12_part 232 = .ok (.getfield 37, 3) := by decide +kernel
theorem dX12_part_235 : decode cX12_part 235 = .ok (.iload 5, 2) := by decide +kernel
theorem dX12_part_237 : decode cX12_part 237 = .ok (.aload_n 0, 1) := by decide +kernel
theorem dX12_part_238 : decode cX12_part 238 = .ok (.getfield 37, 3) := by decide +kernel
theorem dX12_part_241 : decode cX12_part 241 = .ok (.iload_n 1, 1) := by decide +kernel
theorem dX12_part_242 : decode cX12_part 242 = .ok (.iaload, 1) := by decide +kernel
theorem dX12_part_243 : decode cX12_part 243 = .ok (.iastore, 1) := by decide +kernel
theorem dX12_part_244 : decode cX12_part 244 = .ok (.aload_n 0, 1) := by decide +kernel
theorem dX12_part_245 : decode cX12_part 245 = .ok (.getfield 34, 3) := by decide +kernel
theorem dX12_part_248 : decode cX12_part 248 = .ok (.iload_n 1, 1) := by decide +kernel
theorem dX12_part_249 : decode cX12_part 249 = .ok (.dup2, 1) := by decide +kernel
theorem dX12_part_250 : decode cX12_part 250 = .ok (.iaload, 1) := by decide +kernel
theorem dX12_part_251 : decode cX12_part 251 = .ok (.iload 4, 2) := by decide +kernel
theorem dX12_part_253 : decode cX12_part 253 = .ok (.isub, 1) := by decide +kernel
theorem dX12_part_254 : decode cX12_part 254 = .ok (.iastore, 1) := by decide +kernel
theorem dX12_part_255 : decode cX12_part 255 = .ok (.aload_n 0, 1) := by decide +kernel
theorem dX12_part_256 : decode cX12_part 256 = .ok (.getfield 13, 3) := by decide +kernel
theorem dX12_part_259 : decode cX12_part 259 = .ok (.iload_n 1, 1) := by decide +kernel
theorem dX12_part_260 : decode cX12_part 260 = .ok (.dup2, 1) := by decide +kernel
theorem dX12_part_261 : decode cX12_part 261 = .ok (.iaload, 1) := by decide +kernel
theorem dX12_part_262 : decode cX12_part 262 = .ok (.iload_n 2, 1) := by decide +kernel
theorem dX12_part_263 : decode cX12_part 263 = .ok (.iconst (-1), 1) := by decide +kernel
theorem dX12_part_264 : decode cX12_part 264 = .ok (.ixor, 1) := by decide +kernel
theorem dX12_part_265 : decode cX12_part 265 = .ok (.iand, 1) := by decide +kernel
theorem dX12_part_266 : decode cX12_part 266 = .ok (.iastore, 1) := by decide +kernel
theorem dX12_part_267 : decode cX12_part 267 = .ok (.iconst 0, 1) := by decide +kernel
theorem dX12_part_268 : decode cX12_part 268 = .ok (.istore 6, 2) := by decide +kernel
theorem dX12_part_270 : decode cX12_part 270 = .ok (.iload 6, 2) := by decide +kernel
theorem dX12_part_272 : decode cX12_part 272 = .ok (.iload 5, 2) := by decide +kernel
theorem dX12_part_274 : decode cX12_part 274 = .ok (.if_icmp .ge 76, 3) := by decide +kernel
theorem dX12_part_277 : decode cX12_part 277 = .ok (.aload_n 0, 1) := by decide +kernel
theorem dX12_part_278 : decode cX12_part 278 = .ok (.getfield 7, 3) := by decide +kernel
theorem dX12_part_281 : decode cX12_part 281 = .ok (.iload 6, 2) := by decide +kernel
theorem dX12_part_283 : decode cX12_part 283 = .ok (.iaload, 1) := by decide +kernel
theorem dX12_part_284 : decode cX12_part 284 = .ok (.iload_n 1, 1) := by decide +kernel
theorem dX12_part_285 : decode cX12_part 285 = .ok (.if_icmp .ne 32, 3) := by decide +kernel
theorem dX12_part_288 : decode cX12_part 288 = .ok (.aload_n 0, 1) := by decide +kernel
theorem dX12_part_289 : decode cX12_part 289 = .ok (.iload 6, 2) := by decide +kernel
theorem dX12_part_291 : decode cX12_part 291 = .ok (.invokevirtual 147, 3) := by decide +kernel
theorem dX12_part_294 : decode cX12_part 294 = .ok (.aload_n 0, 1) := by decide +kernel
theorem dX12_part_295 : decode cX12_part 295 = .ok (.getfield 151, 3) := by decide +kernel
theorem dX12_part_298 : decode cX12_part 298 = .ok (.if_icmp .le 19, 3) := by decide +kernel
theorem dX12_part_301 : decode cX12_part 301 = .ok (.aload_n 0, 1) := by decide +kernel
theorem dX12_part_302 : decode cX12_part 302 = .ok (.getfield 13, 3) := by decide +kernel
theorem dX12_part_305 : decode cX12_part 305 = .ok (.iload 6, 2) := by decide +kernel
theorem dX12_part_307 : decode cX12_part 307 = .ok (.iaload, 1) := by decide +kernel
theorem dX12_part_308 : decode cX12_part 308 = .ok (.iload_n 2, 1) := by decide +kernel
theorem dX12_part_309 : decode cX12_part 309 = .ok (.iand, 1) := by decide +kernel
theorem dX12_part_310 : decode cX12_part 310 = .ok (.ifCond .eq 7, 3) := by decide +kernel
theorem dX12_part_313 : decode cX12_part 313 = .ok (.iconst 1, 1) := by decide +kernel
theorem dX12_part_314 : decode cX12_part 314 = .ok (.goto 4, 3) := by decide +kernel
theorem dX12_part_317 : decode cX12_part 317 = .ok (.iconst 0, 1) := by decide +kernel
theorem dX12_part_318 : decode cX12_part 318 = .ok (.istore 7, 2) := by decide +kernel
theorem dX12_part_320 : decode cX12_part 320 = .ok (.aload_n 0, 1) := by decide +kernel
theorem dX12_part_321 : decode cX12_part 321 = .ok (.getfield 7, 3) := by decide +kernel
theorem dX12_part_324 : decode cX12_part 324 = .ok (.iload 6, 2) := by decide +kernel
theorem dX12_part_326 : decode cX12_part 326 = .ok (.iload 7, 2) := by decide +kernel
theorem dX12_part_328 : decode cX12_part 328 = .ok (.ifCond .eq 8, 3) := by decide +kernel
theorem dX12_part_331 : decode cX12_part 331 = .ok (.iload 5, 2) := by decide +kernel
theorem dX12_part_333 : decode cX12_part 333 = .ok (.goto 10, 3) := by decide +kernel
theorem dX12_part_336 : decode cX12_part 336 = .ok (.aload_n 0, 1) := by decide +kernel
theorem dX12_part_337 : decode cX12_part 337 = .ok (.getfield 7, 3) := by decide +kernel
theorem dX12_part_340 : decode cX12_part 340 = .ok (.iload 6, 2) := by decide +kernel
theorem dX12_part_342 : decode cX12_part 342 = .ok (.iaload, 1) := by decide +kernel
theorem dX12_part_343 : decode cX12_part 343 = .ok (.iastore, 1) := by decide +kernel
theorem dX12_part_344 : decode cX12_part 344 = .ok (.iinc 6 1, 3) := by decide +kernel
theorem dX12_part_347 : decode cX12_part 347 = .ok (.goto (-77), 3) := by decide +kernel
theorem dX12_part_350 : decode cX12_part 350 = .ok (.iload 5, 2) := by decide +kernel
theorem dX12_part_352 : decode cX12_part 352 = .ok (.ireturn, 1) := by decide +kernel
def vb_X12_part_123 (k83 : Nat → Int32 → Int32 → Int32 → Int32 → mj_M → Prop) (post : Int32 → mj_M → Prop) (l0 : Nat) (l1 : Int32) (l2 : Int32) (l3 : Int32) (l4 : Int32) (s0 : Bool) (M : mj_M) : Prop := mj_tag M l0 = 13 ∧ mj_tag M (mj_r M l0 1) = 101 ∧ vp_in l4 (mj_len M (mj_r M l0 1)) ∧ if (mj_i M (mj_r M l0 1) (l4 : Int32).toNatClampNeg) = l1 then (vc_X12_until l0 l4 M (fun r5 M6 => mj_tag M6 l0 = 13 ∧ if r5 ≤ (mj_i M6 l0 0) then (k83 l0 l1 l2 l3 (l4 + 1) M6) else (if s0 = true then (post ((-5)) M6) else (k83 l0 l1 l2 l3 (l4 + 1) M6)))) else (k83 l0 l1 l2 l3 (l4 + 1) M)
def vb_X12_part_122 (k83 : Nat → Int32 → Int32 → Int32 → Int32 → mj_M → Prop) (post : Int32 → mj_M → Prop) (l0 : Nat) (l1 : Int32) (l2 : Int32) (l3 : Int32) (l4 : Int32) (M : mj_M) : Prop := vb_X12_part_123 k83 post l0 l1 l2 l3 l4 false M
def vb_X12_part_318 (k270 : Nat → Int32 → Int32 → Int32 → Int32 → mj_M → Prop) (post : Int32 → mj_M → Prop) (l0 : Nat) (l1 : Int32) (l2 : Int32) (l5 : Int32) (l6 : Int32) (s0 : Bool) (M : mj_M) : Prop := mj_tag M l0 = 13 ∧ if s0 = true then (mj_tag M (mj_r M l0 1) = 101 ∧ vp_in l6 (mj_len M (mj_r M l0 1)) ∧ k270 l0 l1 l2 l5 (l6 + 1) (mj_wi M (mj_r M l0 1) (l6 : Int32).toNatClampNeg l5)) else (mj_tag M (mj_r M l0 1) = 101 ∧ vp_in l6 (mj_len M (mj_r M l0 1)) ∧ k270 l0 l1 l2 l5 (l6 + 1) (mj_wi M (mj_r M l0 1) (l6 : Int32).toNatClampNeg (mj_i M (mj_r M l0 1) (l6 : Int32).toNatClampNeg)))
def vb_X12_part_317 (k270 : Nat → Int32 → Int32 → Int32 → Int32 → mj_M → Prop) (post : Int32 → mj_M → Prop) (l0 : Nat) (l1 : Int32) (l2 : Int32) (l5 : Int32) (l6 : Int32) (M : mj_M) : Prop := vb_X12_part_318 k270 post l0 l1 l2 l5 l6 false M
def vb_X12_part_270 (post : Int32 → mj_M → Prop) : Nat → Nat → Int32 → Int32 → Int32 → Int32 → mj_M → Prop
  | 0 => fun _ _ _ _ _ _ => False
  | f + 1 => fun l0 l1 l2 l5 l6 M => if l5 ≤ l6 then (post l5 M) else (mj_tag M l0 = 13 ∧ mj_tag M (mj_r M l0 1) = 101 ∧ vp_in l6 (mj_len M (mj_r M l0 1)) ∧ if (mj_i M (mj_r M l0 1) (l6 : Int32).toNatClampNeg) = l1 then (vc_X12_until l0 l6 M (fun r21 M22 => mj_tag M22 l0 = 13 ∧ if r21 ≤ (mj_i M22 l0 0) then (vb_X12_part_317 (vb_X12_part_270 post f) post l0 l1 l2 l5 l6 M22) else (mj_tag M22 (mj_r M22 l0 2) = 101 ∧ vp_in l6 (mj_len M22 (mj_r M22 l0 2)) ∧ if ((mj_i M22 (mj_r M22 l0 2) (l6 : Int32).toNatClampNeg) &&& l2) = 0 then (vb_X12_part_317 (vb_X12_part_270 post f) post l0 l1 l2 l5 l6 M22) else (vb_X12_part_318 (vb_X12_part_270 post f) post l0 l1 l2 l5 l6 true M22)))) else (vb_X12_part_317 (vb_X12_part_270 post f) post l0 l1 l2 l5 l6 M))
def vb_X12_part_83 (post : Int32 → mj_M → Prop) : Nat → Nat → Int32 → Int32 → Int32 → Int32 → mj_M → Prop
  | 0 => fun _ _ _ _ _ _ => False
  | f + 1 => fun l0 l1 l2 l3 l4 M => mj_tag M l0 = 13 ∧ if (mj_i M l0 13) ≤ l4 then (mj_tag M (mj_r M l0 9) = 101 ∧ vp_in l1 (mj_len M (mj_r M l0 9)) ∧ vc_X12_weightOf l0 l2 M (fun r32 M33 => mj_tag M33 l0 = 13 ∧ mj_tag M33 (mj_r M33 l0 2) = 101 ∧ vp_in l1 (mj_len M33 (mj_r M33 l0 2)) ∧ vc_X12_weightOf l0 (mj_i M33 (mj_r M33 l0 2) (l1 : Int32).toNatClampNeg) M33 (fun r37 M38 => (¬ ((r37 : Int32).toInt64) = 0) ∧ mj_tag M38 l0 = 13 ∧ mj_tag M38 (mj_r M38 l0 1) = 101 ∧ vp_in l1 (mj_len M38 (mj_r M38 l0 1)) ∧ mj_tag M38 (mj_r M38 l0 3) = 101 ∧ vp_in l1 (mj_len M38 (mj_r M38 l0 3)) ∧ mj_tag M38 (mj_r M38 l0 4) = 101 ∧ vp_in l1 (mj_len M38 (mj_r M38 l0 4)) ∧ vc_X12_add l0 (mj_i M38 (mj_r M38 l0 1) (l1 : Int32).toNatClampNeg) l2 (mj_i M38 (mj_r M38 l0 3) (l1 : Int32).toNatClampNeg) (mj_i M38 (mj_r M38 l0 4) (l1 : Int32).toNatClampNeg) l3 (mj_i M38 l0 0) M38 (fun r47 M48 => mj_tag M48 l0 = 13 ∧ mj_tag M48 (mj_r M48 l0 9) = 101 ∧ vp_in r47 (mj_len M48 (mj_r M48 l0 9)) ∧ mj_tag M48 (mj_r M48 l0 10) = 101 ∧ vp_in l1 (mj_len M48 (mj_r M48 l0 10)) ∧ vp_in r47 (mj_len M48 (mj_r M48 l0 10)) ∧ vp_in l1 (mj_len M48 (mj_r M48 l0 9)) ∧ mj_tag M48 (mj_r M48 l0 2) = 101 ∧ vp_in l1 (mj_len M48 (mj_r M48 l0 2)) ∧ ∃ fe, vb_X12_part_270 post fe l0 l1 l2 r47 0 (mj_wi (mj_wi (mj_wi (mj_wi M48 (mj_r M48 l0 9) (r47 : Int32).toNatClampNeg (((((mj_i M (mj_r M l0 9) (l1 : Int32).toNatClampNeg : Int32).toInt64) * ((r32 : Int32).toInt64)) / ((r37 : Int32).toInt64) : Int64).toInt32)) (mj_r M48 l0 10) (r47 : Int32).toNatClampNeg (mj_i (mj_wi M48 (mj_r M48 l0 9) (r47 : Int32).toNatClampNeg (((((mj_i M (mj_r M l0 9) (l1 : Int32).toNatClampNeg : Int32).toInt64) * ((r32 : Int32).toInt64)) / ((r37 : Int32).toInt64) : Int64).toInt32)) (mj_r M48 l0 10) (l1 : Int32).toNatClampNeg)) (mj_r M48 l0 9) (l1 : Int32).toNatClampNeg ((mj_i (mj_wi (mj_wi M48 (mj_r M48 l0 9) (r47 : Int32).toNatClampNeg (((((mj_i M (mj_r M l0 9) (l1 : Int32).toNatClampNeg : Int32).toInt64) * ((r32 : Int32).toInt64)) / ((r37 : Int32).toInt64) : Int64).toInt32)) (mj_r M48 l0 10) (r47 : Int32).toNatClampNeg (mj_i (mj_wi M48 (mj_r M48 l0 9) (r47 : Int32).toNatClampNeg (((((mj_i M (mj_r M l0 9) (l1 : Int32).toNatClampNeg : Int32).toInt64) * ((r32 : Int32).toInt64)) / ((r37 : Int32).toInt64) : Int64).toInt32)) (mj_r M48 l0 10) (l1 : Int32).toNatClampNeg)) (mj_r M48 l0 9) (l1 : Int32).toNatClampNeg) - (((((mj_i M (mj_r M l0 9) (l1 : Int32).toNatClampNeg : Int32).toInt64) * ((r32 : Int32).toInt64)) / ((r37 : Int32).toInt64) : Int64).toInt32))) (mj_r M48 l0 2) (l1 : Int32).toNatClampNeg ((mj_i (mj_wi (mj_wi (mj_wi M48 (mj_r M48 l0 9) (r47 : Int32).toNatClampNeg (((((mj_i M (mj_r M l0 9) (l1 : Int32).toNatClampNeg : Int32).toInt64) * ((r32 : Int32).toInt64)) / ((r37 : Int32).toInt64) : Int64).toInt32)) (mj_r M48 l0 10) (r47 : Int32).toNatClampNeg (mj_i (mj_wi M48 (mj_r M48 l0 9) (r47 : Int32).toNatClampNeg (((((mj_i M (mj_r M l0 9) (l1 : Int32).toNatClampNeg : Int32).toInt64) * ((r32 : Int32).toInt64)) / ((r37 : Int32).toInt64) : Int64).toInt32)) (mj_r M48 l0 10) (l1 : Int32).toNatClampNeg)) (mj_r M48 l0 9) (l1 : Int32).toNatClampNeg ((mj_i (mj_wi (mj_wi M48 (mj_r M48 l0 9) (r47 : Int32).toNatClampNeg (((((mj_i M (mj_r M l0 9) (l1 : Int32).toNatClampNeg : Int32).toInt64) * ((r32 : Int32).toInt64)) / ((r37 : Int32).toInt64) : Int64).toInt32)) (mj_r M48 l0 10) (r47 : Int32).toNatClampNeg (mj_i (mj_wi M48 (mj_r M48 l0 9) (r47 : Int32).toNatClampNeg (((((mj_i M (mj_r M l0 9) (l1 : Int32).toNatClampNeg : Int32).toInt64) * ((r32 : Int32).toInt64)) / ((r37 : Int32).toInt64) : Int64).toInt32)) (mj_r M48 l0 10) (l1 : Int32).toNatClampNeg)) (mj_r M48 l0 9) (l1 : Int32).toNatClampNeg) - (((((mj_i M (mj_r M l0 9) (l1 : Int32).toNatClampNeg : Int32).toInt64) * ((r32 : Int32).toInt64)) / ((r37 : Int32).toInt64) : Int64).toInt32))) (mj_r M48 l0 2) (l1 : Int32).toNatClampNeg) &&& (l2 ^^^ ((-1))))))))) else (mj_tag M (mj_r M l0 2) = 101 ∧ vp_in l4 (mj_len M (mj_r M l0 2)) ∧ if ((mj_i M (mj_r M l0 2) (l4 : Int32).toNatClampNeg) &&& l2) = 0 then (vb_X12_part_122 (vb_X12_part_83 post f) post l0 l1 l2 l3 l4 M) else (if ((mj_i M (mj_r M l0 2) (l4 : Int32).toNatClampNeg) &&& (l2 ^^^ ((-1)))) = 0 then (vb_X12_part_122 (vb_X12_part_83 post f) post l0 l1 l2 l3 l4 M) else (vb_X12_part_123 (vb_X12_part_83 post f) post l0 l1 l2 l3 l4 true M)))
def vc_X12_part (l0 : Nat) (l1 : Int32) (l2 : Int32) (l3 : Int32) (M : mj_M) (post : Int32 → mj_M → Prop) : Prop := mj_tag M l0 = 13 ∧ vc_X12_isLease l0 l1 M (fun r63 M64 => if r63 = true then (vc_X12_isPerson l3 M64 (fun r66 M67 => if r66 = true then (vc_X12_areFloors l2 M67 (fun r69 M70 => if r69 = true then (mj_tag M70 l0 = 13 ∧ vc_X12_isOn l0 l1 (mj_i M70 l0 0) M70 (fun r73 M74 => if r73 = true then (mj_tag M74 l0 = 13 ∧ if (mj_i M74 l0 13) = 40 then (post ((-4)) M74) else (mj_tag M74 (mj_r M74 l0 2) = 101 ∧ vp_in l1 (mj_len M74 (mj_r M74 l0 2)) ∧ if (l2 &&& ((mj_i M74 (mj_r M74 l0 2) (l1 : Int32).toNatClampNeg) ^^^ ((-1)))) = 0 then (if l2 = (mj_i M74 (mj_r M74 l0 2) (l1 : Int32).toNatClampNeg) then (post ((-5)) M74) else (∃ fe, vb_X12_part_83 post fe l0 l1 l2 l3 0 M74)) else (post ((-5)) M74))) else (post ((-3)) M74))) else (post ((-2)) M70))) else (post ((-1)) M67))) else (post ((-1)) M64))
set_option maxHeartbeats 4000000 in
set_option maxRecDepth 100000 in
theorem xb_X12_part_123 {g : mj_G} {post : Int32 → mj_M → Prop} (hC : mj_C g yX12_part cX12_part 8 (some .int) rm_X12_part) (hE : mj_E g mj_jI post 0 0) {k83 : Nat → Int32 → Int32 → Int32 → Int32 → mj_M → Prop} (hk83 : ∀ (l0 : Nat) (l1 : Int32) (l2 : Int32) (l3 : Int32) (l4 : Int32) (M : mj_M), k83 l0 l1 l2 l3 l4 M → mj_X g 83 [(0, vR l0), (1, vI l1), (2, vI l2), (3, vI l3), (4, vI l4)] [] M 0 0) (l0 : Nat) (l1 : Int32) (l2 : Int32) (l3 : Int32) (l4 : Int32) (s0 : Bool) (M : mj_M) (h : vb_X12_part_123 k83 post l0 l1 l2 l3 l4 s0 M) : mj_X g 123 [(0, vR l0), (1, vI l1), (2, vI l2), (3, vI l3), (4, vI l4)] [vI (mj_b s0)] M 0 0 := by
  simp only [vb_X12_part_123] at h
  refine mx_istore (L' := [(5, vI (mj_b s0)), (0, vR l0), (1, vI l1), (2, vI l2), (3, vI l3), (4, vI l4)]) hC dX12_part_123 (by decide) rfl ?_
  refine mx_aload_n (j := 1) hC dX12_part_125 rfl rfl ?_
  obtain ⟨ht1, h⟩ := h
  refine mx_get (v := vR (mj_r M l0 1)) hC tf_X12_7 ht1 rfl dX12_part_126 ?_
  refine mx_iload (j := 5) hC dX12_part_129 rfl ?_
  obtain ⟨ht2, h⟩ := h
  obtain ⟨hi3, h⟩ := h
  refine mx_iaload hC ht2 hi3 dX12_part_131 ?_
  refine mx_iload_n (j := 2) hC dX12_part_132 rfl rfl ?_
  refine mx_icmpne (tgt := 157) hC dX12_part_133 (by decide) (fun hc4 => ?_) (fun hc4 => ?_)
  · replace h := mj_nn hc4 h
    refine mx_iinc (j := 5) (v := l4 + 1) (L' := [(4, vI (l4 + 1)), (5, vI (mj_b s0)), (0, vR l0), (1, vI l1), (2, vI l2), (3, vI l3)]) hC dX12_part_157 rfl rfl (by decide) rfl ?_
    refine mx_goto (tgt := 83) hC dX12_part_160 (by decide) ?_
    refine mx_sub (L' := [(0, vR l0), (1, vI l1), (2, vI l2), (3, vI l3), (4, vI (l4 + 1))]) [2, 3, 4, 5, 0] rfl ?_
    exact show mj_X g 83 [(0, vR l0), (1, vI l1), (2, vI l2), (3, vI l3), (4, vI (l4 + 1))] [] M 0 0 from (hk83 l0 l1 l2 l3 (l4 + 1) M h)
  · replace h := mj_yy hc4 h
    refine mx_aload_n (j := 1) hC dX12_part_136 rfl rfl ?_
    refine mx_iload (j := 5) hC dX12_part_137 rfl ?_
    refine mx_callV (inj := mj_jI) (As := [vI l4]) (st := []) hC (ct_X12_until l0 l4 M _ h) ty_X12_until tw1415 ht1 rfl (Nat.le_of_ble_eq_true rfl) ⟨rfl, rfl, ⟨by decide, by decide⟩, by decide, by decide⟩ dX12_part_139 (fun r5 M6 h => ?_)
    show mj_X g 142 [(5, vI (mj_b s0)), (0, vR l0), (1, vI l1), (2, vI l2), (3, vI l3), (4, vI l4)] [vI r5] M6 0 0
    refine mx_aload_n (j := 1) hC dX12_part_142 rfl rfl ?_
    obtain ⟨ht7, h⟩ := h
    refine mx_get (v := vI (mj_i M6 l0 0)) hC tf_X12_151 ht7 rfl dX12_part_143 ?_
    refine mx_icmple (tgt := 157) hC dX12_part_146 (by decide) (fun hc8 => ?_) (fun hc8 => ?_)
    · replace h := mj_yy hc8 h
      refine mx_iinc (j := 5) (v := l4 + 1) (L' := [(4, vI (l4 + 1)), (5, vI (mj_b s0)), (0, vR l0), (1, vI l1), (2, vI l2), (3, vI l3)]) hC dX12_part_157 rfl rfl (by decide) rfl ?_
      refine mx_goto (tgt := 83) hC dX12_part_160 (by decide) ?_
      refine mx_sub (L' := [(0, vR l0), (1, vI l1), (2, vI l2), (3, vI l3), (4, vI (l4 + 1))]) [2, 3, 4, 5, 0] rfl ?_
      exact show mj_X g 83 [(0, vR l0), (1, vI l1), (2, vI l2), (3, vI l3), (4, vI (l4 + 1))] [] M6 0 0 from (hk83 l0 l1 l2 l3 (l4 + 1) M6 h)
    · replace h := mj_nn hc8 h
      refine mx_iload (j := 0) hC dX12_part_149 rfl ?_
      refine mx_ifeqB (tgt := 157) hC dX12_part_151 (by decide) (fun hc9 => ?_) (fun hc9 => ?_)
      · replace h := mj_nn hc9 h
        refine mx_iinc (j := 5) (v := l4 + 1) (L' := [(4, vI (l4 + 1)), (5, vI (mj_b s0)), (0, vR l0), (1, vI l1), (2, vI l2), (3, vI l3)]) hC dX12_part_157 rfl rfl (by decide) rfl ?_
        refine mx_goto (tgt := 83) hC dX12_part_160 (by decide) ?_
        refine mx_sub (L' := [(0, vR l0), (1, vI l1), (2, vI l2), (3, vI l3), (4, vI (l4 + 1))]) [2, 3, 4, 5, 0] rfl ?_
        exact show mj_X g 83 [(0, vR l0), (1, vI l1), (2, vI l2), (3, vI l3), (4, vI (l4 + 1))] [] M6 0 0 from (hk83 l0 l1 l2 l3 (l4 + 1) M6 h)
      · replace h := mj_yy hc9 h
        refine mx_bipush (v := (-5)) hC dX12_part_154 (by decide) ?_
        exact mx_iret hC hE rfl dX12_part_156 h
set_option maxHeartbeats 4000000 in
set_option maxRecDepth 100000 in
theorem xb_X12_part_122 {g : mj_G} {post : Int32 → mj_M → Prop} (hC : mj_C g yX12_part cX12_part 8 (some .int) rm_X12_part) (hE : mj_E g mj_jI post 0 0) {k83 : Nat → Int32 → Int32 → Int32 → Int32 → mj_M → Prop} (hk83 : ∀ (l0 : Nat) (l1 : Int32) (l2 : Int32) (l3 : Int32) (l4 : Int32) (M : mj_M), k83 l0 l1 l2 l3 l4 M → mj_X g 83 [(0, vR l0), (1, vI l1), (2, vI l2), (3, vI l3), (4, vI l4)] [] M 0 0) (l0 : Nat) (l1 : Int32) (l2 : Int32) (l3 : Int32) (l4 : Int32) (M : mj_M) (h : vb_X12_part_122 k83 post l0 l1 l2 l3 l4 M) : mj_X g 122 [(0, vR l0), (1, vI l1), (2, vI l2), (3, vI l3), (4, vI l4)] [] M 0 0 := by
  simp only [vb_X12_part_122] at h
  refine mx_iconst (v := 0) hC dX12_part_122 (by decide) ?_
  refine mx_sub (L' := [(0, vR l0), (1, vI l1), (2, vI l2), (3, vI l3), (4, vI l4)]) [0, 1, 2, 3, 4] rfl ?_
  exact show mj_X g 123 [(0, vR l0), (1, vI l1), (2, vI l2), (3, vI l3), (4, vI l4)] [vI (mj_b false)] M 0 0 from (xb_X12_part_123 hC hE hk83 l0 l1 l2 l3 l4 false M h)
set_option maxHeartbeats 4000000 in
set_option maxRecDepth 100000 in
theorem xb_X12_part_318 {g : mj_G} {post : Int32 → mj_M → Prop} (hC : mj_C g yX12_part cX12_part 8 (some .int) rm_X12_part) (hE : mj_E g mj_jI post 0 0) {k270 : Nat → Int32 → Int32 → Int32 → Int32 → mj_M → Prop} (hk270 : ∀ (l0 : Nat) (l1 : Int32) (l2 : Int32) (l5 : Int32) (l6 : Int32) (M : mj_M), k270 l0 l1 l2 l5 l6 M → mj_X g 270 [(0, vR l0), (1, vI l1), (2, vI l2), (5, vI l5), (6, vI l6)] [] M 0 0) (l0 : Nat) (l1 : Int32) (l2 : Int32) (l5 : Int32) (l6 : Int32) (s0 : Bool) (M : mj_M) (h : vb_X12_part_318 k270 post l0 l1 l2 l5 l6 s0 M) : mj_X g 318 [(0, vR l0), (1, vI l1), (2, vI l2), (5, vI l5), (6, vI l6)] [vI (mj_b s0)] M 0 0 := by
  simp only [vb_X12_part_318] at h
  refine mx_istore (L' := [(7, vI (mj_b s0)), (0, vR l0), (1, vI l1), (2, vI l2), (5, vI l5), (6, vI l6)]) hC dX12_part_318 (by decide) rfl ?_
  refine mx_aload_n (j := 1) hC dX12_part_320 rfl rfl ?_
  obtain ⟨ht10, h⟩ := h
  refine mx_get (v := vR (mj_r M l0 1)) hC tf_X12_7 ht10 rfl dX12_part_321 ?_
  refine mx_iload (j := 5) hC dX12_part_324 rfl ?_
  refine mx_iload (j := 0) hC dX12_part_326 rfl ?_
  refine mx_ifeqB (tgt := 336) hC dX12_part_328 (by decide) (fun hc11 => ?_) (fun hc11 => ?_)
  · replace h := mj_nn hc11 h
    refine mx_aload_n (j := 1) hC dX12_part_336 rfl rfl ?_
    refine mx_get (v := vR (mj_r M l0 1)) hC tf_X12_7 ht10 rfl dX12_part_337 ?_
    refine mx_iload (j := 5) hC dX12_part_340 rfl ?_
    obtain ⟨ht12, h⟩ := h
    obtain ⟨hi13, h⟩ := h
    refine mx_iaload hC ht12 hi13 dX12_part_342 ?_
    refine mx_iastore hC ht12 hi13 dX12_part_343 ?_
    refine mx_iinc (j := 5) (v := l6 + 1) (L' := [(6, vI (l6 + 1)), (7, vI (mj_b s0)), (0, vR l0), (1, vI l1), (2, vI l2), (5, vI l5)]) hC dX12_part_344 rfl rfl (by decide) rfl ?_
    refine mx_goto (tgt := 270) hC dX12_part_347 (by decide) ?_
    refine mx_sub (L' := [(0, vR l0), (1, vI l1), (2, vI l2), (5, vI l5), (6, vI (l6 + 1))]) [2, 3, 4, 5, 0] rfl ?_
    exact show mj_X g 270 [(0, vR l0), (1, vI l1), (2, vI l2), (5, vI l5), (6, vI (l6 + 1))] [] (mj_wi M (mj_r M l0 1) (l6 : Int32).toNatClampNeg (mj_i M (mj_r M l0 1) (l6 : Int32).toNatClampNeg)) 0 0 from (hk270 l0 l1 l2 l5 (l6 + 1) (mj_wi M (mj_r M l0 1) (l6 : Int32).toNatClampNeg (mj_i M (mj_r M l0 1) (l6 : Int32).toNatClampNeg)) h)
  · replace h := mj_yy hc11 h
    refine mx_iload (j := 4) hC dX12_part_331 rfl ?_
    refine mx_goto (tgt := 343) hC dX12_part_333 (by decide) ?_
    obtain ⟨ht14, h⟩ := h
    obtain ⟨hi15, h⟩ := h
    refine mx_iastore hC ht14 hi15 dX12_part_343 ?_
    refine mx_iinc (j := 5) (v := l6 + 1) (L' := [(6, vI (l6 + 1)), (7, vI (mj_b s0)), (0, vR l0), (1, vI l1), (2, vI l2), (5, vI l5)]) hC dX12_part_344 rfl rfl (by decide) rfl ?_
    refine mx_goto (tgt := 270) hC dX12_part_347 (by decide) ?_
    refine mx_sub (L' := [(0, vR l0), (1, vI l1), (2, vI l2), (5, vI l5), (6, vI (l6 + 1))]) [2, 3, 4, 5, 0] rfl ?_
    exact show mj_X g 270 [(0, vR l0), (1, vI l1), (2, vI l2), (5, vI l5), (6, vI (l6 + 1))] [] (mj_wi M (mj_r M l0 1) (l6 : Int32).toNatClampNeg l5) 0 0 from (hk270 l0 l1 l2 l5 (l6 + 1) (mj_wi M (mj_r M l0 1) (l6 : Int32).toNatClampNeg l5) h)
set_option maxHeartbeats 4000000 in
set_option maxRecDepth 100000 in
theorem xb_X12_part_317 {g : mj_G} {post : Int32 → mj_M → Prop} (hC : mj_C g yX12_part cX12_part 8 (some .int) rm_X12_part) (hE : mj_E g mj_jI post 0 0) {k270 : Nat → Int32 → Int32 → Int32 → Int32 → mj_M → Prop} (hk270 : ∀ (l0 : Nat) (l1 : Int32) (l2 : Int32) (l5 : Int32) (l6 : Int32) (M : mj_M), k270 l0 l1 l2 l5 l6 M → mj_X g 270 [(0, vR l0), (1, vI l1), (2, vI l2), (5, vI l5), (6, vI l6)] [] M 0 0) (l0 : Nat) (l1 : Int32) (l2 : Int32) (l5 : Int32) (l6 : Int32) (M : mj_M) (h : vb_X12_part_317 k270 post l0 l1 l2 l5 l6 M) : mj_X g 317 [(0, vR l0), (1, vI l1), (2, vI l2), (5, vI l5), (6, vI l6)] [] M 0 0 := by
  simp only [vb_X12_part_317] at h
  refine mx_iconst (v := 0) hC dX12_part_317 (by decide) ?_
  refine mx_sub (L' := [(0, vR l0), (1, vI l1), (2, vI l2), (5, vI l5), (6, vI l6)]) [0, 1, 2, 3, 4] rfl ?_
  exact show mj_X g 318 [(0, vR l0), (1, vI l1), (2, vI l2), (5, vI l5), (6, vI l6)] [vI (mj_b false)] M 0 0 from (xb_X12_part_318 hC hE hk270 l0 l1 l2 l5 l6 false M h)
set_option maxHeartbeats 4000000 in
set_option maxRecDepth 100000 in
theorem xb_X12_part_270 {g : mj_G} {post : Int32 → mj_M → Prop} (hC : mj_C g yX12_part cX12_part 8 (some .int) rm_X12_part) (hE : mj_E g mj_jI post 0 0) : ∀ (f : Nat) (l0 : Nat) (l1 : Int32) (l2 : Int32) (l5 : Int32) (l6 : Int32) (M : mj_M), vb_X12_part_270 post f l0 l1 l2 l5 l6 M → mj_X g 270 [(0, vR l0), (1, vI l1), (2, vI l2), (5, vI l5), (6, vI l6)] [] M 0 0 := by
  intro f
  induction f with
  | zero => exact fun _ _ _ _ _ _ h => absurd h (fun z => z)
  | succ f ih =>
    intro l0 l1 l2 l5 l6 M h
    simp only [vb_X12_part_270] at h
    refine mx_iload (j := 4) hC dX12_part_270 rfl ?_
    refine mx_iload (j := 3) hC dX12_part_272 rfl ?_
    refine mx_icmpge (tgt := 350) hC dX12_part_274 (by decide) (fun hc16 => ?_) (fun hc16 => ?_)
    · replace h := mj_yy hc16 h
      refine mx_iload (j := 3) hC dX12_part_350 rfl ?_
      exact mx_iret hC hE rfl dX12_part_352 h
    · replace h := mj_nn hc16 h
      refine mx_aload_n (j := 0) hC dX12_part_277 rfl rfl ?_
      obtain ⟨ht17, h⟩ := h
      refine mx_get (v := vR (mj_r M l0 1)) hC tf_X12_7 ht17 rfl dX12_part_278 ?_
      refine mx_iload (j := 4) hC dX12_part_281 rfl ?_
      obtain ⟨ht18, h⟩ := h
      obtain ⟨hi19, h⟩ := h
      refine mx_iaload hC ht18 hi19 dX12_part_283 ?_
      refine mx_iload_n (j := 1) hC dX12_part_284 rfl rfl ?_
      refine mx_icmpne (tgt := 317) hC dX12_part_285 (by decide) (fun hc20 => ?_) (fun hc20 => ?_)
      · replace h := mj_nn hc20 h
        refine mx_sub (L' := [(0, vR l0), (1, vI l1), (2, vI l2), (5, vI l5), (6, vI l6)]) [0, 1, 2, 3, 4] rfl ?_
        exact show mj_X g 317 [(0, vR l0), (1, vI l1), (2, vI l2), (5, vI l5), (6, vI l6)] [] M 0 0 from (xb_X12_part_317 hC hE ih l0 l1 l2 l5 l6 M h)
      · replace h := mj_yy hc20 h
        refine mx_aload_n (j := 0) hC dX12_part_288 rfl rfl ?_
        refine mx_iload (j := 4) hC dX12_part_289 rfl ?_
        refine mx_callV (inj := mj_jI) (As := [vI l6]) (st := []) hC (ct_X12_until l0 l6 M _ h) ty_X12_until tw1415 ht17 rfl (Nat.le_of_ble_eq_true rfl) ⟨rfl, rfl, ⟨by decide, by decide⟩, by decide, by decide⟩ dX12_part_291 (fun r21 M22 h => ?_)
        show mj_X g 294 [(0, vR l0), (1, vI l1), (2, vI l2), (5, vI l5), (6, vI l6)] [vI r21] M22 0 0
        refine mx_aload_n (j := 0) hC dX12_part_294 rfl rfl ?_
        obtain ⟨ht23, h⟩ := h
        refine mx_get (v := vI (mj_i M22 l0 0)) hC tf_X12_151 ht23 rfl dX12_part_295 ?_
        refine mx_icmple (tgt := 317) hC dX12_part_298 (by decide) (fun hc24 => ?_) (fun hc24 => ?_)
        · replace h := mj_yy hc24 h
          refine mx_sub (L' := [(0, vR l0), (1, vI l1), (2, vI l2), (5, vI l5), (6, vI l6)]) [0, 1, 2, 3, 4] rfl ?_
          exact show mj_X g 317 [(0, vR l0), (1, vI l1), (2, vI l2), (5, vI l5), (6, vI l6)] [] M22 0 0 from (xb_X12_part_317 hC hE ih l0 l1 l2 l5 l6 M22 h)
        · replace h := mj_nn hc24 h
          refine mx_aload_n (j := 0) hC dX12_part_301 rfl rfl ?_
          refine mx_get (v := vR (mj_r M22 l0 2)) hC tf_X12_13 ht23 rfl dX12_part_302 ?_
          refine mx_iload (j := 4) hC dX12_part_305 rfl ?_
          obtain ⟨ht25, h⟩ := h
          obtain ⟨hi26, h⟩ := h
          refine mx_iaload hC ht25 hi26 dX12_part_307 ?_
          refine mx_iload_n (j := 2) hC dX12_part_308 rfl rfl ?_
          refine mx_iand hC dX12_part_309 ?_
          refine mx_ifeq (tgt := 317) hC dX12_part_310 (by decide) (fun hc27 => ?_) (fun hc27 => ?_)
          · replace h := mj_yy hc27 h
            refine mx_sub (L' := [(0, vR l0), (1, vI l1), (2, vI l2), (5, vI l5), (6, vI l6)]) [0, 1, 2, 3, 4] rfl ?_
            exact show mj_X g 317 [(0, vR l0), (1, vI l1), (2, vI l2), (5, vI l5), (6, vI l6)] [] M22 0 0 from (xb_X12_part_317 hC hE ih l0 l1 l2 l5 l6 M22 h)
          · replace h := mj_nn hc27 h
            refine mx_iconst (v := 1) hC dX12_part_313 (by decide) ?_
            refine mx_goto (tgt := 318) hC dX12_part_314 (by decide) ?_
            refine mx_sub (L' := [(0, vR l0), (1, vI l1), (2, vI l2), (5, vI l5), (6, vI l6)]) [0, 1, 2, 3, 4] rfl ?_
            exact show mj_X g 318 [(0, vR l0), (1, vI l1), (2, vI l2), (5, vI l5), (6, vI l6)] [vI (mj_b true)] M22 0 0 from (xb_X12_part_318 hC hE ih l0 l1 l2 l5 l6 true M22 h)
set_option maxHeartbeats 4000000 in
set_option maxRecDepth 100000 in
theorem xb_X12_part_83 {g : mj_G} {post : Int32 → mj_M → Prop} (hC : mj_C g yX12_part cX12_part 8 (some .int) rm_X12_part) (hE : mj_E g mj_jI post 0 0) : ∀ (f : Nat) (l0 : Nat) (l1 : Int32) (l2 : Int32) (l3 : Int32) (l4 : Int32) (M : mj_M), vb_X12_part_83 post f l0 l1 l2 l3 l4 M → mj_X g 83 [(0, vR l0), (1, vI l1), (2, vI l2), (3, vI l3), (4, vI l4)] [] M 0 0 := by
  intro f
  induction f with
  | zero => exact fun _ _ _ _ _ _ h => absurd h (fun z => z)
  | succ f ih =>
    intro l0 l1 l2 l3 l4 M h
    simp only [vb_X12_part_83] at h
    refine mx_iload (j := 4) hC dX12_part_83 rfl ?_
    refine mx_aload_n (j := 0) hC dX12_part_85 rfl rfl ?_
    obtain ⟨ht28, h⟩ := h
    refine mx_get (v := vI (mj_i M l0 13)) hC tf_X12_130 ht28 rfl dX12_part_86 ?_
    refine mx_icmpge (tgt := 163) hC dX12_part_89 (by decide) (fun hc29 => ?_) (fun hc29 => ?_)
    · replace h := mj_yy hc29 h
      refine mx_aload_n (j := 0) hC dX12_part_163 rfl rfl ?_
      refine mx_get (v := vR (mj_r M l0 9)) hC tf_X12_34 ht28 rfl dX12_part_164 ?_
      refine mx_iload_n (j := 1) hC dX12_part_167 rfl rfl ?_
      obtain ⟨ht30, h⟩ := h
      obtain ⟨hi31, h⟩ := h
      refine mx_iaload hC ht30 hi31 dX12_part_168 ?_
      refine mx_i2l hC dX12_part_169 ?_
      refine mx_aload_n (j := 0) hC dX12_part_170 rfl rfl ?_
      refine mx_iload_n (j := 2) hC dX12_part_171 rfl rfl ?_
      refine mx_callV (inj := mj_jI) (As := [vI l2]) (st := [vL ((mj_i M (mj_r M l0 9) (l1 : Int32).toNatClampNeg : Int32).toInt64)]) hC (ct_X12_weightOf l0 l2 M _ h) ty_X12_weightOf tw1452 ht28 rfl (Nat.le_of_ble_eq_true rfl) ⟨rfl, rfl, ⟨by decide, by decide⟩, by decide, by decide⟩ dX12_part_172 (fun r32 M33 h => ?_)
      show mj_X g 175 [(0, vR l0), (1, vI l1), (2, vI l2), (3, vI l3), (4, vI l4)] [vI r32, vL ((mj_i M (mj_r M l0 9) (l1 : Int32).toNatClampNeg : Int32).toInt64)] M33 0 0
      refine mx_i2l hC dX12_part_175 ?_
      refine mx_lmul hC dX12_part_176 ?_
      refine mx_aload_n (j := 0) hC dX12_part_177 rfl rfl ?_
      refine mx_aload_n (j := 0) hC dX12_part_178 rfl rfl ?_
      obtain ⟨ht34, h⟩ := h
      refine mx_get (v := vR (mj_r M33 l0 2)) hC tf_X12_13 ht34 rfl dX12_part_179 ?_
      refine mx_iload_n (j := 1) hC dX12_part_182 rfl rfl ?_
      obtain ⟨ht35, h⟩ := h
      obtain ⟨hi36, h⟩ := h
      refine mx_iaload hC ht35 hi36 dX12_part_183 ?_
      refine mx_callV (inj := mj_jI) (As := [vI (mj_i M33 (mj_r M33 l0 2) (l1 : Int32).toNatClampNeg)]) (st := [vL (((mj_i M (mj_r M l0 9) (l1 : Int32).toNatClampNeg : Int32).toInt64) * ((r32 : Int32).toInt64))]) hC (ct_X12_weightOf l0 (mj_i M33 (mj_r M33 l0 2) (l1 : Int32).toNatClampNeg) M33 _ h) ty_X12_weightOf tw1452 ht34 rfl (Nat.le_of_ble_eq_true rfl) ⟨rfl, rfl, ⟨by decide, by decide⟩, by decide, by decide⟩ dX12_part_184 (fun r37 M38 h => ?_)
      show mj_X g 187 [(0, vR l0), (1, vI l1), (2, vI l2), (3, vI l3), (4, vI l4)] [vI r37, vL (((mj_i M (mj_r M l0 9) (l1 : Int32).toNatClampNeg : Int32).toInt64) * ((r32 : Int32).toInt64))] M38 0 0
      refine mx_i2l hC dX12_part_187 ?_
      obtain ⟨hz39, h⟩ := h
      refine mx_ldiv hC dX12_part_188 hz39 ?_
      refine mx_l2i hC dX12_part_189 ?_
      refine mx_istore (L' := [(4, vI (((((mj_i M (mj_r M l0 9) (l1 : Int32).toNatClampNeg : Int32).toInt64) * ((r32 : Int32).toInt64)) / ((r37 : Int32).toInt64) : Int64).toInt32)), (0, vR l0), (1, vI l1), (2, vI l2), (3, vI l3)]) hC dX12_part_190 (by decide) rfl ?_
      refine mx_aload_n (j := 1) hC dX12_part_192 rfl rfl ?_
      refine mx_aload_n (j := 1) hC dX12_part_193 rfl rfl ?_
      obtain ⟨ht40, h⟩ := h
      refine mx_get (v := vR (mj_r M38 l0 1)) hC tf_X12_7 ht40 rfl dX12_part_194 ?_
      refine mx_iload_n (j := 2) hC dX12_part_197 rfl rfl ?_
      obtain ⟨ht41, h⟩ := h
      obtain ⟨hi42, h⟩ := h
      refine mx_iaload hC ht41 hi42 dX12_part_198 ?_
      refine mx_iload_n (j := 3) hC dX12_part_199 rfl rfl ?_
      refine mx_aload_n (j := 1) hC dX12_part_200 rfl rfl ?_
      refine mx_get (v := vR (mj_r M38 l0 3)) hC tf_X12_16 ht40 rfl dX12_part_201 ?_
      refine mx_iload_n (j := 2) hC dX12_part_204 rfl rfl ?_
      obtain ⟨ht43, h⟩ := h
      obtain ⟨hi44, h⟩ := h
      refine mx_iaload hC ht43 hi44 dX12_part_205 ?_
      refine mx_aload_n (j := 1) hC dX12_part_206 rfl rfl ?_
      refine mx_get (v := vR (mj_r M38 l0 4)) hC tf_X12_19 ht40 rfl dX12_part_207 ?_
      refine mx_iload_n (j := 2) hC dX12_part_210 rfl rfl ?_
      obtain ⟨ht45, h⟩ := h
      obtain ⟨hi46, h⟩ := h
      refine mx_iaload hC ht45 hi46 dX12_part_211 ?_
      refine mx_iload_n (j := 4) hC dX12_part_212 rfl rfl ?_
      refine mx_aload_n (j := 1) hC dX12_part_213 rfl rfl ?_
      refine mx_get (v := vI (mj_i M38 l0 0)) hC tf_X12_151 ht40 rfl dX12_part_214 ?_
      refine mx_callV (inj := mj_jI) (As := [vI (mj_i M38 (mj_r M38 l0 1) (l1 : Int32).toNatClampNeg), vI l2, vI (mj_i M38 (mj_r M38 l0 3) (l1 : Int32).toNatClampNeg), vI (mj_i M38 (mj_r M38 l0 4) (l1 : Int32).toNatClampNeg), vI l3, vI (mj_i M38 l0 0)]) (st := []) hC (ct_X12_add l0 (mj_i M38 (mj_r M38 l0 1) (l1 : Int32).toNatClampNeg) l2 (mj_i M38 (mj_r M38 l0 3) (l1 : Int32).toNatClampNeg) (mj_i M38 (mj_r M38 l0 4) (l1 : Int32).toNatClampNeg) l3 (mj_i M38 l0 0) M38 _ h) ty_X12_add tw1395 ht40 rfl (Nat.le_of_ble_eq_true rfl) ⟨rfl, rfl, ⟨by decide, by decide⟩, by decide, by decide⟩ dX12_part_217 (fun r47 M48 h => ?_)
      show mj_X g 220 [(4, vI (((((mj_i M (mj_r M l0 9) (l1 : Int32).toNatClampNeg : Int32).toInt64) * ((r32 : Int32).toInt64)) / ((r37 : Int32).toInt64) : Int64).toInt32)), (0, vR l0), (1, vI l1), (2, vI l2), (3, vI l3)] [vI r47] M48 0 0
      refine mx_istore (L' := [(5, vI r47), (4, vI (((((mj_i M (mj_r M l0 9) (l1 : Int32).toNatClampNeg : Int32).toInt64) * ((r32 : Int32).toInt64)) / ((r37 : Int32).toInt64) : Int64).toInt32)), (0, vR l0), (1, vI l1), (2, vI l2), (3, vI l3)]) hC dX12_part_220 (by decide) rfl ?_
      refine mx_aload_n (j := 2) hC dX12_part_222 rfl rfl ?_
      obtain ⟨ht49, h⟩ := h
      refine mx_get (v := vR (mj_r M48 l0 9)) hC tf_X12_34 ht49 rfl dX12_part_223 ?_
      refine mx_iload (j := 0) hC dX12_part_226 rfl ?_
      refine mx_iload (j := 1) hC dX12_part_228 rfl ?_
      obtain ⟨ht50, h⟩ := h
      obtain ⟨hi51, h⟩ := h
      refine mx_iastore hC ht50 hi51 dX12_part_230 ?_
      refine mx_aload_n (j := 2) hC dX12_part_231 rfl rfl ?_
      refine mx_get (v := vR (mj_r M48 l0 10)) hC tf_X12_37 ht49 rfl dX12_part_232 ?_
      refine mx_iload (j := 0) hC dX12_part_235 rfl ?_
      refine mx_aload_n (j := 2) hC dX12_part_237 rfl rfl ?_
      refine mx_get (v := vR (mj_r M48 l0 10)) hC tf_X12_37 ht49 rfl dX12_part_238 ?_
      refine mx_iload_n (j := 3) hC dX12_part_241 rfl rfl ?_
      obtain ⟨ht52, h⟩ := h
      obtain ⟨hi53, h⟩ := h
      refine mx_iaload hC ht52 hi53 dX12_part_242 ?_
      obtain ⟨hi54, h⟩ := h
      refine mx_iastore hC ht52 hi54 dX12_part_243 ?_
      refine mx_aload_n (j := 2) hC dX12_part_244 rfl rfl ?_
      refine mx_get (v := vR (mj_r M48 l0 9)) hC tf_X12_34 ht49 rfl dX12_part_245 ?_
      refine mx_iload_n (j := 3) hC dX12_part_248 rfl rfl ?_
      refine mx_dup2 hC dX12_part_249 rfl rfl ?_
      obtain ⟨hi55, h⟩ := h
      refine mx_iaload hC ht50 hi55 dX12_part_250 ?_
      refine mx_iload (j := 1) hC dX12_part_251 rfl ?_
      refine mx_isub hC dX12_part_253 ?_
      refine mx_iastore hC ht50 hi55 dX12_part_254 ?_
      refine mx_aload_n (j := 2) hC dX12_part_255 rfl rfl ?_
      refine mx_get (v := vR (mj_r M48 l0 2)) hC tf_X12_13 ht49 rfl dX12_part_256 ?_
      refine mx_iload_n (j := 3) hC dX12_part_259 rfl rfl ?_
      refine mx_dup2 hC dX12_part_260 rfl rfl ?_
      obtain ⟨ht56, h⟩ := h
      obtain ⟨hi57, h⟩ := h
      refine mx_iaload hC ht56 hi57 dX12_part_261 ?_
      refine mx_iload_n (j := 4) hC dX12_part_262 rfl rfl ?_
      refine mx_iconst (v := (-1)) hC dX12_part_263 (by decide) ?_
      refine mx_ixor hC dX12_part_264 ?_
      refine mx_iand hC dX12_part_265 ?_
      refine mx_iastore hC ht56 hi57 dX12_part_266 ?_
      refine mx_iconst (v := 0) hC dX12_part_267 (by decide) ?_
      refine mx_istore (L' := [(6, vI 0), (5, vI r47), (4, vI (((((mj_i M (mj_r M l0 9) (l1 : Int32).toNatClampNeg : Int32).toInt64) * ((r32 : Int32).toInt64)) / ((r37 : Int32).toInt64) : Int64).toInt32)), (0, vR l0), (1, vI l1), (2, vI l2), (3, vI l3)]) hC dX12_part_268 (by decide) rfl ?_
      refine mx_sub (L' := [(0, vR l0), (1, vI l1), (2, vI l2), (5, vI r47), (6, vI 0)]) [3, 4, 5, 1, 0] rfl ?_
      obtain ⟨fe, h⟩ := h
      exact show mj_X g 270 [(0, vR l0), (1, vI l1), (2, vI l2), (5, vI r47), (6, vI 0)] [] (mj_wi (mj_wi (mj_wi (mj_wi M48 (mj_r M48 l0 9) (r47 : Int32).toNatClampNeg (((((mj_i M (mj_r M l0 9) (l1 : Int32).toNatClampNeg : Int32).toInt64) * ((r32 : Int32).toInt64)) / ((r37 : Int32).toInt64) : Int64).toInt32)) (mj_r M48 l0 10) (r47 : Int32).toNatClampNeg (mj_i (mj_wi M48 (mj_r M48 l0 9) (r47 : Int32).toNatClampNeg (((((mj_i M (mj_r M l0 9) (l1 : Int32).toNatClampNeg : Int32).toInt64) * ((r32 : Int32).toInt64)) / ((r37 : Int32).toInt64) : Int64).toInt32)) (mj_r M48 l0 10) (l1 : Int32).toNatClampNeg)) (mj_r M48 l0 9) (l1 : Int32).toNatClampNeg ((mj_i (mj_wi (mj_wi M48 (mj_r M48 l0 9) (r47 : Int32).toNatClampNeg (((((mj_i M (mj_r M l0 9) (l1 : Int32).toNatClampNeg : Int32).toInt64) * ((r32 : Int32).toInt64)) / ((r37 : Int32).toInt64) : Int64).toInt32)) (mj_r M48 l0 10) (r47 : Int32).toNatClampNeg (mj_i (mj_wi M48 (mj_r M48 l0 9) (r47 : Int32).toNatClampNeg (((((mj_i M (mj_r M l0 9) (l1 : Int32).toNatClampNeg : Int32).toInt64) * ((r32 : Int32).toInt64)) / ((r37 : Int32).toInt64) : Int64).toInt32)) (mj_r M48 l0 10) (l1 : Int32).toNatClampNeg)) (mj_r M48 l0 9) (l1 : Int32).toNatClampNeg) - (((((mj_i M (mj_r M l0 9) (l1 : Int32).toNatClampNeg : Int32).toInt64) * ((r32 : Int32).toInt64)) / ((r37 : Int32).toInt64) : Int64).toInt32))) (mj_r M48 l0 2) (l1 : Int32).toNatClampNeg ((mj_i (mj_wi (mj_wi (mj_wi M48 (mj_r M48 l0 9) (r47 : Int32).toNatClampNeg (((((mj_i M (mj_r M l0 9) (l1 : Int32).toNatClampNeg : Int32).toInt64) * ((r32 : Int32).toInt64)) / ((r37 : Int32).toInt64) : Int64).toInt32)) (mj_r M48 l0 10) (r47 : Int32).toNatClampNeg (mj_i (mj_wi M48 (mj_r M48 l0 9) (r47 : Int32).toNatClampNeg (((((mj_i M (mj_r M l0 9) (l1 : Int32).toNatClampNeg : Int32).toInt64) * ((r32 : Int32).toInt64)) / ((r37 : Int32).toInt64) : Int64).toInt32)) (mj_r M48 l0 10) (l1 : Int32).toNatClampNeg)) (mj_r M48 l0 9) (l1 : Int32).toNatClampNeg ((mj_i (mj_wi (mj_wi M48 (mj_r M48 l0 9) (r47 : Int32).toNatClampNeg (((((mj_i M (mj_r M l0 9) (l1 : Int32).toNatClampNeg : Int32).toInt64) * ((r32 : Int32).toInt64)) / ((r37 : Int32).toInt64) : Int64).toInt32)) (mj_r M48 l0 10) (r47 : Int32).toNatClampNeg (mj_i (mj_wi M48 (mj_r M48 l0 9) (r47 : Int32).toNatClampNeg (((((mj_i M (mj_r M l0 9) (l1 : Int32).toNatClampNeg : Int32).toInt64) * ((r32 : Int32).toInt64)) / ((r37 : Int32).toInt64) : Int64).toInt32)) (mj_r M48 l0 10) (l1 : Int32).toNatClampNeg)) (mj_r M48 l0 9) (l1 : Int32).toNatClampNeg) - (((((mj_i M (mj_r M l0 9) (l1 : Int32).toNatClampNeg : Int32).toInt64) * ((r32 : Int32).toInt64)) / ((r37 : Int32).toInt64) : Int64).toInt32))) (mj_r M48 l0 2) (l1 : Int32).toNatClampNeg) &&& (l2 ^^^ ((-1))))) 0 0 from (xb_X12_part_270 hC hE fe l0 l1 l2 r47 0 (mj_wi (mj_wi (mj_wi (mj_wi M48 (mj_r M48 l0 9) (r47 : Int32).toNatClampNeg (((((mj_i M (mj_r M l0 9) (l1 : Int32).toNatClampNeg : Int32).toInt64) * ((r32 : Int32).toInt64)) / ((r37 : Int32).toInt64) : Int64).toInt32)) (mj_r M48 l0 10) (r47 : Int32).toNatClampNeg (mj_i (mj_wi M48 (mj_r M48 l0 9) (r47 : Int32).toNatClampNeg (((((mj_i M (mj_r M l0 9) (l1 : Int32).toNatClampNeg : Int32).toInt64) * ((r32 : Int32).toInt64)) / ((r37 : Int32).toInt64) : Int64).toInt32)) (mj_r M48 l0 10) (l1 : Int32).toNatClampNeg)) (mj_r M48 l0 9) (l1 : Int32).toNatClampNeg ((mj_i (mj_wi (mj_wi M48 (mj_r M48 l0 9) (r47 : Int32).toNatClampNeg (((((mj_i M (mj_r M l0 9) (l1 : Int32).toNatClampNeg : Int32).toInt64) * ((r32 : Int32).toInt64)) / ((r37 : Int32).toInt64) : Int64).toInt32)) (mj_r M48 l0 10) (r47 : Int32).toNatClampNeg (mj_i (mj_wi M48 (mj_r M48 l0 9) (r47 : Int32).toNatClampNeg (((((mj_i M (mj_r M l0 9) (l1 : Int32).toNatClampNeg : Int32).toInt64) * ((r32 : Int32).toInt64)) / ((r37 : Int32).toInt64) : Int64).toInt32)) (mj_r M48 l0 10) (l1 : Int32).toNatClampNeg)) (mj_r M48 l0 9) (l1 : Int32).toNatClampNeg) - (((((mj_i M (mj_r M l0 9) (l1 : Int32).toNatClampNeg : Int32).toInt64) * ((r32 : Int32).toInt64)) / ((r37 : Int32).toInt64) : Int64).toInt32))) (mj_r M48 l0 2) (l1 : Int32).toNatClampNeg ((mj_i (mj_wi (mj_wi (mj_wi M48 (mj_r M48 l0 9) (r47 : Int32).toNatClampNeg (((((mj_i M (mj_r M l0 9) (l1 : Int32).toNatClampNeg : Int32).toInt64) * ((r32 : Int32).toInt64)) / ((r37 : Int32).toInt64) : Int64).toInt32)) (mj_r M48 l0 10) (r47 : Int32).toNatClampNeg (mj_i (mj_wi M48 (mj_r M48 l0 9) (r47 : Int32).toNatClampNeg (((((mj_i M (mj_r M l0 9) (l1 : Int32).toNatClampNeg : Int32).toInt64) * ((r32 : Int32).toInt64)) / ((r37 : Int32).toInt64) : Int64).toInt32)) (mj_r M48 l0 10) (l1 : Int32).toNatClampNeg)) (mj_r M48 l0 9) (l1 : Int32).toNatClampNeg ((mj_i (mj_wi (mj_wi M48 (mj_r M48 l0 9) (r47 : Int32).toNatClampNeg (((((mj_i M (mj_r M l0 9) (l1 : Int32).toNatClampNeg : Int32).toInt64) * ((r32 : Int32).toInt64)) / ((r37 : Int32).toInt64) : Int64).toInt32)) (mj_r M48 l0 10) (r47 : Int32).toNatClampNeg (mj_i (mj_wi M48 (mj_r M48 l0 9) (r47 : Int32).toNatClampNeg (((((mj_i M (mj_r M l0 9) (l1 : Int32).toNatClampNeg : Int32).toInt64) * ((r32 : Int32).toInt64)) / ((r37 : Int32).toInt64) : Int64).toInt32)) (mj_r M48 l0 10) (l1 : Int32).toNatClampNeg)) (mj_r M48 l0 9) (l1 : Int32).toNatClampNeg) - (((((mj_i M (mj_r M l0 9) (l1 : Int32).toNatClampNeg : Int32).toInt64) * ((r32 : Int32).toInt64)) / ((r37 : Int32).toInt64) : Int64).toInt32))) (mj_r M48 l0 2) (l1 : Int32).toNatClampNeg) &&& (l2 ^^^ ((-1))))) h)
    · replace h := mj_nn hc29 h
      refine mx_aload_n (j := 0) hC dX12_part_92 rfl rfl ?_
      refine mx_get (v := vR (mj_r M l0 2)) hC tf_X12_13 ht28 rfl dX12_part_93 ?_
      refine mx_iload (j := 4) hC dX12_part_96 rfl ?_
      obtain ⟨ht58, h⟩ := h
      obtain ⟨hi59, h⟩ := h
      refine mx_iaload hC ht58 hi59 dX12_part_98 ?_
      refine mx_iload_n (j := 2) hC dX12_part_99 rfl rfl ?_
      refine mx_iand hC dX12_part_100 ?_
      refine mx_ifeq (tgt := 122) hC dX12_part_101 (by decide) (fun hc60 => ?_) (fun hc60 => ?_)
      · replace h := mj_yy hc60 h
        refine mx_sub (L' := [(0, vR l0), (1, vI l1), (2, vI l2), (3, vI l3), (4, vI l4)]) [0, 1, 2, 3, 4] rfl ?_
        exact show mj_X g 122 [(0, vR l0), (1, vI l1), (2, vI l2), (3, vI l3), (4, vI l4)] [] M 0 0 from (xb_X12_part_122 hC hE ih l0 l1 l2 l3 l4 M h)
      · replace h := mj_nn hc60 h
        refine mx_aload_n (j := 0) hC dX12_part_104 rfl rfl ?_
        refine mx_get (v := vR (mj_r M l0 2)) hC tf_X12_13 ht28 rfl dX12_part_105 ?_
        refine mx_iload (j := 4) hC dX12_part_108 rfl ?_
        refine mx_iaload hC ht58 hi59 dX12_part_110 ?_
        refine mx_iload_n (j := 2) hC dX12_part_111 rfl rfl ?_
        refine mx_iconst (v := (-1)) hC dX12_part_112 (by decide) ?_
        refine mx_ixor hC dX12_part_113 ?_
        refine mx_iand hC dX12_part_114 ?_
        refine mx_ifeq (tgt := 122) hC dX12_part_115 (by decide) (fun hc61 => ?_) (fun hc61 => ?_)
        · replace h := mj_yy hc61 h
          refine mx_sub (L' := [(0, vR l0), (1, vI l1), (2, vI l2), (3, vI l3), (4, vI l4)]) [0, 1, 2, 3, 4] rfl ?_
          exact show mj_X g 122 [(0, vR l0), (1, vI l1), (2, vI l2), (3, vI l3), (4, vI l4)] [] M 0 0 from (xb_X12_part_122 hC hE ih l0 l1 l2 l3 l4 M h)
        · replace h := mj_nn hc61 h
          refine mx_iconst (v := 1) hC dX12_part_118 (by decide) ?_
          refine mx_goto (tgt := 123) hC dX12_part_119 (by decide) ?_
          refine mx_sub (L' := [(0, vR l0), (1, vI l1), (2, vI l2), (3, vI l3), (4, vI l4)]) [0, 1, 2, 3, 4] rfl ?_
          exact show mj_X g 123 [(0, vR l0), (1, vI l1), (2, vI l2), (3, vI l3), (4, vI l4)] [vI (mj_b true)] M 0 0 from (xb_X12_part_123 hC hE ih l0 l1 l2 l3 l4 true M h)
set_option maxHeartbeats 4000000 in
set_option maxRecDepth 100000 in
theorem ct_X12_part {l : Launch} {base : Nat} {D : va_G} {A : ClassId × ClassId × ClassId} (l0 : Nat) (l1 : Int32) (l2 : Int32) (l3 : Int32) (M : mj_M) (post : Int32 → mj_M → Prop) (h : vc_X12_part l0 l1 l2 l3 M post) : mj_Met l base D A mj_jI yX12_part cX12_part 8 (some .int) rm_X12_part 0 0 [vR l0, vI l1, vI l2, vI l3] M post := by
  refine mj_entry (by decide +kernel) (Nat.le_of_ble_eq_true rfl) (fun g hC hE h1 h2 h3 h4 => ?_)
  show mj_X g 0 [(0, vR l0), (1, vI l1), (2, vI l2), (3, vI l3)] [] M 0 0
  simp only [vc_X12_part] at h
  refine mx_aload_n (j := 0) hC dX12_part_0 rfl rfl ?_
  refine mx_iload_n (j := 1) hC dX12_part_1 rfl rfl ?_
  obtain ⟨ht62, h⟩ := h
  refine mx_callV (inj := mj_jB) (As := [vI l1]) (st := []) hC (ct_X12_isLease l0 l1 M _ h) ty_X12_isLease tw1448 ht62 rfl (Nat.le_of_ble_eq_true rfl) ⟨rfl, rfl, ⟨by decide, by decide⟩, by decide, by decide⟩ dX12_part_2 (fun r63 M64 h => ?_)
  show mj_X g 5 [(0, vR l0), (1, vI l1), (2, vI l2), (3, vI l3)] [vI (mj_b r63)] M64 0 0
  refine mx_ifeqB (tgt := 15) hC dX12_part_5 (by decide) (fun hc65 => ?_) (fun hc65 => ?_)
  · replace h := mj_nn hc65 h
    refine mx_iconst (v := (-1)) hC dX12_part_15 (by decide) ?_
    exact mx_iret hC hE rfl dX12_part_16 h
  · replace h := mj_yy hc65 h
    refine mx_iload_n (j := 3) hC dX12_part_8 rfl rfl ?_
    refine mx_callS (inj := mj_jB) (As := [vI l3]) (st := []) hC (ct_X12_isPerson l3 M64 _ h) ty_X12_isPerson tw1386 rfl (Nat.le_of_ble_eq_true rfl) ⟨rfl, rfl, ⟨by decide, by decide⟩, by decide, by decide⟩ dX12_part_9 (fun r66 M67 h => ?_)
    show mj_X g 12 [(0, vR l0), (1, vI l1), (2, vI l2), (3, vI l3)] [vI (mj_b r66)] M67 0 0
    refine mx_ifneB (tgt := 17) hC dX12_part_12 (by decide) (fun hc68 => ?_) (fun hc68 => ?_)
    · replace h := mj_yy hc68 h
      refine mx_iload_n (j := 2) hC dX12_part_17 rfl rfl ?_
      refine mx_callS (inj := mj_jB) (As := [vI l2]) (st := []) hC (ct_X12_areFloors l2 M67 _ h) ty_X12_areFloors tw1390 rfl (Nat.le_of_ble_eq_true rfl) ⟨rfl, rfl, ⟨by decide, by decide⟩, by decide, by decide⟩ dX12_part_18 (fun r69 M70 h => ?_)
      show mj_X g 21 [(0, vR l0), (1, vI l1), (2, vI l2), (3, vI l3)] [vI (mj_b r69)] M70 0 0
      refine mx_ifneB (tgt := 27) hC dX12_part_21 (by decide) (fun hc71 => ?_) (fun hc71 => ?_)
      · replace h := mj_yy hc71 h
        refine mx_aload_n (j := 0) hC dX12_part_27 rfl rfl ?_
        refine mx_iload_n (j := 1) hC dX12_part_28 rfl rfl ?_
        refine mx_aload_n (j := 0) hC dX12_part_29 rfl rfl ?_
        obtain ⟨ht72, h⟩ := h
        refine mx_get (v := vI (mj_i M70 l0 0)) hC tf_X12_151 ht72 rfl dX12_part_30 ?_
        refine mx_callV (inj := mj_jB) (As := [vI l1, vI (mj_i M70 l0 0)]) (st := []) hC (ct_X12_isOn l0 l1 (mj_i M70 l0 0) M70 _ h) ty_X12_isOn tw1440 ht72 rfl (Nat.le_of_ble_eq_true rfl) ⟨rfl, rfl, ⟨by decide, by decide⟩, by decide, by decide⟩ dX12_part_33 (fun r73 M74 h => ?_)
        show mj_X g 36 [(0, vR l0), (1, vI l1), (2, vI l2), (3, vI l3)] [vI (mj_b r73)] M74 0 0
        refine mx_ifneB (tgt := 42) hC dX12_part_36 (by decide) (fun hc75 => ?_) (fun hc75 => ?_)
        · replace h := mj_yy hc75 h
          refine mx_aload_n (j := 0) hC dX12_part_42 rfl rfl ?_
          obtain ⟨ht76, h⟩ := h
          refine mx_get (v := vI (mj_i M74 l0 13)) hC tf_X12_130 ht76 rfl dX12_part_43 ?_
          refine mx_bipush (v := 40) hC dX12_part_46 (by decide) ?_
          refine mx_icmpne (tgt := 54) hC dX12_part_48 (by decide) (fun hc77 => ?_) (fun hc77 => ?_)
          · replace h := mj_nn hc77 h
            refine mx_iload_n (j := 2) hC dX12_part_54 rfl rfl ?_
            refine mx_aload_n (j := 0) hC dX12_part_55 rfl rfl ?_
            refine mx_get (v := vR (mj_r M74 l0 2)) hC tf_X12_13 ht76 rfl dX12_part_56 ?_
            refine mx_iload_n (j := 1) hC dX12_part_59 rfl rfl ?_
            obtain ⟨ht78, h⟩ := h
            obtain ⟨hi79, h⟩ := h
            refine mx_iaload hC ht78 hi79 dX12_part_60 ?_
            refine mx_iconst (v := (-1)) hC dX12_part_61 (by decide) ?_
            refine mx_ixor hC dX12_part_62 ?_
            refine mx_iand hC dX12_part_63 ?_
            refine mx_ifne (tgt := 77) hC dX12_part_64 (by decide) (fun hc80 => ?_) (fun hc80 => ?_)
            · replace h := mj_nn hc80 h
              refine mx_bipush (v := (-5)) hC dX12_part_77 (by decide) ?_
              exact mx_iret hC hE rfl dX12_part_79 h
            · replace h := mj_yy hc80 h
              refine mx_iload_n (j := 2) hC dX12_part_67 rfl rfl ?_
              refine mx_aload_n (j := 0) hC dX12_part_68 rfl rfl ?_
              refine mx_get (v := vR (mj_r M74 l0 2)) hC tf_X12_13 ht76 rfl dX12_part_69 ?_
              refine mx_iload_n (j := 1) hC dX12_part_72 rfl rfl ?_
              refine mx_iaload hC ht78 hi79 dX12_part_73 ?_
              refine mx_icmpne (tgt := 80) hC dX12_part_74 (by decide) (fun hc81 => ?_) (fun hc81 => ?_)
              · replace h := mj_nn hc81 h
                refine mx_iconst (v := 0) hC dX12_part_80 (by decide) ?_
                refine mx_istore (L' := [(4, vI 0), (0, vR l0), (1, vI l1), (2, vI l2), (3, vI l3)]) hC dX12_part_81 (by decide) rfl ?_
                refine mx_sub (L' := [(0, vR l0), (1, vI l1), (2, vI l2), (3, vI l3), (4, vI 0)]) [1, 2, 3, 4, 0] rfl ?_
                obtain ⟨fe, h⟩ := h
                exact show mj_X g 83 [(0, vR l0), (1, vI l1), (2, vI l2), (3, vI l3), (4, vI 0)] [] M74 0 0 from (xb_X12_part_83 hC hE fe l0 l1 l2 l3 0 M74 h)
              · replace h := mj_yy hc81 h
                refine mx_bipush (v := (-5)) hC dX12_part_77 (by decide) ?_
                exact mx_iret hC hE rfl dX12_part_79 h
          · replace h := mj_yy hc77 h
            refine mx_bipush (v := (-4)) hC dX12_part_51 (by decide) ?_
            exact mx_iret hC hE rfl dX12_part_53 h
        · replace h := mj_nn hc75 h
          refine mx_bipush (v := (-3)) hC dX12_part_39 (by decide) ?_
          exact mx_iret hC hE rfl dX12_part_41 h
      · replace h := mj_nn hc71 h
        refine mx_bipush (v := (-2)) hC dX12_part_24 (by decide) ?_
        exact mx_iret hC hE rfl dX12_part_26 h
    · replace h := mj_nn hc68 h
      refine mx_iconst (v := (-1)) hC dX12_part_15 (by decide) ?_
      exact mx_iret hC hE rfl dX12_part_16 h
def rm_X12_moveUp : Room := { frames := 1, cells := 0, slots := 0, locals := 21 }
theorem dX12_moveUp_0 : decode cX12_moveUp 0 = .ok (.iconst 0, 1) := by decide +kernel
theorem dX12_moveUp_1 : decode cX12_moveUp 1 = .ok (.istore_n 3, 1) := by decide +kernel
theorem dX12_moveUp_2 : decode cX12_moveUp 2 = .ok (.iconst 0, 1) := by decide +kernel
theorem dX12_moveUp_3 : decode cX12_moveUp 3 = .ok (.istore 4, 2) := by decide +kernel
theorem dX12_moveUp_5 : decode cX12_moveUp 5 = .ok (.iload 4, 2) := by decide +kernel
theorem dX12_moveUp_7 : decode cX12_moveUp 7 = .ok (.aload_n 0, 1) := by decide +kernel
theorem dX12_moveUp_8 : decode cX12_moveUp 8 = .ok (.getfield 130, 3) := by decide +kernel
theorem dX12_moveUp_11 : decode cX12_moveUp 11 = .ok (.if_icmp .ge 44, 3) := by decide +kernel
theorem dX12_moveUp_14 : decode cX12_moveUp 14 = .ok (.aload_n 0, 1) := by decide +kernel
theorem dX12_moveUp_15 : decode cX12_moveUp 15 = .ok (.getfield 7, 3) := by decide +kernel
theorem dX12_moveUp_18 : decode cX12_moveUp 18 = .ok (.iload 4, 2) := by decide +kernel
theorem dX12_moveUp_20 : decode cX12_moveUp 20 = .ok (.iaload, 1) := by decide +kernel
theorem dX12_moveUp_21 : decode cX12_moveUp 21 = .ok (.iload_n 1, 1) := by decide +kernel
theorem dX12_moveUp_22 : decode cX12_moveUp 22 = .ok (.if_icmp .ne 27, 3) := by decide +kernel
theorem dX12_moveUp_25 : decode cX12_moveUp 25 = .ok (.aload_n 0, 1) := by decide +kernel
theorem dX12_moveUp_26 : decode cX12_moveUp 26 = .ok (.iload 4, 2) := by decide +kernel
theorem dX12_moveUp_28 : decode cX12_moveUp 28 = .ok (.invokevirtual 147, 3) := by decide +kernel
theorem dX12_moveUp_31 : decode cX12_moveUp 31 = .ok (.aload_n 0, 1) := by decide +kernel
theorem dX12_moveUp_32 : decode cX12_moveUp 32 = .ok (.getfield 151, 3) := by decide +kernel
theorem dX12_moveUp_35 : decode cX12_moveUp 35 = .ok (.if_icmp .le 14, 3) := by decide +kernel
theorem dX12_moveUp_38 : decode cX12_moveUp 38 = .ok (.aload_n 0, 1) := by decide +kernel
theorem dX12_moveUp_39 : decode cX12_moveUp 39 = .ok (.getfield 7, 3) := by decide +kernel
theorem dX12_moveUp_42 : decode cX12_moveUp 42 = .ok (.iload 4, 2) := by decide +kernel
theorem dX12_moveUp_44 : decode cX12_moveUp 44 = .ok (.iload_n 2, 1) := by decide +kernel
theorem dX12_moveUp_45 : decode cX12_moveUp 45 = .ok (.iastore, 1) := by decide +kernel
theorem dX12_moveUp_46 : decode cX12_moveUp 46 = .ok (.iinc 3 1, 3) := by decide +kernel
theorem dX12_moveUp_49 : decode cX12_moveUp 49 = .ok (.iinc 4 1, 3) := by decide +kernel
theorem dX12_moveUp_52 : decode cX12_moveUp 52 = .ok (.goto (-47), 3) := by decide +kernel
theorem dX12_moveUp_55 : decode cX12_moveUp 55 = .ok (.iload_n 3, 1) := by decide +kernel
theorem dX12_moveUp_56 : decode cX12_moveUp 56 = .ok (.ireturn, 1) := by decide +kernel
def vb_X12_moveUp_5 (post : Int32 → mj_M → Prop) : Nat → Nat → Int32 → Int32 → Int32 → Int32 → mj_M → Prop
  | 0 => fun _ _ _ _ _ _ => False
  | f + 1 => fun l0 l1 l2 l3 l4 M => mj_tag M l0 = 13 ∧ if (mj_i M l0 13) ≤ l4 then (post l3 M) else (mj_tag M (mj_r M l0 1) = 101 ∧ vp_in l4 (mj_len M (mj_r M l0 1)) ∧ if (mj_i M (mj_r M l0 1) (l4 : Int32).toNatClampNeg) = l1 then (vc_X12_until l0 l4 M (fun r6 M7 => mj_tag M7 l0 = 13 ∧ if r6 ≤ (mj_i M7 l0 0) then (vb_X12_moveUp_5 post f l0 l1 l2 l3 (l4 + 1) M7) else (mj_tag M7 (mj_r M7 l0 1) = 101 ∧ vp_in l4 (mj_len M7 (mj_r M7 l0 1)) ∧ vb_X12_moveUp_5 post f l0 l1 l2 (l3 + 1) (l4 + 1) (mj_wi M7 (mj_r M7 l0 1) (l4 : Int32).toNatClampNeg l2)))) else (vb_X12_moveUp_5 post f l0 l1 l2 l3 (l4 + 1) M))
def vc_X12_moveUp (l0 : Nat) (l1 : Int32) (l2 : Int32) (M : mj_M) (post : Int32 → mj_M → Prop) : Prop := ∃ fe, vb_X12_moveUp_5 post fe l0 l1 l2 0 0 M
set_option maxHeartbeats 4000000 in
set_option maxRecDepth 100000 in
theorem xb_X12_moveUp_5 {g : mj_G} {post : Int32 → mj_M → Prop} (hC : mj_C g yX12_moveUp cX12_moveUp 5 (some .int) rm_X12_moveUp) (hE : mj_E g mj_jI post 0 0) : ∀ (f : Nat) (l0 : Nat) (l1 : Int32) (l2 : Int32) (l3 : Int32) (l4 : Int32) (M : mj_M), vb_X12_moveUp_5 post f l0 l1 l2 l3 l4 M → mj_X g 5 [(0, vR l0), (1, vI l1), (2, vI l2), (3, vI l3), (4, vI l4)] [] M 0 0 := by
  intro f
  induction f with
  | zero => exact fun _ _ _ _ _ _ h => absurd h (fun z => z)
  | succ f ih =>
    intro l0 l1 l2 l3 l4 M h
    simp only [vb_X12_moveUp_5] at h
    refine mx_iload (j := 4) hC dX12_moveUp_5 rfl ?_
    refine mx_aload_n (j := 0) hC dX12_moveUp_7 rfl rfl ?_
    obtain ⟨ht1, h⟩ := h
    refine mx_get (v := vI (mj_i M l0 13)) hC tf_X12_130 ht1 rfl dX12_moveUp_8 ?_
    refine mx_icmpge (tgt := 55) hC dX12_moveUp_11 (by decide) (fun hc2 => ?_) (fun hc2 => ?_)
    · replace h := mj_yy hc2 h
      refine mx_iload_n (j := 3) hC dX12_moveUp_55 rfl rfl ?_
      exact mx_iret hC hE rfl dX12_moveUp_56 h
    · replace h := mj_nn hc2 h
      refine mx_aload_n (j := 0) hC dX12_moveUp_14 rfl rfl ?_
      refine mx_get (v := vR (mj_r M l0 1)) hC tf_X12_7 ht1 rfl dX12_moveUp_15 ?_
      refine mx_iload (j := 4) hC dX12_moveUp_18 rfl ?_
      obtain ⟨ht3, h⟩ := h
      obtain ⟨hi4, h⟩ := h
      refine mx_iaload hC ht3 hi4 dX12_moveUp_20 ?_
      refine mx_iload_n (j := 1) hC dX12_moveUp_21 rfl rfl ?_
      refine mx_icmpne (tgt := 49) hC dX12_moveUp_22 (by decide) (fun hc5 => ?_) (fun hc5 => ?_)
      · replace h := mj_nn hc5 h
        refine mx_iinc (j := 4) (v := l4 + 1) (L' := [(4, vI (l4 + 1)), (0, vR l0), (1, vI l1), (2, vI l2), (3, vI l3)]) hC dX12_moveUp_49 rfl rfl (by decide) rfl ?_
        refine mx_goto (tgt := 5) hC dX12_moveUp_52 (by decide) ?_
        refine mx_sub (L' := [(0, vR l0), (1, vI l1), (2, vI l2), (3, vI l3), (4, vI (l4 + 1))]) [1, 2, 3, 4, 0] rfl ?_
        exact show mj_X g 5 [(0, vR l0), (1, vI l1), (2, vI l2), (3, vI l3), (4, vI (l4 + 1))] [] M 0 0 from (ih l0 l1 l2 l3 (l4 + 1) M h)
      · replace h := mj_yy hc5 h
        refine mx_aload_n (j := 0) hC dX12_moveUp_25 rfl rfl ?_
        refine mx_iload (j := 4) hC dX12_moveUp_26 rfl ?_
        refine mx_callV (inj := mj_jI) (As := [vI l4]) (st := []) hC (ct_X12_until l0 l4 M _ h) ty_X12_until tw1415 ht1 rfl (Nat.le_of_ble_eq_true rfl) ⟨rfl, rfl, ⟨by decide, by decide⟩, by decide, by decide⟩ dX12_moveUp_28 (fun r6 M7 h => ?_)
        show mj_X g 31 [(0, vR l0), (1, vI l1), (2, vI l2), (3, vI l3), (4, vI l4)] [vI r6] M7 0 0
        refine mx_aload_n (j := 0) hC dX12_moveUp_31 rfl rfl ?_
        obtain ⟨ht8, h⟩ := h
        refine mx_get (v := vI (mj_i M7 l0 0)) hC tf_X12_151 ht8 rfl dX12_moveUp_32 ?_
        refine mx_icmple (tgt := 49) hC dX12_moveUp_35 (by decide) (fun hc9 => ?_) (fun hc9 => ?_)
        · replace h := mj_yy hc9 h
          refine mx_iinc (j := 4) (v := l4 + 1) (L' := [(4, vI (l4 + 1)), (0, vR l0), (1, vI l1), (2, vI l2), (3, vI l3)]) hC dX12_moveUp_49 rfl rfl (by decide) rfl ?_
          refine mx_goto (tgt := 5) hC dX12_moveUp_52 (by decide) ?_
          refine mx_sub (L' := [(0, vR l0), (1, vI l1), (2, vI l2), (3, vI l3), (4, vI (l4 + 1))]) [1, 2, 3, 4, 0] rfl ?_
          exact show mj_X g 5 [(0, vR l0), (1, vI l1), (2, vI l2), (3, vI l3), (4, vI (l4 + 1))] [] M7 0 0 from (ih l0 l1 l2 l3 (l4 + 1) M7 h)
        · replace h := mj_nn hc9 h
          refine mx_aload_n (j := 0) hC dX12_moveUp_38 rfl rfl ?_
          refine mx_get (v := vR (mj_r M7 l0 1)) hC tf_X12_7 ht8 rfl dX12_moveUp_39 ?_
          refine mx_iload (j := 4) hC dX12_moveUp_42 rfl ?_
          refine mx_iload_n (j := 2) hC dX12_moveUp_44 rfl rfl ?_
          obtain ⟨ht10, h⟩ := h
          obtain ⟨hi11, h⟩ := h
          refine mx_iastore hC ht10 hi11 dX12_moveUp_45 ?_
          refine mx_iinc (j := 3) (v := l3 + 1) (L' := [(3, vI (l3 + 1)), (0, vR l0), (1, vI l1), (2, vI l2), (4, vI l4)]) hC dX12_moveUp_46 rfl rfl (by decide) rfl ?_
          refine mx_iinc (j := 4) (v := l4 + 1) (L' := [(4, vI (l4 + 1)), (3, vI (l3 + 1)), (0, vR l0), (1, vI l1), (2, vI l2)]) hC dX12_moveUp_49 rfl rfl (by decide) rfl ?_
          refine mx_goto (tgt := 5) hC dX12_moveUp_52 (by decide) ?_
          refine mx_sub (L' := [(0, vR l0), (1, vI l1), (2, vI l2), (3, vI (l3 + 1)), (4, vI (l4 + 1))]) [2, 3, 4, 1, 0] rfl ?_
          exact show mj_X g 5 [(0, vR l0), (1, vI l1), (2, vI l2), (3, vI (l3 + 1)), (4, vI (l4 + 1))] [] (mj_wi M7 (mj_r M7 l0 1) (l4 : Int32).toNatClampNeg l2) 0 0 from (ih l0 l1 l2 (l3 + 1) (l4 + 1) (mj_wi M7 (mj_r M7 l0 1) (l4 : Int32).toNatClampNeg l2) h)
set_option maxHeartbeats 4000000 in
set_option maxRecDepth 100000 in
theorem ct_X12_moveUp {l : Launch} {base : Nat} {D : va_G} {A : ClassId × ClassId × ClassId} (l0 : Nat) (l1 : Int32) (l2 : Int32) (M : mj_M) (post : Int32 → mj_M → Prop) (h : vc_X12_moveUp l0 l1 l2 M post) : mj_Met l base D A mj_jI yX12_moveUp cX12_moveUp 5 (some .int) rm_X12_moveUp 0 0 [vR l0, vI l1, vI l2] M post := by
  refine mj_entry (by decide +kernel) (Nat.le_of_ble_eq_true rfl) (fun g hC hE h1 h2 h3 h4 => ?_)
  show mj_X g 0 [(0, vR l0), (1, vI l1), (2, vI l2)] [] M 0 0
  simp only [vc_X12_moveUp] at h
  refine mx_iconst (v := 0) hC dX12_moveUp_0 (by decide) ?_
  refine mx_istore_n (L' := [(3, vI 0), (0, vR l0), (1, vI l1), (2, vI l2)]) hC dX12_moveUp_1 rfl (by decide) rfl ?_
  refine mx_iconst (v := 0) hC dX12_moveUp_2 (by decide) ?_
  refine mx_istore (L' := [(4, vI 0), (3, vI 0), (0, vR l0), (1, vI l1), (2, vI l2)]) hC dX12_moveUp_3 (by decide) rfl ?_
  refine mx_sub (L' := [(0, vR l0), (1, vI l1), (2, vI l2), (3, vI 0), (4, vI 0)]) [2, 3, 4, 1, 0] rfl ?_
  obtain ⟨fe, h⟩ := h
  exact show mj_X g 5 [(0, vR l0), (1, vI l1), (2, vI l2), (3, vI 0), (4, vI 0)] [] M 0 0 from (xb_X12_moveUp_5 hC hE fe l0 l1 l2 0 0 M h)
def rm_X12_close : Room := { frames := 0, cells := 0, slots := 0, locals := 0 }
theorem dX12_close_0 : decode cX12_close 0 = .ok (.aload_n 0, 1) := by decide +kernel
theorem dX12_close_1 : decode cX12_close 1 = .ok (.getfield 25, 3) := by decide +kernel
theorem dX12_close_4 : decode cX12_close 4 = .ok (.iload_n 1, 1) := by decide +kernel
theorem dX12_close_5 : decode cX12_close 5 = .ok (.iload_n 2, 1) := by decide +kernel
theorem dX12_close_6 : decode cX12_close 6 = .ok (.iastore, 1) := by decide +kernel
theorem dX12_close_7 : decode cX12_close 7 = .ok (.aload_n 0, 1) := by decide +kernel
theorem dX12_close_8 : decode cX12_close 8 = .ok (.getfield 22, 3) := by decide +kernel
theorem dX12_close_11 : decode cX12_close 11 = .ok (.iload_n 1, 1) := by decide +kernel
theorem dX12_close_12 : decode cX12_close 12 = .ok (.iload_n 3, 1) := by decide +kernel
theorem dX12_close_13 : decode cX12_close 13 = .ok (.iastore, 1) := by decide +kernel
theorem dX12_close_14 : decode cX12_close 14 = .ok (.return_, 1) := by decide +kernel
def vc_X12_close (l0 : Nat) (l1 : Int32) (l2 : Int32) (l3 : Int32) (M : mj_M) (post : Unit → mj_M → Prop) : Prop := mj_tag M l0 = 13 ∧ mj_tag M (mj_r M l0 6) = 101 ∧ vp_in l1 (mj_len M (mj_r M l0 6)) ∧ mj_tag M (mj_r M l0 5) = 101 ∧ vp_in l1 (mj_len M (mj_r M l0 5)) ∧ post () (mj_wi (mj_wi M (mj_r M l0 6) (l1 : Int32).toNatClampNeg l2) (mj_r M l0 5) (l1 : Int32).toNatClampNeg l3)
set_option maxHeartbeats 4000000 in
set_option maxRecDepth 100000 in
theorem ct_X12_close {l : Launch} {base : Nat} {D : va_G} {A : ClassId × ClassId × ClassId} (l0 : Nat) (l1 : Int32) (l2 : Int32) (l3 : Int32) (M : mj_M) (post : Unit → mj_M → Prop) (h : vc_X12_close l0 l1 l2 l3 M post) : mj_Met l base D A mj_jV yX12_close cX12_close 4 (none) rm_X12_close 0 0 [vR l0, vI l1, vI l2, vI l3] M post := by
  refine mj_entry (by decide +kernel) (Nat.le_of_ble_eq_true rfl) (fun g hC hE h1 h2 h3 h4 => ?_)
  show mj_X g 0 [(0, vR l0), (1, vI l1), (2, vI l2), (3, vI l3)] [] M 0 0
  simp only [vc_X12_close] at h
  refine mx_aload_n (j := 0) hC dX12_close_0 rfl rfl ?_
  obtain ⟨ht1, h⟩ := h
  refine mx_get (v := vR (mj_r M l0 6)) hC tf_X12_25 ht1 rfl dX12_close_1 ?_
  refine mx_iload_n (j := 1) hC dX12_close_4 rfl rfl ?_
  refine mx_iload_n (j := 2) hC dX12_close_5 rfl rfl ?_
  obtain ⟨ht2, h⟩ := h
  obtain ⟨hi3, h⟩ := h
  refine mx_iastore hC ht2 hi3 dX12_close_6 ?_
  refine mx_aload_n (j := 0) hC dX12_close_7 rfl rfl ?_
  refine mx_get (v := vR (mj_r M l0 5)) hC tf_X12_22 ht1 rfl dX12_close_8 ?_
  refine mx_iload_n (j := 1) hC dX12_close_11 rfl rfl ?_
  refine mx_iload_n (j := 3) hC dX12_close_12 rfl rfl ?_
  obtain ⟨ht4, h⟩ := h
  obtain ⟨hi5, h⟩ := h
  refine mx_iastore hC ht4 hi5 dX12_close_13 ?_
  exact mx_vret hC hE rfl dX12_close_14 h
theorem tw1460 : (Jvm.Cond.methodLink "LeaseLandModel" (197 : Nat) ({ cls := "LeaseLandModel", name := "close", desc := "(III)V" } : Jvm.MethodName)) ∈ mj_tbl := mj_w 1513 (by decide +kernel) (by decide +kernel)
theorem tw1464 : (Jvm.Cond.methodLink "LeaseLandModel" (201 : Nat) ({ cls := "LeaseLandModel", name := "moveUp", desc := "(II)I" } : Jvm.MethodName)) ∈ mj_tbl := mj_w 1517 (by decide +kernel) (by decide +kernel)
theorem tw1463 : (Jvm.Cond.code ({ cls := "LeaseLandModel", name := "close", desc := "(III)V" } : Jvm.MethodName) prog_14_method_27_code (4 : Nat) (Option.none : Option Jvm.ClassFile.FieldType)) ∈ mj_tbl := mj_w 1516 (by decide +kernel) (by decide +kernel)
theorem tw1462 : (Jvm.Cond.instanceMethod ({ cls := "LeaseLandModel", name := "close", desc := "(III)V" } : Jvm.MethodName)) ∈ mj_tbl := mj_w 1515 (by decide +kernel) (by decide +kernel)
theorem ty_X12_close : mj_YV 12 yX12_close cX12_close 4 (none) 3 := ⟨⟨tw1463, tw11, by decide +kernel, by decide +kernel, by decide +kernel⟩, tw1462, mj_w 15 (by decide +kernel) (by decide +kernel), _, rfl, rfl⟩
theorem tw1467 : (Jvm.Cond.code ({ cls := "LeaseLandModel", name := "moveUp", desc := "(II)I" } : Jvm.MethodName) prog_14_method_26_code (5 : Nat) (Option.some Jvm.ClassFile.FieldType.int)) ∈ mj_tbl := mj_w 1520 (by decide +kernel) (by decide +kernel)
theorem tw1466 : (Jvm.Cond.instanceMethod ({ cls := "LeaseLandModel", name := "moveUp", desc := "(II)I" } : Jvm.MethodName)) ∈ mj_tbl := mj_w 1519 (by decide +kernel) (by decide +kernel)
theorem ty_X12_moveUp : mj_YV 12 yX12_moveUp cX12_moveUp 5 (some .int) 2 := ⟨⟨tw1467, tw11, by decide +kernel, by decide +kernel, by decide +kernel⟩, tw1466, mj_w 16 (by decide +kernel) (by decide +kernel), _, rfl, rfl⟩
def rm_X12_end : Room := { frames := 3, cells := 0, slots := 0, locals := 67 }
theorem dX12_end_0 : decode cX12_end 0 = .ok (.aload_n 0, 1) := by decide +kernel
theorem dX12_end_1 : decode cX12_end 1 = .ok (.iload_n 1, 1) := by decide +kernel
theorem dX12_end_2 : decode cX12_end 2 = .ok (.invokevirtual 191, 3) := by decide +kernel
theorem dX12_end_5 : decode cX12_end 5 = .ok (.ifCond .ne 5, 3) := by decide +kernel
theorem dX12_end_8 : decode cX12_end 8 = .ok (.iconst (-1), 1) := by decide +kernel
theorem dX12_end_9 : decode cX12_end 9 = .ok (.ireturn, 1) := by decide +kernel
theorem dX12_end_10 : decode cX12_end 10 = .ok (.iload_n 2, 1) := by decide +kernel
theorem dX12_end_11 : decode cX12_end 11 = .ok (.iconst 1, 1) := by decide +kernel
theorem dX12_end_12 : decode cX12_end 12 = .ok (.if_icmp .eq 11, 3) := by decide +kernel
theorem dX12_end_15 : decode cX12_end 15 = .ok (.iload_n 2, 1) := by decide +kernel
theorem dX12_end_16 : decode cX12_end 16 = .ok (.iconst 3, 1) := by decide +kernel
theorem dX12_end_17 : decode cX12_end 17 = .ok (.if_icmp .eq 6, 3) := by decide +kernel
theorem dX12_end_20 : decode cX12_end 20 = .ok (.bipush (-2), 2) := by decide +kernel
theorem dX12_end_22 : decode cX12_end 22 = .ok (.ireturn, 1) := by decide +kernel
theorem dX12_end_23 : decode cX12_end 23 = .ok (.aload_n 0, 1) := by decide +kernel
theorem dX12_end_24 : decode cX12_end 24 = .ok (.iload_n 1, 1) := by decide +kernel
theorem dX12_end_25 : decode cX12_end 25 = .ok (.aload_n 0, 1) := by decide +kernel
theorem dX12_end_26 : decode cX12_end 26 = .ok (.getfield 151, 3) := by decide +kernel
theorem dX12_end_29 : decode cX12_end 29 = .ok (.invokevirtual 187, 3) := by decide +kernel
theorem dX12_end_32 : decode cX12_end 32 = .ok (.ifCond .ne 6, 3) := by decide +kernel
theorem dX12_end_35 : decode cX12_end 35 = .ok (.bipush (-3), 2) := by decide +kernel
theorem dX12_end_37 : decode cX12_end 37 = .ok (.ireturn, 1) := by decide +kernel
theorem dX12_end_38 : decode cX12_end 38 = .ok (.aload_n 0, 1) := by decide +kernel
theorem dX12_end_39 : decode cX12_end 39 = .ok (.getfield 7, 3) := by decide +kernel
theorem dX12_end_42 : decode cX12_end 42 = .ok (.iload_n 1, 1) := by decide +kernel
theorem dX12_end_43 : decode cX12_end 43 = .ok (.iaload, 1) := by decide +kernel
theorem dX12_end_44 : decode cX12_end 44 = .ok (.istore_n 3, 1) := by decide +kernel
theorem dX12_end_45 : decode cX12_end 45 = .ok (.iload_n 2, 1) := by decide +kernel
theorem dX12_end_46 : decode cX12_end 46 = .ok (.iconst 3, 1) := by decide +kernel
theorem dX12_end_47 : decode cX12_end 47 = .ok (.if_icmp .ne 21, 3) := by decide +kernel
theorem dX12_end_50 : decode cX12_end 50 = .ok (.aload_n 0, 1) := by decide +kernel
theorem dX12_end_51 : decode cX12_end 51 = .ok (.getfield 28, 3) := by decide +kernel
theorem dX12_end_54 : decode cX12_end 54 = .ok (.iload_n 1, 1) := by decide +kernel
theorem dX12_end_55 : decode cX12_end 55 = .ok (.iaload, 1) := by decide +kernel
theorem dX12_end_56 : decode cX12_end 56 = .ok (.aload_n 0, 1) := by decide +kernel
theorem dX12_end_57 : decode cX12_end 57 = .ok (.getfield 28, 3) := by decide +kernel
theorem dX12_end_60 : decode cX12_end 60 = .ok (.iload_n 3, 1) := by decide +kernel
theorem dX12_end_61 : decode cX12_end 61 = .ok (.iaload, 1) := by decide +kernel
theorem dX12_end_62 : decode cX12_end 62 = .ok (.if_icmp .eq 6, 3) := by decide +kernel
theorem dX12_end_65 : decode cX12_end 65 = .ok (.bipush (-5), 2) := by decide +kernel
theorem dX12_end_67 : decode cX12_end 67 = .ok (.ireturn, 1) := by decide +kernel
theorem dX12_end_68 : decode cX12_end 68 = .ok (.aload_n 0, 1) := by decide +kernel
theorem dX12_end_69 : decode cX12_end 69 = .ok (.iload_n 1, 1) := by decide +kernel
theorem dX12_end_70 : decode cX12_end 70 = .ok (.iload_n 2, 1) := by decide +kernel
theorem dX12_end_71 : decode cX12_end 71 = .ok (.aload_n 0, 1) := by decide +kernel
theorem dX12_end_72 : decode cX12_end 72 = .ok (.getfield 151, 3) := by decide +kernel
theorem dX12_end_75 : decode cX12_end 75 = .ok (.invokevirtual 197, 3) := by decide +kernel
theorem dX12_end_78 : decode cX12_end 78 = .ok (.aload_n 0, 1) := by decide +kernel
theorem dX12_end_79 : decode cX12_end 79 = .ok (.iload_n 1, 1) := by decide +kernel
theorem dX12_end_80 : decode cX12_end 80 = .ok (.iload_n 3, 1) := by decide +kernel
theorem dX12_end_81 : decode cX12_end 81 = .ok (.invokevirtual 201, 3) := by decide +kernel
theorem dX12_end_84 : decode cX12_end 84 = .ok (.ireturn, 1) := by decide +kernel
def vb_X12_end_68 (post : Int32 → mj_M → Prop) (l0 : Nat) (l1 : Int32) (l2 : Int32) (l3 : Int32) (M : mj_M) : Prop := mj_tag M l0 = 13 ∧ vc_X12_close l0 l1 l2 (mj_i M l0 0) M (fun _ M2 => mj_tag M2 l0 = 13 ∧ vc_X12_moveUp l0 l1 l3 M2 (fun r4 M5 => post r4 M5))
def vb_X12_end_23 (post : Int32 → mj_M → Prop) (l0 : Nat) (l1 : Int32) (l2 : Int32) (M : mj_M) : Prop := mj_tag M l0 = 13 ∧ vc_X12_isOn l0 l1 (mj_i M l0 0) M (fun r7 M8 => if r7 = true then (mj_tag M8 l0 = 13 ∧ mj_tag M8 (mj_r M8 l0 1) = 101 ∧ vp_in l1 (mj_len M8 (mj_r M8 l0 1)) ∧ if l2 = 3 then (mj_tag M8 (mj_r M8 l0 7) = 101 ∧ vp_in l1 (mj_len M8 (mj_r M8 l0 7)) ∧ vp_in (mj_i M8 (mj_r M8 l0 1) (l1 : Int32).toNatClampNeg) (mj_len M8 (mj_r M8 l0 7)) ∧ if (mj_i M8 (mj_r M8 l0 7) (l1 : Int32).toNatClampNeg) = (mj_i M8 (mj_r M8 l0 7) (mj_i M8 (mj_r M8 l0 1) (l1 : Int32).toNatClampNeg : Int32).toNatClampNeg) then (vb_X12_end_68 post l0 l1 l2 (mj_i M8 (mj_r M8 l0 1) (l1 : Int32).toNatClampNeg) M8) else (post ((-5)) M8)) else (vb_X12_end_68 post l0 l1 l2 (mj_i M8 (mj_r M8 l0 1) (l1 : Int32).toNatClampNeg) M8)) else (post ((-3)) M8))
def vc_X12_end (l0 : Nat) (l1 : Int32) (l2 : Int32) (M : mj_M) (post : Int32 → mj_M → Prop) : Prop := mj_tag M l0 = 13 ∧ vc_X12_isLease l0 l1 M (fun r19 M20 => if r19 = true then (if l2 = 1 then (vb_X12_end_23 post l0 l1 l2 M20) else (if l2 = 3 then (vb_X12_end_23 post l0 l1 l2 M20) else (post ((-2)) M20))) else (post ((-1)) M20))
set_option maxHeartbeats 4000000 in
set_option maxRecDepth 100000 in
theorem xb_X12_end_68 {g : mj_G} {post : Int32 → mj_M → Prop} (hC : mj_C g yX12_end cX12_end 4 (some .int) rm_X12_end) (hE : mj_E g mj_jI post 0 0) (l0 : Nat) (l1 : Int32) (l2 : Int32) (l3 : Int32) (M : mj_M) (h : vb_X12_end_68 post l0 l1 l2 l3 M) : mj_X g 68 [(0, vR l0), (1, vI l1), (2, vI l2), (3, vI l3)] [] M 0 0 := by
  simp only [vb_X12_end_68] at h
  refine mx_aload_n (j := 0) hC dX12_end_68 rfl rfl ?_
  refine mx_iload_n (j := 1) hC dX12_end_69 rfl rfl ?_
  refine mx_iload_n (j := 2) hC dX12_end_70 rfl rfl ?_
  refine mx_aload_n (j := 0) hC dX12_end_71 rfl rfl ?_
  obtain ⟨ht1, h⟩ := h
  refine mx_get (v := vI (mj_i M l0 0)) hC tf_X12_151 ht1 rfl dX12_end_72 ?_
  refine mx_callV (inj := mj_jV) (As := [vI l1, vI l2, vI (mj_i M l0 0)]) (st := []) hC (ct_X12_close l0 l1 l2 (mj_i M l0 0) M _ h) ty_X12_close tw1460 ht1 rfl (Nat.le_of_ble_eq_true rfl) ⟨rfl, rfl, ⟨by decide, by decide⟩, by decide, by decide⟩ dX12_end_75 (fun _ M2 h => ?_)
  show mj_X g 78 [(0, vR l0), (1, vI l1), (2, vI l2), (3, vI l3)] [] M2 0 0
  refine mx_aload_n (j := 0) hC dX12_end_78 rfl rfl ?_
  refine mx_iload_n (j := 1) hC dX12_end_79 rfl rfl ?_
  refine mx_iload_n (j := 3) hC dX12_end_80 rfl rfl ?_
  obtain ⟨ht3, h⟩ := h
  refine mx_callV (inj := mj_jI) (As := [vI l1, vI l3]) (st := []) hC (ct_X12_moveUp l0 l1 l3 M2 _ h) ty_X12_moveUp tw1464 ht3 rfl (Nat.le_of_ble_eq_true rfl) ⟨rfl, rfl, ⟨by decide, by decide⟩, by decide, by decide⟩ dX12_end_81 (fun r4 M5 h => ?_)
  show mj_X g 84 [(0, vR l0), (1, vI l1), (2, vI l2), (3, vI l3)] [vI r4] M5 0 0
  exact mx_iret hC hE rfl dX12_end_84 h
set_option maxHeartbeats 4000000 in
set_option maxRecDepth 100000 in
theorem xb_X12_end_23 {g : mj_G} {post : Int32 → mj_M → Prop} (hC : mj_C g yX12_end cX12_end 4 (some .int) rm_X12_end) (hE : mj_E g mj_jI post 0 0) (l0 : Nat) (l1 : Int32) (l2 : Int32) (M : mj_M) (h : vb_X12_end_23 post l0 l1 l2 M) : mj_X g 23 [(0, vR l0), (1, vI l1), (2, vI l2)] [] M 0 0 := by
  simp only [vb_X12_end_23] at h
  refine mx_aload_n (j := 0) hC dX12_end_23 rfl rfl ?_
  refine mx_iload_n (j := 1) hC dX12_end_24 rfl rfl ?_
  refine mx_aload_n (j := 0) hC dX12_end_25 rfl rfl ?_
  obtain ⟨ht6, h⟩ := h
  refine mx_get (v := vI (mj_i M l0 0)) hC tf_X12_151 ht6 rfl dX12_end_26 ?_
  refine mx_callV (inj := mj_jB) (As := [vI l1, vI (mj_i M l0 0)]) (st := []) hC (ct_X12_isOn l0 l1 (mj_i M l0 0) M _ h) ty_X12_isOn tw1440 ht6 rfl (Nat.le_of_ble_eq_true rfl) ⟨rfl, rfl, ⟨by decide, by decide⟩, by decide, by decide⟩ dX12_end_29 (fun r7 M8 h => ?_)
  show mj_X g 32 [(0, vR l0), (1, vI l1), (2, vI l2)] [vI (mj_b r7)] M8 0 0
  refine mx_ifneB (tgt := 38) hC dX12_end_32 (by decide) (fun hc9 => ?_) (fun hc9 => ?_)
  · replace h := mj_yy hc9 h
    refine mx_aload_n (j := 0) hC dX12_end_38 rfl rfl ?_
    obtain ⟨ht10, h⟩ := h
    refine mx_get (v := vR (mj_r M8 l0 1)) hC tf_X12_7 ht10 rfl dX12_end_39 ?_
    refine mx_iload_n (j := 1) hC dX12_end_42 rfl rfl ?_
    obtain ⟨ht11, h⟩ := h
    obtain ⟨hi12, h⟩ := h
    refine mx_iaload hC ht11 hi12 dX12_end_43 ?_
    refine mx_istore_n (L' := [(3, vI (mj_i M8 (mj_r M8 l0 1) (l1 : Int32).toNatClampNeg)), (0, vR l0), (1, vI l1), (2, vI l2)]) hC dX12_end_44 rfl (by decide) rfl ?_
    refine mx_iload_n (j := 3) hC dX12_end_45 rfl rfl ?_
    refine mx_iconst (v := 3) hC dX12_end_46 (by decide) ?_
    refine mx_icmpne (tgt := 68) hC dX12_end_47 (by decide) (fun hc13 => ?_) (fun hc13 => ?_)
    · replace h := mj_nn hc13 h
      refine mx_sub (L' := [(0, vR l0), (1, vI l1), (2, vI l2), (3, vI (mj_i M8 (mj_r M8 l0 1) (l1 : Int32).toNatClampNeg))]) [1, 2, 3, 0] rfl ?_
      exact show mj_X g 68 [(0, vR l0), (1, vI l1), (2, vI l2), (3, vI (mj_i M8 (mj_r M8 l0 1) (l1 : Int32).toNatClampNeg))] [] M8 0 0 from (xb_X12_end_68 hC hE l0 l1 l2 (mj_i M8 (mj_r M8 l0 1) (l1 : Int32).toNatClampNeg) M8 h)
    · replace h := mj_yy hc13 h
      refine mx_aload_n (j := 1) hC dX12_end_50 rfl rfl ?_
      refine mx_get (v := vR (mj_r M8 l0 7)) hC tf_X12_28 ht10 rfl dX12_end_51 ?_
      refine mx_iload_n (j := 2) hC dX12_end_54 rfl rfl ?_
      obtain ⟨ht14, h⟩ := h
      obtain ⟨hi15, h⟩ := h
      refine mx_iaload hC ht14 hi15 dX12_end_55 ?_
      refine mx_aload_n (j := 1) hC dX12_end_56 rfl rfl ?_
      refine mx_get (v := vR (mj_r M8 l0 7)) hC tf_X12_28 ht10 rfl dX12_end_57 ?_
      refine mx_iload_n (j := 0) hC dX12_end_60 rfl rfl ?_
      obtain ⟨hi16, h⟩ := h
      refine mx_iaload hC ht14 hi16 dX12_end_61 ?_
      refine mx_icmpeq (tgt := 68) hC dX12_end_62 (by decide) (fun hc17 => ?_) (fun hc17 => ?_)
      · replace h := mj_yy hc17 h
        refine mx_sub (L' := [(0, vR l0), (1, vI l1), (2, vI l2), (3, vI (mj_i M8 (mj_r M8 l0 1) (l1 : Int32).toNatClampNeg))]) [1, 2, 3, 0] rfl ?_
        exact show mj_X g 68 [(0, vR l0), (1, vI l1), (2, vI l2), (3, vI (mj_i M8 (mj_r M8 l0 1) (l1 : Int32).toNatClampNeg))] [] M8 0 0 from (xb_X12_end_68 hC hE l0 l1 l2 (mj_i M8 (mj_r M8 l0 1) (l1 : Int32).toNatClampNeg) M8 h)
      · replace h := mj_nn hc17 h
        refine mx_bipush (v := (-5)) hC dX12_end_65 (by decide) ?_
        exact mx_iret hC hE rfl dX12_end_67 h
  · replace h := mj_nn hc9 h
    refine mx_bipush (v := (-3)) hC dX12_end_35 (by decide) ?_
    exact mx_iret hC hE rfl dX12_end_37 h
set_option maxHeartbeats 4000000 in
set_option maxRecDepth 100000 in
theorem ct_X12_end {l : Launch} {base : Nat} {D : va_G} {A : ClassId × ClassId × ClassId} (l0 : Nat) (l1 : Int32) (l2 : Int32) (M : mj_M) (post : Int32 → mj_M → Prop) (h : vc_X12_end l0 l1 l2 M post) : mj_Met l base D A mj_jI yX12_end cX12_end 4 (some .int) rm_X12_end 0 0 [vR l0, vI l1, vI l2] M post := by
  refine mj_entry (by decide +kernel) (Nat.le_of_ble_eq_true rfl) (fun g hC hE h1 h2 h3 h4 => ?_)
  show mj_X g 0 [(0, vR l0), (1, vI l1), (2, vI l2)] [] M 0 0
  simp only [vc_X12_end] at h
  refine mx_aload_n (j := 0) hC dX12_end_0 rfl rfl ?_
  refine mx_iload_n (j := 1) hC dX12_end_1 rfl rfl ?_
  obtain ⟨ht18, h⟩ := h
  refine mx_callV (inj := mj_jB) (As := [vI l1]) (st := []) hC (ct_X12_isLease l0 l1 M _ h) ty_X12_isLease tw1448 ht18 rfl (Nat.le_of_ble_eq_true rfl) ⟨rfl, rfl, ⟨by decide, by decide⟩, by decide, by decide⟩ dX12_end_2 (fun r19 M20 h => ?_)
  show mj_X g 5 [(0, vR l0), (1, vI l1), (2, vI l2)] [vI (mj_b r19)] M20 0 0
  refine mx_ifneB (tgt := 10) hC dX12_end_5 (by decide) (fun hc21 => ?_) (fun hc21 => ?_)
  · replace h := mj_yy hc21 h
    refine mx_iload_n (j := 2) hC dX12_end_10 rfl rfl ?_
    refine mx_iconst (v := 1) hC dX12_end_11 (by decide) ?_
    refine mx_icmpeq (tgt := 23) hC dX12_end_12 (by decide) (fun hc22 => ?_) (fun hc22 => ?_)
    · replace h := mj_yy hc22 h
      refine mx_sub (L' := [(0, vR l0), (1, vI l1), (2, vI l2)]) [0, 1, 2] rfl ?_
      exact show mj_X g 23 [(0, vR l0), (1, vI l1), (2, vI l2)] [] M20 0 0 from (xb_X12_end_23 hC hE l0 l1 l2 M20 h)
    · replace h := mj_nn hc22 h
      refine mx_iload_n (j := 2) hC dX12_end_15 rfl rfl ?_
      refine mx_iconst (v := 3) hC dX12_end_16 (by decide) ?_
      refine mx_icmpeq (tgt := 23) hC dX12_end_17 (by decide) (fun hc23 => ?_) (fun hc23 => ?_)
      · replace h := mj_yy hc23 h
        refine mx_sub (L' := [(0, vR l0), (1, vI l1), (2, vI l2)]) [0, 1, 2] rfl ?_
        exact show mj_X g 23 [(0, vR l0), (1, vI l1), (2, vI l2)] [] M20 0 0 from (xb_X12_end_23 hC hE l0 l1 l2 M20 h)
      · replace h := mj_nn hc23 h
        refine mx_bipush (v := (-2)) hC dX12_end_20 (by decide) ?_
        exact mx_iret hC hE rfl dX12_end_22 h
  · replace h := mj_nn hc21 h
    refine mx_iconst (v := (-1)) hC dX12_end_8 (by decide) ?_
    exact mx_iret hC hE rfl dX12_end_9 h
def rm_X12_manyOut : Room := { frames := 0, cells := 0, slots := 0, locals := 0 }
theorem dX12_manyOut_0 : decode cX12_manyOut 0 = .ok (.iconst 0, 1) := by decide +kernel
theorem dX12_manyOut_1 : decode cX12_manyOut 1 = .ok (.istore_n 2, 1) := by decide +kernel
theorem dX12_manyOut_2 : decode cX12_manyOut 2 = .ok (.iconst 0, 1) := by decide +kernel
theorem dX12_manyOut_3 : decode cX12_manyOut 3 = .ok (.istore_n 3, 1) := by decide +kernel
theorem dX12_manyOut_4 : decode cX12_manyOut 4 = .ok (.iload_n 3, 1) := by decide +kernel
theorem dX12_manyOut_5 : decode cX12_manyOut 5 = .ok (.aload_n 0, 1) := by decide +kernel
theorem dX12_manyOut_6 : decode cX12_manyOut 6 = .ok (.getfield 130, 3) := by decide +kernel
theorem dX12_manyOut_9 : decode cX12_manyOut 9 = .ok (.if_icmp .ge 27, 3) := by decide +kernel
theorem dX12_manyOut_12 : decode cX12_manyOut 12 = .ok (.iload_n 2, 1) := by decide +kernel
theorem dX12_manyOut_13 : decode cX12_manyOut 13 = .ok (.aload_n 0, 1) := by decide +kernel
theorem dX12_manyOut_14 : decode cX12_manyOut 14 = .ok (.getfield 7, 3) := by decide +kernel
theorem dX12_manyOut_17 : decode cX12_manyOut 17 = .ok (.iload_n 3, 1) := by decide +kernel
theorem dX12_manyOut_18 : decode cX12_manyOut 18 = .ok (.iaload, 1) := by decide +kernel
theorem dX12_manyOut_19 : decode cX12_manyOut 19 = .ok (.iload_n 1, 1) := by decide +kernel
theorem dX12_manyOut_20 : decode cX12_manyOut 20 = .ok (.if_icmp .ne 7, 3) := by decide +kernel
theorem dX12_manyOut_23 : decode cX12_manyOut 23 = .ok (.iconst 1, 1) := by decide +kernel
theorem dX12_manyOut_24 : decode cX12_manyOut 24 = .ok (.goto 4, 3) := by decide +kernel
theorem dX12_manyOut_27 : decode cX12_manyOut 27 = .ok (.iconst 0, 1) := by decide +kernel
theorem dX12_manyOut_28 : decode cX12_manyOut 28 = .ok (.iadd, 1) := by decide +kernel
theorem dX12_manyOut_29 : decode cX12_manyOut 29 = .ok (.istore_n 2, 1) := by decide +kernel
theorem dX12_manyOut_30 : decode cX12_manyOut 30 = .ok (.iinc 3 1, 3) := by decide +kernel
theorem dX12_manyOut_33 : decode cX12_manyOut 33 = .ok (.goto (-29), 3) := by decide +kernel
theorem dX12_manyOut_36 : decode cX12_manyOut 36 = .ok (.iload_n 2, 1) := by decide +kernel
theorem dX12_manyOut_37 : decode cX12_manyOut 37 = .ok (.ireturn, 1) := by decide +kernel
def vb_X12_manyOut_4 (post : Int32 → mj_M → Prop) : Nat → Nat → Int32 → Int32 → Int32 → mj_M → Prop
  | 0 => fun _ _ _ _ _ => False
  | f + 1 => fun l0 l1 l2 l3 M => mj_tag M l0 = 13 ∧ if (mj_i M l0 13) ≤ l3 then (post l2 M) else (mj_tag M (mj_r M l0 1) = 101 ∧ vp_in l3 (mj_len M (mj_r M l0 1)) ∧ if (mj_i M (mj_r M l0 1) (l3 : Int32).toNatClampNeg) = l1 then (vb_X12_manyOut_4 post f l0 l1 (l2 + 1) (l3 + 1) M) else (vb_X12_manyOut_4 post f l0 l1 (l2 + 0) (l3 + 1) M))
def vc_X12_manyOut (l0 : Nat) (l1 : Int32) (M : mj_M) (post : Int32 → mj_M → Prop) : Prop := ∃ fe, vb_X12_manyOut_4 post fe l0 l1 0 0 M
set_option maxHeartbeats 4000000 in
set_option maxRecDepth 100000 in
theorem xb_X12_manyOut_4 {g : mj_G} {post : Int32 → mj_M → Prop} (hC : mj_C g yX12_manyOut cX12_manyOut 4 (some .int) rm_X12_manyOut) (hE : mj_E g mj_jI post 0 0) : ∀ (f : Nat) (l0 : Nat) (l1 : Int32) (l2 : Int32) (l3 : Int32) (M : mj_M), vb_X12_manyOut_4 post f l0 l1 l2 l3 M → mj_X g 4 [(0, vR l0), (1, vI l1), (2, vI l2), (3, vI l3)] [] M 0 0 := by
  intro f
  induction f with
  | zero => exact fun _ _ _ _ _ h => absurd h (fun z => z)
  | succ f ih =>
    intro l0 l1 l2 l3 M h
    simp only [vb_X12_manyOut_4] at h
    refine mx_iload_n (j := 3) hC dX12_manyOut_4 rfl rfl ?_
    refine mx_aload_n (j := 0) hC dX12_manyOut_5 rfl rfl ?_
    obtain ⟨ht1, h⟩ := h
    refine mx_get (v := vI (mj_i M l0 13)) hC tf_X12_130 ht1 rfl dX12_manyOut_6 ?_
    refine mx_icmpge (tgt := 36) hC dX12_manyOut_9 (by decide) (fun hc2 => ?_) (fun hc2 => ?_)
    · replace h := mj_yy hc2 h
      refine mx_iload_n (j := 2) hC dX12_manyOut_36 rfl rfl ?_
      exact mx_iret hC hE rfl dX12_manyOut_37 h
    · replace h := mj_nn hc2 h
      refine mx_iload_n (j := 2) hC dX12_manyOut_12 rfl rfl ?_
      refine mx_aload_n (j := 0) hC dX12_manyOut_13 rfl rfl ?_
      refine mx_get (v := vR (mj_r M l0 1)) hC tf_X12_7 ht1 rfl dX12_manyOut_14 ?_
      refine mx_iload_n (j := 3) hC dX12_manyOut_17 rfl rfl ?_
      obtain ⟨ht3, h⟩ := h
      obtain ⟨hi4, h⟩ := h
      refine mx_iaload hC ht3 hi4 dX12_manyOut_18 ?_
      refine mx_iload_n (j := 1) hC dX12_manyOut_19 rfl rfl ?_
      refine mx_icmpne (tgt := 27) hC dX12_manyOut_20 (by decide) (fun hc5 => ?_) (fun hc5 => ?_)
      · replace h := mj_nn hc5 h
        refine mx_iconst (v := 0) hC dX12_manyOut_27 (by decide) ?_
        refine mx_iadd hC dX12_manyOut_28 ?_
        refine mx_istore_n (L' := [(2, vI (l2 + 0)), (0, vR l0), (1, vI l1), (3, vI l3)]) hC dX12_manyOut_29 rfl (by decide) rfl ?_
        refine mx_iinc (j := 3) (v := l3 + 1) (L' := [(3, vI (l3 + 1)), (2, vI (l2 + 0)), (0, vR l0), (1, vI l1)]) hC dX12_manyOut_30 rfl rfl (by decide) rfl ?_
        refine mx_goto (tgt := 4) hC dX12_manyOut_33 (by decide) ?_
        refine mx_sub (L' := [(0, vR l0), (1, vI l1), (2, vI (l2 + 0)), (3, vI (l3 + 1))]) [2, 3, 1, 0] rfl ?_
        exact show mj_X g 4 [(0, vR l0), (1, vI l1), (2, vI (l2 + 0)), (3, vI (l3 + 1))] [] M 0 0 from (ih l0 l1 (l2 + 0) (l3 + 1) M h)
      · replace h := mj_yy hc5 h
        refine mx_iconst (v := 1) hC dX12_manyOut_23 (by decide) ?_
        refine mx_goto (tgt := 28) hC dX12_manyOut_24 (by decide) ?_
        refine mx_iadd hC dX12_manyOut_28 ?_
        refine mx_istore_n (L' := [(2, vI (l2 + 1)), (0, vR l0), (1, vI l1), (3, vI l3)]) hC dX12_manyOut_29 rfl (by decide) rfl ?_
        refine mx_iinc (j := 3) (v := l3 + 1) (L' := [(3, vI (l3 + 1)), (2, vI (l2 + 1)), (0, vR l0), (1, vI l1)]) hC dX12_manyOut_30 rfl rfl (by decide) rfl ?_
        refine mx_goto (tgt := 4) hC dX12_manyOut_33 (by decide) ?_
        refine mx_sub (L' := [(0, vR l0), (1, vI l1), (2, vI (l2 + 1)), (3, vI (l3 + 1))]) [2, 3, 1, 0] rfl ?_
        exact show mj_X g 4 [(0, vR l0), (1, vI l1), (2, vI (l2 + 1)), (3, vI (l3 + 1))] [] M 0 0 from (ih l0 l1 (l2 + 1) (l3 + 1) M h)
set_option maxHeartbeats 4000000 in
set_option maxRecDepth 100000 in
theorem ct_X12_manyOut {l : Launch} {base : Nat} {D : va_G} {A : ClassId × ClassId × ClassId} (l0 : Nat) (l1 : Int32) (M : mj_M) (post : Int32 → mj_M → Prop) (h : vc_X12_manyOut l0 l1 M post) : mj_Met l base D A mj_jI yX12_manyOut cX12_manyOut 4 (some .int) rm_X12_manyOut 0 0 [vR l0, vI l1] M post := by
  refine mj_entry (by decide +kernel) (Nat.le_of_ble_eq_true rfl) (fun g hC hE h1 h2 h3 h4 => ?_)
  show mj_X g 0 [(0, vR l0), (1, vI l1)] [] M 0 0
  simp only [vc_X12_manyOut] at h
  refine mx_iconst (v := 0) hC dX12_manyOut_0 (by decide) ?_
  refine mx_istore_n (L' := [(2, vI 0), (0, vR l0), (1, vI l1)]) hC dX12_manyOut_1 rfl (by decide) rfl ?_
  refine mx_iconst (v := 0) hC dX12_manyOut_2 (by decide) ?_
  refine mx_istore_n (L' := [(3, vI 0), (2, vI 0), (0, vR l0), (1, vI l1)]) hC dX12_manyOut_3 rfl (by decide) rfl ?_
  refine mx_sub (L' := [(0, vR l0), (1, vI l1), (2, vI 0), (3, vI 0)]) [2, 3, 1, 0] rfl ?_
  obtain ⟨fe, h⟩ := h
  exact show mj_X g 4 [(0, vR l0), (1, vI l1), (2, vI 0), (3, vI 0)] [] M 0 0 from (xb_X12_manyOut_4 hC hE fe l0 l1 0 0 M h)
theorem tw1472 : (Jvm.Cond.methodLink "LeaseLandModel" (204 : Nat) ({ cls := "LeaseLandModel", name := "manyOut", desc := "(I)I" } : Jvm.MethodName)) ∈ mj_tbl := mj_w 1525 (by decide +kernel) (by decide +kernel)
theorem tw1475 : (Jvm.Cond.code ({ cls := "LeaseLandModel", name := "manyOut", desc := "(I)I" } : Jvm.MethodName) prog_14_method_29_code (4 : Nat) (Option.some Jvm.ClassFile.FieldType.int)) ∈ mj_tbl := mj_w 1528 (by decide +kernel) (by decide +kernel)
theorem tw1474 : (Jvm.Cond.instanceMethod ({ cls := "LeaseLandModel", name := "manyOut", desc := "(I)I" } : Jvm.MethodName)) ∈ mj_tbl := mj_w 1527 (by decide +kernel) (by decide +kernel)
theorem ty_X12_manyOut : mj_YV 12 yX12_manyOut cX12_manyOut 4 (some .int) 1 := ⟨⟨tw1475, tw11, by decide +kernel, by decide +kernel, by decide +kernel⟩, tw1474, mj_w 17 (by decide +kernel) (by decide +kernel), _, rfl, rfl⟩
def rm_X12_about : Room := { frames := 2, cells := 0, slots := 0, locals := 46 }
theorem dX12_about_0 : decode cX12_about 0 = .ok (.aload_n 0, 1) := by decide +kernel
theorem dX12_about_1 : decode cX12_about 1 = .ok (.iload_n 1, 1) := by decide +kernel
theorem dX12_about_2 : decode cX12_about 2 = .ok (.invokevirtual 137, 3) := by decide +kernel
theorem dX12_about_5 : decode cX12_about 5 = .ok (.ifCond .ne 5, 3) := by decide +kernel
theorem dX12_about_8 : decode cX12_about 8 = .ok (.iconst (-1), 1) := by decide +kernel
theorem dX12_about_9 : decode cX12_about 9 = .ok (.ireturn, 1) := by decide +kernel
theorem dX12_about_10 : decode cX12_about 10 = .ok (.iload_n 2, 1) := by decide +kernel
theorem dX12_about_11 : decode cX12_about 11 = .ok (.tableswitch 143 0 11 #[61, 68, 75, 82, 89, 95, 102, 109, 116, 123, 130, 137], 61) := by decide +kernel
theorem dX12_about_72 : decode cX12_about 72 = .ok (.aload_n 0, 1) := by decide +kernel
theorem dX12_about_73 : decode cX12_about 73 = .ok (.getfield 7, 3) := by decide +kernel
theorem dX12_about_76 : decode cX12_about 76 = .ok (.iload_n 1, 1) := by decide +kernel
theorem dX12_about_77 : decode cX12_about 77 = .ok (.iaload, 1) := by decide +kernel
theorem dX12_about_78 : decode cX12_about 78 = .ok (.ireturn, 1) := by decide +kernel
theorem dX12_about_79 : decode cX12_about 79 = .ok (.aload_n 0, 1) := by decide +kernel
theorem dX12_about_80 : decode cX12_about 80 = .ok (.getfield 13, 3) := by decide +kernel
theorem dX12_about_83 : decode cX12_about 83 = .ok (.iload_n 1, 1) := by decide +kernel
theorem dX12_about_84 : decode cX12_about 84 = .ok (.iaload, 1) := by decide +kernel
theorem dX12_about_85 : decode cX12_about 85 = .ok (.ireturn, 1) := by decide +kernel
theorem dX12_about_86 : decode cX12_about 86 = .ok (.aload_n 0, 1) := by decide +kernel
theorem dX12_about_87 : decode cX12_about 87 = .ok (.getfield 16, 3) := by decide +kernel
theorem dX12_about_90 : decode cX12_about 90 = .ok (.iload_n 1, 1) := by decide +kernel
theorem dX12_about_91 : decode cX12_about 91 = .ok (.iaload, 1) := by decide +kernel
theorem dX12_about_92 : decode cX12_about 92 = .ok (.ireturn, 1) := by decide +kernel
theorem dX12_about_93 : decode cX12_about 93 = .ok (.aload_n 0, 1) := by decide +kernel
theorem dX12_about_94 : decode cX12_about 94 = .ok (.getfield 19, 3) := by decide +kernel
theorem dX12_about_97 : decode cX12_about 97 = .ok (.iload_n 1, 1) := by decide +kernel
theorem dX12_about_98 : decode cX12_about 98 = .ok (.iaload, 1) := by decide +kernel
theorem dX12_about_99 : decode cX12_about 99 = .ok (.ireturn, 1) := by decide +kernel
theorem dX12_about_100 : decode cX12_about 100 = .ok (.aload_n 0, 1) := by decide +kernel
theorem dX12_about_101 : decode cX12_about 101 = .ok (.iload_n 1, 1) := by decide +kernel
theorem dX12_about_102 : decode cX12_about 102 = .ok (.invokevirtual 147, 3) := by decide +kernel
theorem dX12_about_105 : decode cX12_about 105 = .ok (.ireturn, 1) := by decide +kernel
theorem dX12_about_106 : decode cX12_about 106 = .ok (.aload_n 0, 1) := by decide +kernel
theorem dX12_about_107 : decode cX12_about 107 = .ok (.getfield 25, 3) := by decide +kernel
theorem dX12_about_110 : decode cX12_about 110 = .ok (.iload_n 1, 1) := by decide +kernel
theorem dX12_about_111 : decode cX12_about 111 = .ok (.iaload, 1) := by decide +kernel
theorem dX12_about_112 : decode cX12_about 112 = .ok (.ireturn, 1) := by decide +kernel
theorem dX12_about_113 : decode cX12_about 113 = .ok (.aload_n 0, 1) := by decide +kernel
theorem dX12_about_114 : decode cX12_about 114 = .ok (.getfield 28, 3) := by decide +kernel
theorem dX12_about_117 : decode cX12_about 117 = .ok (.iload_n 1, 1) := by decide +kernel
theorem dX12_about_118 : decode cX12_about 118 = .ok (.iaload, 1) := by decide +kernel
theorem dX12_about_119 : decode cX12_about 119 = .ok (.ireturn, 1) := by decide +kernel
theorem dX12_about_120 : decode cX12_about 120 = .ok (.aload_n 0, 1) := by decide +kernel
theorem dX12_about_121 : decode cX12_about 121 = .ok (.getfield 31, 3) := by decide +kernel
theorem dX12_about_124 : decode cX12_about 124 = .ok (.iload_n 1, 1) := by decide +kernel
theorem dX12_about_125 : decode cX12_about 125 = .ok (.iaload, 1) := by decide +kernel
theorem dX12_about_126 : decode cX12_about 126 = .ok (.ireturn, 1) := by decide +kernel
theorem dX12_about_127 : decode cX12_about 127 = .ok (.aload_n 0, 1) := by decide +kernel
theorem dX12_about_128 : decode cX12_about 128 = .ok (.getfield 34, 3) := by decide +kernel
theorem dX12_about_131 : decode cX12_about 131 = .ok (.iload_n 1, 1) := by decide +kernel
theorem dX12_about_132 : decode cX12_about 132 = .ok (.iaload, 1) := by decide +kernel
theorem dX12_about_133 : decode cX12_about 133 = .ok (.ireturn, 1) := by decide +kernel
theorem dX12_about_134 : decode cX12_about 134 = .ok (.aload_n 0, 1) := by decide +kernel
theorem dX12_about_135 : decode cX12_about 135 = .ok (.getfield 37, 3) := by decide +kernel
theorem dX12_about_138 : decode cX12_about 138 = .ok (.iload_n 1, 1) := by decide +kernel
theorem dX12_about_139 : decode cX12_about 139 = .ok (.iaload, 1) := by decide +kernel
theorem dX12_about_140 : decode cX12_about 140 = .ok (.ireturn, 1) := by decide +kernel
theorem dX12_about_141 : decode cX12_about 141 = .ok (.aload_n 0, 1) := by decide +kernel
theorem dX12_about_142 : decode cX12_about 142 = .ok (.getfield 40, 3) := by decide +kernel
theorem dX12_about_145 : decode cX12_about 145 = .ok (.iload_n 1, 1) := by decide +kernel
theorem dX12_about_146 : decode cX12_about 146 = .ok (.iaload, 1) := by decide +kernel
theorem dX12_about_147 : decode cX12_about 147 = .ok (.ireturn, 1) := by decide +kernel
theorem dX12_about_148 : decode cX12_about 148 = .ok (.aload_n 0, 1) := by decide +kernel
theorem dX12_about_149 : decode cX12_about 149 = .ok (.iload_n 1, 1) := by decide +kernel
theorem dX12_about_150 : decode cX12_about 150 = .ok (.invokevirtual 204, 3) := by decide +kernel
theorem dX12_about_153 : decode cX12_about 153 = .ok (.ireturn, 1) := by decide +kernel
theorem dX12_about_154 : decode cX12_about 154 = .ok (.bipush (-2), 2) := by decide +kernel
theorem dX12_about_156 : decode cX12_about 156 = .ok (.ireturn, 1) := by decide +kernel
def vc_X12_about (l0 : Nat) (l1 : Int32) (l2 : Int32) (M : mj_M) (post : Int32 → mj_M → Prop) : Prop := mj_tag M l0 = 13 ∧ vc_X12_isHolding l0 l1 M (fun r2 M3 => if r2 = true then (if l2 = 0 then (mj_tag M3 l0 = 13 ∧ mj_tag M3 (mj_r M3 l0 1) = 101 ∧ vp_in l1 (mj_len M3 (mj_r M3 l0 1)) ∧ post (mj_i M3 (mj_r M3 l0 1) (l1 : Int32).toNatClampNeg) M3) else (if l2 = 1 then (mj_tag M3 l0 = 13 ∧ mj_tag M3 (mj_r M3 l0 2) = 101 ∧ vp_in l1 (mj_len M3 (mj_r M3 l0 2)) ∧ post (mj_i M3 (mj_r M3 l0 2) (l1 : Int32).toNatClampNeg) M3) else (if l2 = 2 then (mj_tag M3 l0 = 13 ∧ mj_tag M3 (mj_r M3 l0 3) = 101 ∧ vp_in l1 (mj_len M3 (mj_r M3 l0 3)) ∧ post (mj_i M3 (mj_r M3 l0 3) (l1 : Int32).toNatClampNeg) M3) else (if l2 = 3 then (mj_tag M3 l0 = 13 ∧ mj_tag M3 (mj_r M3 l0 4) = 101 ∧ vp_in l1 (mj_len M3 (mj_r M3 l0 4)) ∧ post (mj_i M3 (mj_r M3 l0 4) (l1 : Int32).toNatClampNeg) M3) else (if l2 = 4 then (mj_tag M3 l0 = 13 ∧ vc_X12_until l0 l1 M3 (fun r23 M24 => post r23 M24)) else (if l2 = 5 then (mj_tag M3 l0 = 13 ∧ mj_tag M3 (mj_r M3 l0 6) = 101 ∧ vp_in l1 (mj_len M3 (mj_r M3 l0 6)) ∧ post (mj_i M3 (mj_r M3 l0 6) (l1 : Int32).toNatClampNeg) M3) else (if l2 = 6 then (mj_tag M3 l0 = 13 ∧ mj_tag M3 (mj_r M3 l0 7) = 101 ∧ vp_in l1 (mj_len M3 (mj_r M3 l0 7)) ∧ post (mj_i M3 (mj_r M3 l0 7) (l1 : Int32).toNatClampNeg) M3) else (if l2 = 7 then (mj_tag M3 l0 = 13 ∧ mj_tag M3 (mj_r M3 l0 8) = 101 ∧ vp_in l1 (mj_len M3 (mj_r M3 l0 8)) ∧ post (mj_i M3 (mj_r M3 l0 8) (l1 : Int32).toNatClampNeg) M3) else (if l2 = 8 then (mj_tag M3 l0 = 13 ∧ mj_tag M3 (mj_r M3 l0 9) = 101 ∧ vp_in l1 (mj_len M3 (mj_r M3 l0 9)) ∧ post (mj_i M3 (mj_r M3 l0 9) (l1 : Int32).toNatClampNeg) M3) else (if l2 = 9 then (mj_tag M3 l0 = 13 ∧ mj_tag M3 (mj_r M3 l0 10) = 101 ∧ vp_in l1 (mj_len M3 (mj_r M3 l0 10)) ∧ post (mj_i M3 (mj_r M3 l0 10) (l1 : Int32).toNatClampNeg) M3) else (if l2 = 10 then (mj_tag M3 l0 = 13 ∧ mj_tag M3 (mj_r M3 l0 11) = 101 ∧ vp_in l1 (mj_len M3 (mj_r M3 l0 11)) ∧ post (mj_i M3 (mj_r M3 l0 11) (l1 : Int32).toNatClampNeg) M3) else (if l2 = 11 then (mj_tag M3 l0 = 13 ∧ vc_X12_manyOut l0 l1 M3 (fun r51 M52 => post r51 M52)) else (post ((-2)) M3))))))))))))) else (post ((-1)) M3))
set_option maxHeartbeats 4000000 in
set_option maxRecDepth 100000 in
theorem ct_X12_about {l : Launch} {base : Nat} {D : va_G} {A : ClassId × ClassId × ClassId} (l0 : Nat) (l1 : Int32) (l2 : Int32) (M : mj_M) (post : Int32 → mj_M → Prop) (h : vc_X12_about l0 l1 l2 M post) : mj_Met l base D A mj_jI yX12_about cX12_about 3 (some .int) rm_X12_about 0 0 [vR l0, vI l1, vI l2] M post := by
  refine mj_entry (by decide +kernel) (Nat.le_of_ble_eq_true rfl) (fun g hC hE h1 h2 h3 h4 => ?_)
  show mj_X g 0 [(0, vR l0), (1, vI l1), (2, vI l2)] [] M 0 0
  simp only [vc_X12_about] at h
  refine mx_aload_n (j := 0) hC dX12_about_0 rfl rfl ?_
  refine mx_iload_n (j := 1) hC dX12_about_1 rfl rfl ?_
  obtain ⟨ht1, h⟩ := h
  refine mx_callV (inj := mj_jB) (As := [vI l1]) (st := []) hC (ct_X12_isHolding l0 l1 M _ h) ty_X12_isHolding tw1407 ht1 rfl (Nat.le_of_ble_eq_true rfl) ⟨rfl, rfl, ⟨by decide, by decide⟩, by decide, by decide⟩ dX12_about_2 (fun r2 M3 h => ?_)
  show mj_X g 5 [(0, vR l0), (1, vI l1), (2, vI l2)] [vI (mj_b r2)] M3 0 0
  refine mx_ifneB (tgt := 10) hC dX12_about_5 (by decide) (fun hc4 => ?_) (fun hc4 => ?_)
  · replace h := mj_yy hc4 h
    refine mx_iload_n (j := 2) hC dX12_about_10 rfl rfl ?_
    by_cases hc5 : l2 = 0
    · replace h := mj_yy hc5 h
      refine mx_tsin (v := 0) (off := 61) (tgt := 72) hC dX12_about_11 hc5 (by decide) (by decide) (by decide) (by decide) ?_
      refine mx_aload_n (j := 0) hC dX12_about_72 rfl rfl ?_
      obtain ⟨ht6, h⟩ := h
      refine mx_get (v := vR (mj_r M3 l0 1)) hC tf_X12_7 ht6 rfl dX12_about_73 ?_
      refine mx_iload_n (j := 1) hC dX12_about_76 rfl rfl ?_
      obtain ⟨ht7, h⟩ := h
      obtain ⟨hi8, h⟩ := h
      refine mx_iaload hC ht7 hi8 dX12_about_77 ?_
      exact mx_iret hC hE rfl dX12_about_78 h
    replace h := mj_nn hc5 h
    by_cases hc9 : l2 = 1
    · replace h := mj_yy hc9 h
      refine mx_tsin (v := 1) (off := 68) (tgt := 79) hC dX12_about_11 hc9 (by decide) (by decide) (by decide) (by decide) ?_
      refine mx_aload_n (j := 0) hC dX12_about_79 rfl rfl ?_
      obtain ⟨ht10, h⟩ := h
      refine mx_get (v := vR (mj_r M3 l0 2)) hC tf_X12_13 ht10 rfl dX12_about_80 ?_
      refine mx_iload_n (j := 1) hC dX12_about_83 rfl rfl ?_
      obtain ⟨ht11, h⟩ := h
      obtain ⟨hi12, h⟩ := h
      refine mx_iaload hC ht11 hi12 dX12_about_84 ?_
      exact mx_iret hC hE rfl dX12_about_85 h
    replace h := mj_nn hc9 h
    by_cases hc13 : l2 = 2
    · replace h := mj_yy hc13 h
      refine mx_tsin (v := 2) (off := 75) (tgt := 86) hC dX12_about_11 hc13 (by decide) (by decide) (by decide) (by decide) ?_
      refine mx_aload_n (j := 0) hC dX12_about_86 rfl rfl ?_
      obtain ⟨ht14, h⟩ := h
      refine mx_get (v := vR (mj_r M3 l0 3)) hC tf_X12_16 ht14 rfl dX12_about_87 ?_
      refine mx_iload_n (j := 1) hC dX12_about_90 rfl rfl ?_
      obtain ⟨ht15, h⟩ := h
      obtain ⟨hi16, h⟩ := h
      refine mx_iaload hC ht15 hi16 dX12_about_91 ?_
      exact mx_iret hC hE rfl dX12_about_92 h
    replace h := mj_nn hc13 h
    by_cases hc17 : l2 = 3
    · replace h := mj_yy hc17 h
      refine mx_tsin (v := 3) (off := 82) (tgt := 93) hC dX12_about_11 hc17 (by decide) (by decide) (by decide) (by decide) ?_
      refine mx_aload_n (j := 0) hC dX12_about_93 rfl rfl ?_
      obtain ⟨ht18, h⟩ := h
      refine mx_get (v := vR (mj_r M3 l0 4)) hC tf_X12_19 ht18 rfl dX12_about_94 ?_
      refine mx_iload_n (j := 1) hC dX12_about_97 rfl rfl ?_
      obtain ⟨ht19, h⟩ := h
      obtain ⟨hi20, h⟩ := h
      refine mx_iaload hC ht19 hi20 dX12_about_98 ?_
      exact mx_iret hC hE rfl dX12_about_99 h
    replace h := mj_nn hc17 h
    by_cases hc21 : l2 = 4
    · replace h := mj_yy hc21 h
      refine mx_tsin (v := 4) (off := 89) (tgt := 100) hC dX12_about_11 hc21 (by decide) (by decide) (by decide) (by decide) ?_
      refine mx_aload_n (j := 0) hC dX12_about_100 rfl rfl ?_
      refine mx_iload_n (j := 1) hC dX12_about_101 rfl rfl ?_
      obtain ⟨ht22, h⟩ := h
      refine mx_callV (inj := mj_jI) (As := [vI l1]) (st := []) hC (ct_X12_until l0 l1 M3 _ h) ty_X12_until tw1415 ht22 rfl (Nat.le_of_ble_eq_true rfl) ⟨rfl, rfl, ⟨by decide, by decide⟩, by decide, by decide⟩ dX12_about_102 (fun r23 M24 h => ?_)
      show mj_X g 105 [(0, vR l0), (1, vI l1), (2, vI l2)] [vI r23] M24 0 0
      exact mx_iret hC hE rfl dX12_about_105 h
    replace h := mj_nn hc21 h
    by_cases hc25 : l2 = 5
    · replace h := mj_yy hc25 h
      refine mx_tsin (v := 5) (off := 95) (tgt := 106) hC dX12_about_11 hc25 (by decide) (by decide) (by decide) (by decide) ?_
      refine mx_aload_n (j := 0) hC dX12_about_106 rfl rfl ?_
      obtain ⟨ht26, h⟩ := h
      refine mx_get (v := vR (mj_r M3 l0 6)) hC tf_X12_25 ht26 rfl dX12_about_107 ?_
      refine mx_iload_n (j := 1) hC dX12_about_110 rfl rfl ?_
      obtain ⟨ht27, h⟩ := h
      obtain ⟨hi28, h⟩ := h
      refine mx_iaload hC ht27 hi28 dX12_about_111 ?_
      exact mx_iret hC hE rfl dX12_about_112 h
    replace h := mj_nn hc25 h
    by_cases hc29 : l2 = 6
    · replace h := mj_yy hc29 h
      refine mx_tsin (v := 6) (off := 102) (tgt := 113) hC dX12_about_11 hc29 (by decide) (by decide) (by decide) (by decide) ?_
      refine mx_aload_n (j := 0) hC dX12_about_113 rfl rfl ?_
      obtain ⟨ht30, h⟩ := h
      refine mx_get (v := vR (mj_r M3 l0 7)) hC tf_X12_28 ht30 rfl dX12_about_114 ?_
      refine mx_iload_n (j := 1) hC dX12_about_117 rfl rfl ?_
      obtain ⟨ht31, h⟩ := h
      obtain ⟨hi32, h⟩ := h
      refine mx_iaload hC ht31 hi32 dX12_about_118 ?_
      exact mx_iret hC hE rfl dX12_about_119 h
    replace h := mj_nn hc29 h
    by_cases hc33 : l2 = 7
    · replace h := mj_yy hc33 h
      refine mx_tsin (v := 7) (off := 109) (tgt := 120) hC dX12_about_11 hc33 (by decide) (by decide) (by decide) (by decide) ?_
      refine mx_aload_n (j := 0) hC dX12_about_120 rfl rfl ?_
      obtain ⟨ht34, h⟩ := h
      refine mx_get (v := vR (mj_r M3 l0 8)) hC tf_X12_31 ht34 rfl dX12_about_121 ?_
      refine mx_iload_n (j := 1) hC dX12_about_124 rfl rfl ?_
      obtain ⟨ht35, h⟩ := h
      obtain ⟨hi36, h⟩ := h
      refine mx_iaload hC ht35 hi36 dX12_about_125 ?_
      exact mx_iret hC hE rfl dX12_about_126 h
    replace h := mj_nn hc33 h
    by_cases hc37 : l2 = 8
    · replace h := mj_yy hc37 h
      refine mx_tsin (v := 8) (off := 116) (tgt := 127) hC dX12_about_11 hc37 (by decide) (by decide) (by decide) (by decide) ?_
      refine mx_aload_n (j := 0) hC dX12_about_127 rfl rfl ?_
      obtain ⟨ht38, h⟩ := h
      refine mx_get (v := vR (mj_r M3 l0 9)) hC tf_X12_34 ht38 rfl dX12_about_128 ?_
      refine mx_iload_n (j := 1) hC dX12_about_131 rfl rfl ?_
      obtain ⟨ht39, h⟩ := h
      obtain ⟨hi40, h⟩ := h
      refine mx_iaload hC ht39 hi40 dX12_about_132 ?_
      exact mx_iret hC hE rfl dX12_about_133 h
    replace h := mj_nn hc37 h
    by_cases hc41 : l2 = 9
    · replace h := mj_yy hc41 h
      refine mx_tsin (v := 9) (off := 123) (tgt := 134) hC dX12_about_11 hc41 (by decide) (by decide) (by decide) (by decide) ?_
      refine mx_aload_n (j := 0) hC dX12_about_134 rfl rfl ?_
      obtain ⟨ht42, h⟩ := h
      refine mx_get (v := vR (mj_r M3 l0 10)) hC tf_X12_37 ht42 rfl dX12_about_135 ?_
      refine mx_iload_n (j := 1) hC dX12_about_138 rfl rfl ?_
      obtain ⟨ht43, h⟩ := h
      obtain ⟨hi44, h⟩ := h
      refine mx_iaload hC ht43 hi44 dX12_about_139 ?_
      exact mx_iret hC hE rfl dX12_about_140 h
    replace h := mj_nn hc41 h
    by_cases hc45 : l2 = 10
    · replace h := mj_yy hc45 h
      refine mx_tsin (v := 10) (off := 130) (tgt := 141) hC dX12_about_11 hc45 (by decide) (by decide) (by decide) (by decide) ?_
      refine mx_aload_n (j := 0) hC dX12_about_141 rfl rfl ?_
      obtain ⟨ht46, h⟩ := h
      refine mx_get (v := vR (mj_r M3 l0 11)) hC tf_X12_40 ht46 rfl dX12_about_142 ?_
      refine mx_iload_n (j := 1) hC dX12_about_145 rfl rfl ?_
      obtain ⟨ht47, h⟩ := h
      obtain ⟨hi48, h⟩ := h
      refine mx_iaload hC ht47 hi48 dX12_about_146 ?_
      exact mx_iret hC hE rfl dX12_about_147 h
    replace h := mj_nn hc45 h
    by_cases hc49 : l2 = 11
    · replace h := mj_yy hc49 h
      refine mx_tsin (v := 11) (off := 137) (tgt := 148) hC dX12_about_11 hc49 (by decide) (by decide) (by decide) (by decide) ?_
      refine mx_aload_n (j := 0) hC dX12_about_148 rfl rfl ?_
      refine mx_iload_n (j := 1) hC dX12_about_149 rfl rfl ?_
      obtain ⟨ht50, h⟩ := h
      refine mx_callV (inj := mj_jI) (As := [vI l1]) (st := []) hC (ct_X12_manyOut l0 l1 M3 _ h) ty_X12_manyOut tw1472 ht50 rfl (Nat.le_of_ble_eq_true rfl) ⟨rfl, rfl, ⟨by decide, by decide⟩, by decide, by decide⟩ dX12_about_150 (fun r51 M52 h => ?_)
      show mj_X g 153 [(0, vR l0), (1, vI l1), (2, vI l2)] [vI r51] M52 0 0
      exact mx_iret hC hE rfl dX12_about_153 h
    replace h := mj_nn hc49 h
    refine mx_tsout (vs := [0, 1, 2, 3, 4, 5, 6, 7, 8, 9, 10, 11]) (tgt := 154) hC dX12_about_11 (by decide) (by decide) (List.forall_mem_cons.mpr ⟨hc5, (List.forall_mem_cons.mpr ⟨hc9, (List.forall_mem_cons.mpr ⟨hc13, (List.forall_mem_cons.mpr ⟨hc17, (List.forall_mem_cons.mpr ⟨hc21, (List.forall_mem_cons.mpr ⟨hc25, (List.forall_mem_cons.mpr ⟨hc29, (List.forall_mem_cons.mpr ⟨hc33, (List.forall_mem_cons.mpr ⟨hc37, (List.forall_mem_cons.mpr ⟨hc41, (List.forall_mem_cons.mpr ⟨hc45, (List.forall_mem_cons.mpr ⟨hc49, (fun _ q => absurd q List.not_mem_nil)⟩)⟩)⟩)⟩)⟩)⟩)⟩)⟩)⟩)⟩)⟩)⟩) ?_
    refine mx_bipush (v := (-2)) hC dX12_about_154 (by decide) ?_
    exact mx_iret hC hE rfl dX12_about_156 h
  · replace h := mj_nn hc4 h
    refine mx_iconst (v := (-1)) hC dX12_about_8 (by decide) ?_
    exact mx_iret hC hE rfl dX12_about_9 h
def rm_X12_nextOn : Room := { frames := 2, cells := 0, slots := 0, locals := 43 }
theorem dX12_nextOn_0 : decode cX12_nextOn 0 = .ok (.iconst 0, 1) := by decide +kernel
theorem dX12_nextOn_1 : decode cX12_nextOn 1 = .ok (.istore 4, 2) := by decide +kernel
theorem dX12_nextOn_3 : decode cX12_nextOn 3 = .ok (.iload 4, 2) := by decide +kernel
theorem dX12_nextOn_5 : decode cX12_nextOn 5 = .ok (.aload_n 0, 1) := by decide +kernel
theorem dX12_nextOn_6 : decode cX12_nextOn 6 = .ok (.getfield 130, 3) := by decide +kernel
theorem dX12_nextOn_9 : decode cX12_nextOn 9 = .ok (.if_icmp .ge 48, 3) := by decide +kernel
theorem dX12_nextOn_12 : decode cX12_nextOn 12 = .ok (.aload_n 0, 1) := by decide +kernel
theorem dX12_nextOn_13 : decode cX12_nextOn 13 = .ok (.getfield 7, 3) := by decide +kernel
theorem dX12_nextOn_16 : decode cX12_nextOn 16 = .ok (.iload 4, 2) := by decide +kernel
theorem dX12_nextOn_18 : decode cX12_nextOn 18 = .ok (.iaload, 1) := by decide +kernel
theorem dX12_nextOn_19 : decode cX12_nextOn 19 = .ok (.iload_n 1, 1) := by decide +kernel
theorem dX12_nextOn_20 : decode cX12_nextOn 20 = .ok (.if_icmp .ne 31, 3) := by decide +kernel
theorem dX12_nextOn_23 : decode cX12_nextOn 23 = .ok (.aload_n 0, 1) := by decide +kernel
theorem dX12_nextOn_24 : decode cX12_nextOn 24 = .ok (.getfield 13, 3) := by decide +kernel
theorem dX12_nextOn_27 : decode cX12_nextOn 27 = .ok (.iload 4, 2) := by decide +kernel
theorem dX12_nextOn_29 : decode cX12_nextOn 29 = .ok (.iaload, 1) := by decide +kernel
theorem dX12_nextOn_30 : decode cX12_nextOn 30 = .ok (.iload_n 2, 1) := by decide +kernel
theorem dX12_nextOn_31 : decode cX12_nextOn 31 = .ok (.ishr, 1) := by decide +kernel
theorem dX12_nextOn_32 : decode cX12_nextOn 32 = .ok (.iconst 1, 1) := by decide +kernel
theorem dX12_nextOn_33 : decode cX12_nextOn 33 = .ok (.iand, 1) := by decide +kernel
theorem dX12_nextOn_34 : decode cX12_nextOn 34 = .ok (.iconst 1, 1) := by decide +kernel
theorem dX12_nextOn_35 : decode cX12_nextOn 35 = .ok (.if_icmp .ne 16, 3) := by decide +kernel
theorem dX12_nextOn_38 : decode cX12_nextOn 38 = .ok (.aload_n 0, 1) := by decide +kernel
theorem dX12_nextOn_39 : decode cX12_nextOn 39 = .ok (.iload 4, 2) := by decide +kernel
theorem dX12_nextOn_41 : decode cX12_nextOn 41 = .ok (.iload_n 3, 1) := by decide +kernel
theorem dX12_nextOn_42 : decode cX12_nextOn 42 = .ok (.invokevirtual 187, 3) := by decide +kernel
theorem dX12_nextOn_45 : decode cX12_nextOn 45 = .ok (.ifCond .eq 6, 3) := by decide +kernel
theorem dX12_nextOn_48 : decode cX12_nextOn 48 = .ok (.iload 4, 2) := by decide +kernel
theorem dX12_nextOn_50 : decode cX12_nextOn 50 = .ok (.ireturn, 1) := by decide +kernel
theorem dX12_nextOn_51 : decode cX12_nextOn 51 = .ok (.iinc 4 1, 3) := by decide +kernel
theorem dX12_nextOn_54 : decode cX12_nextOn 54 = .ok (.goto (-51), 3) := by decide +kernel
theorem dX12_nextOn_57 : decode cX12_nextOn 57 = .ok (.iconst (-1), 1) := by decide +kernel
theorem dX12_nextOn_58 : decode cX12_nextOn 58 = .ok (.ireturn, 1) := by decide +kernel
def vb_X12_nextOn_3 (post : Int32 → mj_M → Prop) : Nat → Nat → Int32 → Int32 → Int32 → Int32 → mj_M → Prop
  | 0 => fun _ _ _ _ _ _ => False
  | f + 1 => fun l0 l1 l2 l3 l4 M => mj_tag M l0 = 13 ∧ if (mj_i M l0 13) ≤ l4 then (post ((-1)) M) else (mj_tag M (mj_r M l0 1) = 101 ∧ vp_in l4 (mj_len M (mj_r M l0 1)) ∧ if (mj_i M (mj_r M l0 1) (l4 : Int32).toNatClampNeg) = l1 then (mj_tag M (mj_r M l0 2) = 101 ∧ vp_in l4 (mj_len M (mj_r M l0 2)) ∧ if (((mj_i M (mj_r M l0 2) (l4 : Int32).toNatClampNeg) >>> (l2 &&& 31)) &&& 1) = 1 then (vc_X12_isOn l0 l4 l3 M (fun r9 M10 => if r9 = true then (post l4 M10) else (vb_X12_nextOn_3 post f l0 l1 l2 l3 (l4 + 1) M10))) else (vb_X12_nextOn_3 post f l0 l1 l2 l3 (l4 + 1) M)) else (vb_X12_nextOn_3 post f l0 l1 l2 l3 (l4 + 1) M))
def vc_X12_nextOn (l0 : Nat) (l1 : Int32) (l2 : Int32) (l3 : Int32) (M : mj_M) (post : Int32 → mj_M → Prop) : Prop := ∃ fe, vb_X12_nextOn_3 post fe l0 l1 l2 l3 0 M
set_option maxHeartbeats 4000000 in
set_option maxRecDepth 100000 in
theorem xb_X12_nextOn_3 {g : mj_G} {post : Int32 → mj_M → Prop} (hC : mj_C g yX12_nextOn cX12_nextOn 5 (some .int) rm_X12_nextOn) (hE : mj_E g mj_jI post 0 0) : ∀ (f : Nat) (l0 : Nat) (l1 : Int32) (l2 : Int32) (l3 : Int32) (l4 : Int32) (M : mj_M), vb_X12_nextOn_3 post f l0 l1 l2 l3 l4 M → mj_X g 3 [(0, vR l0), (1, vI l1), (2, vI l2), (3, vI l3), (4, vI l4)] [] M 0 0 := by
  intro f
  induction f with
  | zero => exact fun _ _ _ _ _ _ h => absurd h (fun z => z)
  | succ f ih =>
    intro l0 l1 l2 l3 l4 M h
    simp only [vb_X12_nextOn_3] at h
    refine mx_iload (j := 4) hC dX12_nextOn_3 rfl ?_
    refine mx_aload_n (j := 0) hC dX12_nextOn_5 rfl rfl ?_
    obtain ⟨ht1, h⟩ := h
    refine mx_get (v := vI (mj_i M l0 13)) hC tf_X12_130 ht1 rfl dX12_nextOn_6 ?_
    refine mx_icmpge (tgt := 57) hC dX12_nextOn_9 (by decide) (fun hc2 => ?_) (fun hc2 => ?_)
    · replace h := mj_yy hc2 h
      refine mx_iconst (v := (-1)) hC dX12_nextOn_57 (by decide) ?_
      exact mx_iret hC hE rfl dX12_nextOn_58 h
    · replace h := mj_nn hc2 h
      refine mx_aload_n (j := 0) hC dX12_nextOn_12 rfl rfl ?_
      refine mx_get (v := vR (mj_r M l0 1)) hC tf_X12_7 ht1 rfl dX12_nextOn_13 ?_
      refine mx_iload (j := 4) hC dX12_nextOn_16 rfl ?_
      obtain ⟨ht3, h⟩ := h
      obtain ⟨hi4, h⟩ := h
      refine mx_iaload hC ht3 hi4 dX12_nextOn_18 ?_
      refine mx_iload_n (j := 1) hC dX12_nextOn_19 rfl rfl ?_
      refine mx_icmpne (tgt := 51) hC dX12_nextOn_20 (by decide) (fun hc5 => ?_) (fun hc5 => ?_)
      · replace h := mj_nn hc5 h
        refine mx_iinc (j := 4) (v := l4 + 1) (L' := [(4, vI (l4 + 1)), (0, vR l0), (1, vI l1), (2, vI l2), (3, vI l3)]) hC dX12_nextOn_51 rfl rfl (by decide) rfl ?_
        refine mx_goto (tgt := 3) hC dX12_nextOn_54 (by decide) ?_
        refine mx_sub (L' := [(0, vR l0), (1, vI l1), (2, vI l2), (3, vI l3), (4, vI (l4 + 1))]) [1, 2, 3, 4, 0] rfl ?_
        exact show mj_X g 3 [(0, vR l0), (1, vI l1), (2, vI l2), (3, vI l3), (4, vI (l4 + 1))] [] M 0 0 from (ih l0 l1 l2 l3 (l4 + 1) M h)
      · replace h := mj_yy hc5 h
        refine mx_aload_n (j := 0) hC dX12_nextOn_23 rfl rfl ?_
        refine mx_get (v := vR (mj_r M l0 2)) hC tf_X12_13 ht1 rfl dX12_nextOn_24 ?_
        refine mx_iload (j := 4) hC dX12_nextOn_27 rfl ?_
        obtain ⟨ht6, h⟩ := h
        obtain ⟨hi7, h⟩ := h
        refine mx_iaload hC ht6 hi7 dX12_nextOn_29 ?_
        refine mx_iload_n (j := 2) hC dX12_nextOn_30 rfl rfl ?_
        refine mx_ishr hC dX12_nextOn_31 ?_
        refine mx_iconst (v := 1) hC dX12_nextOn_32 (by decide) ?_
        refine mx_iand hC dX12_nextOn_33 ?_
        refine mx_iconst (v := 1) hC dX12_nextOn_34 (by decide) ?_
        refine mx_icmpne (tgt := 51) hC dX12_nextOn_35 (by decide) (fun hc8 => ?_) (fun hc8 => ?_)
        · replace h := mj_nn hc8 h
          refine mx_iinc (j := 4) (v := l4 + 1) (L' := [(4, vI (l4 + 1)), (0, vR l0), (1, vI l1), (2, vI l2), (3, vI l3)]) hC dX12_nextOn_51 rfl rfl (by decide) rfl ?_
          refine mx_goto (tgt := 3) hC dX12_nextOn_54 (by decide) ?_
          refine mx_sub (L' := [(0, vR l0), (1, vI l1), (2, vI l2), (3, vI l3), (4, vI (l4 + 1))]) [1, 2, 3, 4, 0] rfl ?_
          exact show mj_X g 3 [(0, vR l0), (1, vI l1), (2, vI l2), (3, vI l3), (4, vI (l4 + 1))] [] M 0 0 from (ih l0 l1 l2 l3 (l4 + 1) M h)
        · replace h := mj_yy hc8 h
          refine mx_aload_n (j := 0) hC dX12_nextOn_38 rfl rfl ?_
          refine mx_iload (j := 4) hC dX12_nextOn_39 rfl ?_
          refine mx_iload_n (j := 3) hC dX12_nextOn_41 rfl rfl ?_
          refine mx_callV (inj := mj_jB) (As := [vI l4, vI l3]) (st := []) hC (ct_X12_isOn l0 l4 l3 M _ h) ty_X12_isOn tw1440 ht1 rfl (Nat.le_of_ble_eq_true rfl) ⟨rfl, rfl, ⟨by decide, by decide⟩, by decide, by decide⟩ dX12_nextOn_42 (fun r9 M10 h => ?_)
          show mj_X g 45 [(0, vR l0), (1, vI l1), (2, vI l2), (3, vI l3), (4, vI l4)] [vI (mj_b r9)] M10 0 0
          refine mx_ifeqB (tgt := 51) hC dX12_nextOn_45 (by decide) (fun hc11 => ?_) (fun hc11 => ?_)
          · replace h := mj_nn hc11 h
            refine mx_iinc (j := 4) (v := l4 + 1) (L' := [(4, vI (l4 + 1)), (0, vR l0), (1, vI l1), (2, vI l2), (3, vI l3)]) hC dX12_nextOn_51 rfl rfl (by decide) rfl ?_
            refine mx_goto (tgt := 3) hC dX12_nextOn_54 (by decide) ?_
            refine mx_sub (L' := [(0, vR l0), (1, vI l1), (2, vI l2), (3, vI l3), (4, vI (l4 + 1))]) [1, 2, 3, 4, 0] rfl ?_
            exact show mj_X g 3 [(0, vR l0), (1, vI l1), (2, vI l2), (3, vI l3), (4, vI (l4 + 1))] [] M10 0 0 from (ih l0 l1 l2 l3 (l4 + 1) M10 h)
          · replace h := mj_yy hc11 h
            refine mx_iload (j := 4) hC dX12_nextOn_48 rfl ?_
            exact mx_iret hC hE rfl dX12_nextOn_50 h
set_option maxHeartbeats 4000000 in
set_option maxRecDepth 100000 in
theorem ct_X12_nextOn {l : Launch} {base : Nat} {D : va_G} {A : ClassId × ClassId × ClassId} (l0 : Nat) (l1 : Int32) (l2 : Int32) (l3 : Int32) (M : mj_M) (post : Int32 → mj_M → Prop) (h : vc_X12_nextOn l0 l1 l2 l3 M post) : mj_Met l base D A mj_jI yX12_nextOn cX12_nextOn 5 (some .int) rm_X12_nextOn 0 0 [vR l0, vI l1, vI l2, vI l3] M post := by
  refine mj_entry (by decide +kernel) (Nat.le_of_ble_eq_true rfl) (fun g hC hE h1 h2 h3 h4 => ?_)
  show mj_X g 0 [(0, vR l0), (1, vI l1), (2, vI l2), (3, vI l3)] [] M 0 0
  simp only [vc_X12_nextOn] at h
  refine mx_iconst (v := 0) hC dX12_nextOn_0 (by decide) ?_
  refine mx_istore (L' := [(4, vI 0), (0, vR l0), (1, vI l1), (2, vI l2), (3, vI l3)]) hC dX12_nextOn_1 (by decide) rfl ?_
  refine mx_sub (L' := [(0, vR l0), (1, vI l1), (2, vI l2), (3, vI l3), (4, vI 0)]) [1, 2, 3, 4, 0] rfl ?_
  obtain ⟨fe, h⟩ := h
  exact show mj_X g 3 [(0, vR l0), (1, vI l1), (2, vI l2), (3, vI l3), (4, vI 0)] [] M 0 0 from (xb_X12_nextOn_3 hC hE fe l0 l1 l2 l3 0 M h)
theorem tw1483 : (Jvm.Cond.constantLong "LeaseLandModel" (207 : Nat) (11 : Int64)) ∈ mj_tbl := mj_w 1536 (by decide +kernel) (by decide +kernel)
def rm_X12_isFloor : Room := { frames := 1, cells := 0, slots := 0, locals := 25 }
theorem dX12_isFloor_0 : decode cX12_isFloor 0 = .ok (.iload_n 0, 1) := by decide +kernel
theorem dX12_isFloor_1 : decode cX12_isFloor 1 = .ok (.i2l, 1) := by decide +kernel
theorem dX12_isFloor_2 : decode cX12_isFloor 2 = .ok (.lconst 0, 1) := by decide +kernel
theorem dX12_isFloor_3 : decode cX12_isFloor 3 = .ok (.ldc2_w 207, 3) := by decide +kernel
theorem dX12_isFloor_6 : decode cX12_isFloor 6 = .ok (.invokestatic 133, 3) := by decide +kernel
theorem dX12_isFloor_9 : decode cX12_isFloor 9 = .ok (.ireturn, 1) := by decide +kernel
def vc_X12_isFloor (l0 : Int32) (M : mj_M) (post : Bool → mj_M → Prop) : Prop := vc_X12_in ((l0 : Int32).toInt64) 0 11 M (fun r1 M2 => post r1 M2)
set_option maxHeartbeats 4000000 in
set_option maxRecDepth 100000 in
theorem ct_X12_isFloor {l : Launch} {base : Nat} {D : va_G} {A : ClassId × ClassId × ClassId} (l0 : Int32) (M : mj_M) (post : Bool → mj_M → Prop) (h : vc_X12_isFloor l0 M post) : mj_Met l base D A mj_jB yX12_isFloor cX12_isFloor 1 (some .boolean) rm_X12_isFloor 0 0 [vI l0] M post := by
  refine mj_entry (by decide +kernel) (Nat.le_of_ble_eq_true rfl) (fun g hC hE h1 h2 h3 h4 => ?_)
  show mj_X g 0 [(0, vI l0)] [] M 0 0
  simp only [vc_X12_isFloor] at h
  refine mx_iload_n (j := 0) hC dX12_isFloor_0 rfl rfl ?_
  refine mx_i2l hC dX12_isFloor_1 ?_
  refine mx_lconst (v := 0) hC dX12_isFloor_2 (by decide) ?_
  refine mx_ldc2 (v := 11) hC dX12_isFloor_3 tw1483 ?_
  refine mx_callS (inj := mj_jB) (As := [vL ((l0 : Int32).toInt64), vL 0, vL 11]) (st := []) hC (ct_X12_in ((l0 : Int32).toInt64) 0 11 M _ h) ty_X12_in tw1379 rfl (Nat.le_of_ble_eq_true rfl) ⟨rfl, rfl, ⟨by decide, by decide⟩, by decide, by decide⟩ dX12_isFloor_6 (fun r1 M2 h => ?_)
  show mj_X g 9 [(0, vI l0)] [vI (mj_b r1)] M2 0 0
  exact mx_zret (b := r1) hC hE rfl dX12_isFloor_9 h

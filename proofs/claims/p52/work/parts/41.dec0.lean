theorem dL_law_0 : decode code 0 = .ok (.new 9, 3) := by decide +kernel
theorem dL_law_3 : decode code 3 = .ok (.dup, 1) := by decide +kernel
theorem dL_law_4 : decode code 4 = .ok (.invokespecial 57, 3) := by decide +kernel
theorem dL_law_7 : decode code 7 = .ok (.astore_n 1, 1) := by decide +kernel
theorem dL_law_8 : decode code 8 = .ok (.sipush 3000, 3) := by decide +kernel
theorem dL_law_11 : decode code 11 = .ok (.aload_n 0, 1) := by decide +kernel
theorem dL_law_12 : decode code 12 = .ok (.iconst 0, 1) := by decide +kernel
theorem dL_law_13 : decode code 13 = .ok (.sipush 30000, 3) := by decide +kernel
theorem dL_law_16 : decode code 16 = .ok (.invokestatic 14, 3) := by decide +kernel
theorem dL_law_19 : decode code 19 = .ok (.iadd, 1) := by decide +kernel
theorem dL_law_20 : decode code 20 = .ok (.istore_n 2, 1) := by decide +kernel
theorem dL_law_21 : decode code 21 = .ok (.sipush 2000, 3) := by decide +kernel
theorem dL_law_24 : decode code 24 = .ok (.aload_n 0, 1) := by decide +kernel
theorem dL_law_25 : decode code 25 = .ok (.iconst 1, 1) := by decide +kernel
theorem dL_law_26 : decode code 26 = .ok (.iload_n 2, 1) := by decide +kernel
theorem dL_law_27 : decode code 27 = .ok (.sipush 1999, 3) := by decide +kernel
theorem dL_law_30 : decode code 30 = .ok (.isub, 1) := by decide +kernel
theorem dL_law_31 : decode code 31 = .ok (.invokestatic 14, 3) := by decide +kernel
theorem dL_law_34 : decode code 34 = .ok (.iadd, 1) := by decide +kernel
theorem dL_law_35 : decode code 35 = .ok (.istore_n 3, 1) := by decide +kernel
theorem dL_law_36 : decode code 36 = .ok (.sipush 1500, 3) := by decide +kernel
theorem dL_law_39 : decode code 39 = .ok (.aload_n 0, 1) := by decide +kernel
theorem dL_law_40 : decode code 40 = .ok (.iconst 2, 1) := by decide +kernel
theorem dL_law_41 : decode code 41 = .ok (.iload_n 3, 1) := by decide +kernel
theorem dL_law_42 : decode code 42 = .ok (.sipush 1499, 3) := by decide +kernel
theorem dL_law_45 : decode code 45 = .ok (.isub, 1) := by decide +kernel
theorem dL_law_46 : decode code 46 = .ok (.invokestatic 14, 3) := by decide +kernel
theorem dL_law_49 : decode code 49 = .ok (.iadd, 1) := by decide +kernel
theorem dL_law_50 : decode code 50 = .ok (.istore 4, 2) := by decide +kernel
theorem dL_law_52 : decode code 52 = .ok (.aload_n 1, 1) := by decide +kernel
theorem dL_law_53 : decode code 53 = .ok (.bipush 7, 2) := by decide +kernel
theorem dL_law_55 : decode code 55 = .ok (.iconst 0, 1) := by decide +kernel
theorem dL_law_56 : decode code 56 = .ok (.invokevirtual 28, 3) := by decide +kernel
theorem dL_law_59 : decode code 59 = .ok (.ifCond .ne 45, 3) := by decide +kernel
theorem dL_law_62 : decode code 62 = .ok (.aload_n 1, 1) := by decide +kernel
theorem dL_law_63 : decode code 63 = .ok (.iconst 0, 1) := by decide +kernel
theorem dL_law_64 : decode code 64 = .ok (.bipush 7, 2) := by decide +kernel
theorem dL_law_66 : decode code 66 = .ok (.iconst 0, 1) := by decide +kernel
theorem dL_law_67 : decode code 67 = .ok (.iload_n 2, 1) := by decide +kernel
theorem dL_law_68 : decode code 68 = .ok (.iconst 1, 1) := by decide +kernel
theorem dL_law_69 : decode code 69 = .ok (.invokevirtual 24, 3) := by decide +kernel
theorem dL_law_72 : decode code 72 = .ok (.iconst 1, 1) := by decide +kernel
theorem dL_law_73 : decode code 73 = .ok (.if_icmp .ne 31, 3) := by decide +kernel
theorem dL_law_76 : decode code 76 = .ok (.aload_n 1, 1) := by decide +kernel
theorem dL_law_77 : decode code 77 = .ok (.iconst 1, 1) := by decide +kernel
theorem dL_law_78 : decode code 78 = .ok (.bipush 7, 2) := by decide +kernel
theorem dL_law_80 : decode code 80 = .ok (.iconst 0, 1) := by decide +kernel
theorem dL_law_81 : decode code 81 = .ok (.iload_n 3, 1) := by decide +kernel
theorem dL_law_82 : decode code 82 = .ok (.iconst 2, 1) := by decide +kernel
theorem dL_law_83 : decode code 83 = .ok (.invokevirtual 24, 3) := by decide +kernel
theorem dL_law_86 : decode code 86 = .ok (.iconst 2, 1) := by decide +kernel
theorem dL_law_87 : decode code 87 = .ok (.if_icmp .ne 17, 3) := by decide +kernel
theorem dL_law_90 : decode code 90 = .ok (.aload_n 1, 1) := by decide +kernel
theorem dL_law_91 : decode code 91 = .ok (.iconst 2, 1) := by decide +kernel
theorem dL_law_92 : decode code 92 = .ok (.iconst 5, 1) := by decide +kernel
theorem dL_law_93 : decode code 93 = .ok (.iconst 5, 1) := by decide +kernel
theorem dL_law_94 : decode code 94 = .ok (.iload 4, 2) := by decide +kernel
theorem dL_law_96 : decode code 96 = .ok (.iconst 3, 1) := by decide +kernel
theorem dL_law_97 : decode code 97 = .ok (.invokevirtual 24, 3) := by decide +kernel
theorem dL_law_100 : decode code 100 = .ok (.iconst 3, 1) := by decide +kernel
theorem dL_law_101 : decode code 101 = .ok (.if_icmp .eq 5, 3) := by decide +kernel
theorem dL_law_104 : decode code 104 = .ok (.iconst 0, 1) := by decide +kernel
theorem dL_law_105 : decode code 105 = .ok (.ireturn, 1) := by decide +kernel
theorem dL_law_106 : decode code 106 = .ok (.iconst 0, 1) := by decide +kernel
theorem dL_law_107 : decode code 107 = .ok (.istore 5, 2) := by decide +kernel
theorem dL_law_109 : decode code 109 = .ok (.iload 5, 2) := by decide +kernel
theorem dL_law_111 : decode code 111 = .ok (.iconst 4, 1) := by decide +kernel
theorem dL_law_112 : decode code 112 = .ok (.if_icmp .ge 56, 3) := by decide +kernel
theorem dL_law_115 : decode code 115 = .ok (.aload_n 1, 1) := by decide +kernel
theorem dL_law_116 : decode code 116 = .ok (.bipush 102, 2) := by decide +kernel
theorem dL_law_118 : decode code 118 = .ok (.invokevirtual 58, 3) := by decide +kernel
theorem dL_law_121 : decode code 121 = .ok (.iconst 1, 1) := by decide +kernel
theorem dL_law_122 : decode code 122 = .ok (.if_icmp .ne 38, 3) := by decide +kernel
theorem dL_law_125 : decode code 125 = .ok (.aload_n 1, 1) := by decide +kernel
theorem dL_law_126 : decode code 126 = .ok (.bipush 62, 2) := by decide +kernel
theorem dL_law_128 : decode code 128 = .ok (.invokevirtual 58, 3) := by decide +kernel
theorem dL_law_131 : decode code 131 = .ok (.iconst 2, 1) := by decide +kernel
theorem dL_law_132 : decode code 132 = .ok (.if_icmp .ne 28, 3) := by decide +kernel
theorem dL_law_135 : decode code 135 = .ok (.aload_n 1, 1) := by decide +kernel
theorem dL_law_136 : decode code 136 = .ok (.bipush 48, 2) := by decide +kernel
theorem dL_law_138 : decode code 138 = .ok (.invokevirtual 58, 3) := by decide +kernel
theorem dL_law_141 : decode code 141 = .ok (.iconst 3, 1) := by decide +kernel
theorem dL_law_142 : decode code 142 = .ok (.if_icmp .ne 18, 3) := by decide +kernel
theorem dL_law_145 : decode code 145 = .ok (.aload_n 1, 1) := by decide +kernel
theorem dL_law_146 : decode code 146 = .ok (.iload 5, 2) := by decide +kernel
theorem dL_law_148 : decode code 148 = .ok (.bipush 10, 2) := by decide +kernel
theorem dL_law_150 : decode code 150 = .ok (.invokevirtual 61, 3) := by decide +kernel
theorem dL_law_153 : decode code 153 = .ok (.iload 5, 2) := by decide +kernel
theorem dL_law_155 : decode code 155 = .ok (.iconst 1, 1) := by decide +kernel
theorem dL_law_156 : decode code 156 = .ok (.iadd, 1) := by decide +kernel
theorem dL_law_157 : decode code 157 = .ok (.if_icmp .eq 5, 3) := by decide +kernel
theorem dL_law_160 : decode code 160 = .ok (.iconst 0, 1) := by decide +kernel
theorem dL_law_161 : decode code 161 = .ok (.ireturn, 1) := by decide +kernel
theorem dL_law_162 : decode code 162 = .ok (.iinc 5 1, 3) := by decide +kernel
theorem dL_law_165 : decode code 165 = .ok (.goto (-56), 3) := by decide +kernel
theorem dL_law_168 : decode code 168 = .ok (.bipush 10, 2) := by decide +kernel
theorem dL_law_170 : decode code 170 = .ok (.aload_n 0, 1) := by decide +kernel
theorem dL_law_171 : decode code 171 = .ok (.iconst 3, 1) := by decide +kernel
theorem dL_law_172 : decode code 172 = .ok (.sipush 800, 3) := by decide +kernel
theorem dL_law_175 : decode code 175 = .ok (.invokestatic 14, 3) := by decide +kernel
theorem dL_law_178 : decode code 178 = .ok (.iadd, 1) := by decide +kernel
theorem dL_law_179 : decode code 179 = .ok (.istore 5, 2) := by decide +kernel
theorem dL_law_181 : decode code 181 = .ok (.aload_n 1, 1) := by decide +kernel
theorem dL_law_182 : decode code 182 = .ok (.iload 5, 2) := by decide +kernel
theorem dL_law_184 : decode code 184 = .ok (.invokevirtual 54, 3) := by decide +kernel
theorem dL_law_187 : decode code 187 = .ok (.ifCond .ne 27, 3) := by decide +kernel
theorem dL_law_190 : decode code 190 = .ok (.aload_n 1, 1) := by decide +kernel
theorem dL_law_191 : decode code 191 = .ok (.iconst 2, 1) := by decide +kernel
theorem dL_law_192 : decode code 192 = .ok (.sipush 500, 3) := by decide +kernel
theorem dL_law_195 : decode code 195 = .ok (.iconst 0, 1) := by decide +kernel

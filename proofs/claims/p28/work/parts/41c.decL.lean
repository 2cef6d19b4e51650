theorem dL_isAll_9 : decode cL_isAll 9 = .ok (.iconst 0, 1) := by decide +kernel
theorem dL_isAll_10 : decode cL_isAll 10 = .ok (.istore 5, 2) := by decide +kernel
theorem dL_isAll_12 : decode cL_isAll 12 = .ok (.iload 5, 2) := by decide +kernel
theorem dL_isAll_14 : decode cL_isAll 14 = .ok (.aload_n 0, 1) := by decide +kernel
theorem dL_isAll_15 : decode cL_isAll 15 = .ok (.iconst 1, 1) := by decide +kernel
theorem dL_isAll_16 : decode cL_isAll 16 = .ok (.invokevirtual 23, 3) := by decide +kernel
theorem dL_isAll_19 : decode cL_isAll 19 = .ok (.if_icmp .ge 71, 3) := by decide +kernel
theorem dL_isAll_22 : decode cL_isAll 22 = .ok (.iload 4, 2) := by decide +kernel
theorem dL_isAll_24 : decode cL_isAll 24 = .ok (.ifCond .eq 66, 3) := by decide +kernel
theorem dL_isAll_27 : decode cL_isAll 27 = .ok (.aload_n 0, 1) := by decide +kernel
theorem dL_isAll_28 : decode cL_isAll 28 = .ok (.iload 5, 2) := by decide +kernel
theorem dL_isAll_30 : decode cL_isAll 30 = .ok (.invokestatic 32, 3) := by decide +kernel
theorem dL_isAll_33 : decode cL_isAll 33 = .ok (.istore 4, 2) := by decide +kernel
theorem dL_isAll_35 : decode cL_isAll 35 = .ok (.iload_n 1, 1) := by decide +kernel
theorem dL_isAll_36 : decode cL_isAll 36 = .ok (.aload_n 0, 1) := by decide +kernel
theorem dL_isAll_37 : decode cL_isAll 37 = .ok (.iload 5, 2) := by decide +kernel
theorem dL_isAll_39 : decode cL_isAll 39 = .ok (.iconst 3, 1) := by decide +kernel
theorem dL_isAll_40 : decode cL_isAll 40 = .ok (.invokevirtual 9, 3) := by decide +kernel
theorem dL_isAll_43 : decode cL_isAll 43 = .ok (.iadd, 1) := by decide +kernel
theorem dL_isAll_44 : decode cL_isAll 44 = .ok (.istore_n 1, 1) := by decide +kernel
theorem dL_isAll_45 : decode cL_isAll 45 = .ok (.iload_n 2, 1) := by decide +kernel
theorem dL_isAll_46 : decode cL_isAll 46 = .ok (.aload_n 0, 1) := by decide +kernel
theorem dL_isAll_47 : decode cL_isAll 47 = .ok (.iload 5, 2) := by decide +kernel
theorem dL_isAll_49 : decode cL_isAll 49 = .ok (.iconst 2, 1) := by decide +kernel
theorem dL_isAll_50 : decode cL_isAll 50 = .ok (.invokevirtual 9, 3) := by decide +kernel
theorem dL_isAll_53 : decode cL_isAll 53 = .ok (.iconst 3, 1) := by decide +kernel
theorem dL_isAll_54 : decode cL_isAll 54 = .ok (.if_icmp .ne 7, 3) := by decide +kernel
theorem dL_isAll_57 : decode cL_isAll 57 = .ok (.iconst 0, 1) := by decide +kernel
theorem dL_isAll_58 : decode cL_isAll 58 = .ok (.goto 10, 3) := by decide +kernel
theorem dL_isAll_61 : decode cL_isAll 61 = .ok (.aload_n 0, 1) := by decide +kernel
theorem dL_isAll_62 : decode cL_isAll 62 = .ok (.iload 5, 2) := by decide +kernel
theorem dL_isAll_64 : decode cL_isAll 64 = .ok (.iconst 5, 1) := by decide +kernel
theorem dL_isAll_65 : decode cL_isAll 65 = .ok (.invokevirtual 9, 3) := by decide +kernel
theorem dL_isAll_68 : decode cL_isAll 68 = .ok (.iadd, 1) := by decide +kernel
theorem dL_isAll_69 : decode cL_isAll 69 = .ok (.istore_n 2, 1) := by decide +kernel
theorem dL_isAll_70 : decode cL_isAll 70 = .ok (.iload_n 3, 1) := by decide +kernel
theorem dL_isAll_71 : decode cL_isAll 71 = .ok (.iconst 1, 1) := by decide +kernel
theorem dL_isAll_72 : decode cL_isAll 72 = .ok (.iconst 5, 1) := by decide +kernel
theorem dL_isAll_73 : decode cL_isAll 73 = .ok (.aload_n 0, 1) := by decide +kernel
theorem dL_isAll_74 : decode cL_isAll 74 = .ok (.iload 5, 2) := by decide +kernel
theorem dL_isAll_76 : decode cL_isAll 76 = .ok (.iconst 2, 1) := by decide +kernel
theorem dL_isAll_77 : decode cL_isAll 77 = .ok (.invokevirtual 9, 3) := by decide +kernel
theorem dL_isAll_80 : decode cL_isAll 80 = .ok (.imul, 1) := by decide +kernel
theorem dL_isAll_81 : decode cL_isAll 81 = .ok (.ishl, 1) := by decide +kernel
theorem dL_isAll_82 : decode cL_isAll 82 = .ok (.iadd, 1) := by decide +kernel
theorem dL_isAll_83 : decode cL_isAll 83 = .ok (.istore_n 3, 1) := by decide +kernel
theorem dL_isAll_84 : decode cL_isAll 84 = .ok (.iinc 5 1, 3) := by decide +kernel
theorem dL_isAll_87 : decode cL_isAll 87 = .ok (.goto (-75), 3) := by decide +kernel
theorem dL_isAll_90 : decode cL_isAll 90 = .ok (.iload 4, 2) := by decide +kernel
theorem dL_isAll_92 : decode cL_isAll 92 = .ok (.ifCond .eq 72, 3) := by decide +kernel
theorem dL_isAll_95 : decode cL_isAll 95 = .ok (.iload_n 1, 1) := by decide +kernel
theorem dL_isAll_96 : decode cL_isAll 96 = .ok (.aload_n 0, 1) := by decide +kernel
theorem dL_isAll_97 : decode cL_isAll 97 = .ok (.bipush 7, 2) := by decide +kernel
theorem dL_isAll_99 : decode cL_isAll 99 = .ok (.invokevirtual 23, 3) := by decide +kernel
theorem dL_isAll_102 : decode cL_isAll 102 = .ok (.if_icmp .ne 62, 3) := by decide +kernel
theorem dL_isAll_105 : decode cL_isAll 105 = .ok (.iload_n 2, 1) := by decide +kernel
theorem dL_isAll_106 : decode cL_isAll 106 = .ok (.aload_n 0, 1) := by decide +kernel
theorem dL_isAll_107 : decode cL_isAll 107 = .ok (.bipush 8, 2) := by decide +kernel
theorem dL_isAll_109 : decode cL_isAll 109 = .ok (.invokevirtual 23, 3) := by decide +kernel
theorem dL_isAll_112 : decode cL_isAll 112 = .ok (.if_icmp .ne 52, 3) := by decide +kernel
theorem dL_isAll_115 : decode cL_isAll 115 = .ok (.iload_n 2, 1) := by decide +kernel
theorem dL_isAll_116 : decode cL_isAll 116 = .ok (.aload_n 0, 1) := by decide +kernel
theorem dL_isAll_117 : decode cL_isAll 117 = .ok (.iconst 0, 1) := by decide +kernel
theorem dL_isAll_118 : decode cL_isAll 118 = .ok (.invokevirtual 38, 3) := by decide +kernel
theorem dL_isAll_121 : decode cL_isAll 121 = .ok (.if_icmp .ne 43, 3) := by decide +kernel
theorem dL_isAll_124 : decode cL_isAll 124 = .ok (.iload_n 3, 1) := by decide +kernel
theorem dL_isAll_125 : decode cL_isAll 125 = .ok (.aload_n 0, 1) := by decide +kernel
theorem dL_isAll_126 : decode cL_isAll 126 = .ok (.iconst 3, 1) := by decide +kernel
theorem dL_isAll_127 : decode cL_isAll 127 = .ok (.invokevirtual 23, 3) := by decide +kernel
theorem dL_isAll_130 : decode cL_isAll 130 = .ok (.aload_n 0, 1) := by decide +kernel
theorem dL_isAll_131 : decode cL_isAll 131 = .ok (.iconst 4, 1) := by decide +kernel
theorem dL_isAll_132 : decode cL_isAll 132 = .ok (.invokevirtual 23, 3) := by decide +kernel
theorem dL_isAll_135 : decode cL_isAll 135 = .ok (.iconst 5, 1) := by decide +kernel
theorem dL_isAll_136 : decode cL_isAll 136 = .ok (.ishl, 1) := by decide +kernel
theorem dL_isAll_137 : decode cL_isAll 137 = .ok (.iadd, 1) := by decide +kernel
theorem dL_isAll_138 : decode cL_isAll 138 = .ok (.aload_n 0, 1) := by decide +kernel
theorem dL_isAll_139 : decode cL_isAll 139 = .ok (.iconst 5, 1) := by decide +kernel
theorem dL_isAll_140 : decode cL_isAll 140 = .ok (.invokevirtual 23, 3) := by decide +kernel
theorem dL_isAll_143 : decode cL_isAll 143 = .ok (.bipush 10, 2) := by decide +kernel
theorem dL_isAll_145 : decode cL_isAll 145 = .ok (.ishl, 1) := by decide +kernel
theorem dL_isAll_146 : decode cL_isAll 146 = .ok (.iadd, 1) := by decide +kernel
theorem dL_isAll_147 : decode cL_isAll 147 = .ok (.aload_n 0, 1) := by decide +kernel
theorem dL_isAll_148 : decode cL_isAll 148 = .ok (.bipush 6, 2) := by decide +kernel
theorem dL_isAll_150 : decode cL_isAll 150 = .ok (.invokevirtual 23, 3) := by decide +kernel
theorem dL_isAll_153 : decode cL_isAll 153 = .ok (.bipush 15, 2) := by decide +kernel
theorem dL_isAll_155 : decode cL_isAll 155 = .ok (.ishl, 1) := by decide +kernel
theorem dL_isAll_156 : decode cL_isAll 156 = .ok (.iadd, 1) := by decide +kernel
theorem dL_isAll_157 : decode cL_isAll 157 = .ok (.if_icmp .ne 7, 3) := by decide +kernel
theorem dL_isAll_160 : decode cL_isAll 160 = .ok (.iconst 1, 1) := by decide +kernel
theorem dL_isAll_161 : decode cL_isAll 161 = .ok (.goto 4, 3) := by decide +kernel
theorem dL_isAll_164 : decode cL_isAll 164 = .ok (.iconst 0, 1) := by decide +kernel
theorem dL_isAll_165 : decode cL_isAll 165 = .ok (.istore 4, 2) := by decide +kernel
theorem dL_isAll_167 : decode cL_isAll 167 = .ok (.iconst 0, 1) := by decide +kernel
theorem dL_isAll_168 : decode cL_isAll 168 = .ok (.istore 5, 2) := by decide +kernel
theorem dL_isAll_170 : decode cL_isAll 170 = .ok (.iconst 0, 1) := by decide +kernel
theorem dL_isAll_171 : decode cL_isAll 171 = .ok (.istore 6, 2) := by decide +kernel
theorem dL_isAll_173 : decode cL_isAll 173 = .ok (.iload 6, 2) := by decide +kernel
theorem dL_isAll_175 : decode cL_isAll 175 = .ok (.bipush 6, 2) := by decide +kernel
theorem dL_isAll_177 : decode cL_isAll 177 = .ok (.if_icmp .ge 21, 3) := by decide +kernel
theorem dL_isAll_180 : decode cL_isAll 180 = .ok (.iload 5, 2) := by decide +kernel
theorem dL_isAll_182 : decode cL_isAll 182 = .ok (.aload_n 0, 1) := by decide +kernel
theorem dL_isAll_183 : decode cL_isAll 183 = .ok (.iload 6, 2) := by decide +kernel
theorem dL_isAll_185 : decode cL_isAll 185 = .ok (.iconst 1, 1) := by decide +kernel
theorem dL_isAll_186 : decode cL_isAll 186 = .ok (.invokevirtual 19, 3) := by decide +kernel
theorem dL_isAll_189 : decode cL_isAll 189 = .ok (.iadd, 1) := by decide +kernel
theorem dL_isAll_190 : decode cL_isAll 190 = .ok (.istore 5, 2) := by decide +kernel
theorem dL_isAll_192 : decode cL_isAll 192 = .ok (.iinc 6 1, 3) := by decide +kernel
theorem dL_isAll_195 : decode cL_isAll 195 = .ok (.goto (-22), 3) := by decide +kernel
theorem dL_isAll_198 : decode cL_isAll 198 = .ok (.iconst 1, 1) := by decide +kernel
theorem dL_isAll_199 : decode cL_isAll 199 = .ok (.istore 6, 2) := by decide +kernel
theorem dL_isAll_201 : decode cL_isAll 201 = .ok (.iload 6, 2) := by decide +kernel
theorem dL_isAll_203 : decode cL_isAll 203 = .ok (.aload_n 0, 1) := by decide +kernel
theorem dL_isAll_204 : decode cL_isAll 204 = .ok (.iconst 3, 1) := by decide +kernel
theorem dL_isAll_205 : decode cL_isAll 205 = .ok (.invokevirtual 23, 3) := by decide +kernel
theorem dL_isAll_208 : decode cL_isAll 208 = .ok (.if_icmp .ge 84, 3) := by decide +kernel
theorem dL_isAll_211 : decode cL_isAll 211 = .ok (.iload 4, 2) := by decide +kernel
theorem dL_isAll_213 : decode cL_isAll 213 = .ok (.ifCond .eq 79, 3) := by decide +kernel
theorem dL_isAll_216 : decode cL_isAll 216 = .ok (.aload_n 0, 1) := by decide +kernel
theorem dL_isAll_217 : decode cL_isAll 217 = .ok (.iload 6, 2) := by decide +kernel
theorem dL_isAll_219 : decode cL_isAll 219 = .ok (.iconst 1, 1) := by decide +kernel
theorem dL_isAll_220 : decode cL_isAll 220 = .ok (.isub, 1) := by decide +kernel
theorem dL_isAll_221 : decode cL_isAll 221 = .ok (.invokevirtual 41, 3) := by decide +kernel
theorem dL_isAll_224 : decode cL_isAll 224 = .ok (.istore 7, 2) := by decide +kernel
theorem dL_isAll_226 : decode cL_isAll 226 = .ok (.aload_n 0, 1) := by decide +kernel
theorem dL_isAll_227 : decode cL_isAll 227 = .ok (.iload 6, 2) := by decide +kernel
theorem dL_isAll_229 : decode cL_isAll 229 = .ok (.invokevirtual 41, 3) := by decide +kernel
theorem dL_isAll_232 : decode cL_isAll 232 = .ok (.istore 8, 2) := by decide +kernel
theorem dL_isAll_234 : decode cL_isAll 234 = .ok (.aload_n 0, 1) := by decide +kernel
theorem dL_isAll_235 : decode cL_isAll 235 = .ok (.iload 7, 2) := by decide +kernel
theorem dL_isAll_237 : decode cL_isAll 237 = .ok (.bipush 7, 2) := by decide +kernel
theorem dL_isAll_239 : decode cL_isAll 239 = .ok (.invokevirtual 9, 3) := by decide +kernel
theorem dL_isAll_242 : decode cL_isAll 242 = .ok (.aload_n 0, 1) := by decide +kernel
theorem dL_isAll_243 : decode cL_isAll 243 = .ok (.iload 8, 2) := by decide +kernel
theorem dL_isAll_245 : decode cL_isAll 245 = .ok (.bipush 7, 2) := by decide +kernel
theorem dL_isAll_247 : decode cL_isAll 247 = .ok (.invokevirtual 9, 3) := by decide +kernel
theorem dL_isAll_250 : decode cL_isAll 250 = .ok (.if_icmp .gt 29, 3) := by decide +kernel
theorem dL_isAll_253 : decode cL_isAll 253 = .ok (.aload_n 0, 1) := by decide +kernel
theorem dL_isAll_254 : decode cL_isAll 254 = .ok (.iload 7, 2) := by decide +kernel
theorem dL_isAll_256 : decode cL_isAll 256 = .ok (.bipush 7, 2) := by decide +kernel
theorem dL_isAll_258 : decode cL_isAll 258 = .ok (.invokevirtual 9, 3) := by decide +kernel

theorem dL_isAll_261 : decode cL_isAll 261 = .ok (.aload_n 0, 1) := by decide +kernel
theorem dL_isAll_262 : decode cL_isAll 262 = .ok (.iload 8, 2) := by decide +kernel
theorem dL_isAll_264 : decode cL_isAll 264 = .ok (.bipush 7, 2) := by decide +kernel
theorem dL_isAll_266 : decode cL_isAll 266 = .ok (.invokevirtual 9, 3) := by decide +kernel
theorem dL_isAll_269 : decode cL_isAll 269 = .ok (.if_icmp .ne 14, 3) := by decide +kernel
theorem dL_isAll_272 : decode cL_isAll 272 = .ok (.iload 7, 2) := by decide +kernel
theorem dL_isAll_274 : decode cL_isAll 274 = .ok (.iload 8, 2) := by decide +kernel
theorem dL_isAll_276 : decode cL_isAll 276 = .ok (.if_icmp .ge 7, 3) := by decide +kernel
theorem dL_isAll_279 : decode cL_isAll 279 = .ok (.iconst 1, 1) := by decide +kernel
theorem dL_isAll_280 : decode cL_isAll 280 = .ok (.goto 4, 3) := by decide +kernel
theorem dL_isAll_283 : decode cL_isAll 283 = .ok (.iconst 0, 1) := by decide +kernel
theorem dL_isAll_284 : decode cL_isAll 284 = .ok (.istore 4, 2) := by decide +kernel
theorem dL_isAll_286 : decode cL_isAll 286 = .ok (.iinc 6 1, 3) := by decide +kernel
theorem dL_isAll_289 : decode cL_isAll 289 = .ok (.goto (-88), 3) := by decide +kernel
theorem dL_isAll_292 : decode cL_isAll 292 = .ok (.iload 4, 2) := by decide +kernel
theorem dL_isAll_294 : decode cL_isAll 294 = .ok (.ifCond .eq 34, 3) := by decide +kernel
theorem dL_isAll_297 : decode cL_isAll 297 = .ok (.iload 5, 2) := by decide +kernel
theorem dL_isAll_299 : decode cL_isAll 299 = .ok (.iload_n 1, 1) := by decide +kernel
theorem dL_isAll_300 : decode cL_isAll 300 = .ok (.if_icmp .ne 28, 3) := by decide +kernel
theorem dL_isAll_303 : decode cL_isAll 303 = .ok (.aload_n 0, 1) := by decide +kernel
theorem dL_isAll_304 : decode cL_isAll 304 = .ok (.aload_n 0, 1) := by decide +kernel
theorem dL_isAll_305 : decode cL_isAll 305 = .ok (.iconst 3, 1) := by decide +kernel
theorem dL_isAll_306 : decode cL_isAll 306 = .ok (.invokevirtual 23, 3) := by decide +kernel
theorem dL_isAll_309 : decode cL_isAll 309 = .ok (.invokevirtual 41, 3) := by decide +kernel
theorem dL_isAll_312 : decode cL_isAll 312 = .ok (.bipush (-5), 2) := by decide +kernel
theorem dL_isAll_314 : decode cL_isAll 314 = .ok (.if_icmp .ne 14, 3) := by decide +kernel
theorem dL_isAll_317 : decode cL_isAll 317 = .ok (.aload_n 0, 1) := by decide +kernel
theorem dL_isAll_318 : decode cL_isAll 318 = .ok (.invokestatic 44, 3) := by decide +kernel
theorem dL_isAll_321 : decode cL_isAll 321 = .ok (.ifCond .eq 7, 3) := by decide +kernel
theorem dL_isAll_324 : decode cL_isAll 324 = .ok (.iconst 1, 1) := by decide +kernel
theorem dL_isAll_325 : decode cL_isAll 325 = .ok (.goto 4, 3) := by decide +kernel
theorem dL_isAll_328 : decode cL_isAll 328 = .ok (.iconst 0, 1) := by decide +kernel
theorem dL_isAll_329 : decode cL_isAll 329 = .ok (.ireturn, 1) := by decide +kernel
theorem dL_isPage_0 : decode cL_isPage 0 = .ok (.iconst 0, 1) := by decide +kernel
theorem dL_isPage_1 : decode cL_isPage 1 = .ok (.istore_n 1, 1) := by decide +kernel
theorem dL_isPage_2 : decode cL_isPage 2 = .ok (.iconst 0, 1) := by decide +kernel
theorem dL_isPage_3 : decode cL_isPage 3 = .ok (.istore_n 2, 1) := by decide +kernel
theorem dL_isPage_4 : decode cL_isPage 4 = .ok (.iconst 0, 1) := by decide +kernel
theorem dL_isPage_5 : decode cL_isPage 5 = .ok (.istore_n 3, 1) := by decide +kernel
theorem dL_isPage_6 : decode cL_isPage 6 = .ok (.iconst 1, 1) := by decide +kernel
theorem dL_isPage_7 : decode cL_isPage 7 = .ok (.istore 4, 2) := by decide +kernel
theorem dL_isPage_9 : decode cL_isPage 9 = .ok (.aload_n 0, 1) := by decide +kernel
theorem dL_isPage_10 : decode cL_isPage 10 = .ok (.iconst 0, 1) := by decide +kernel
theorem dL_isPage_11 : decode cL_isPage 11 = .ok (.invokevirtual 48, 3) := by decide +kernel
theorem dL_isPage_14 : decode cL_isPage 14 = .ok (.istore 5, 2) := by decide +kernel
theorem dL_isPage_16 : decode cL_isPage 16 = .ok (.iload 5, 2) := by decide +kernel
theorem dL_isPage_18 : decode cL_isPage 18 = .ok (.ifCond .lt 165, 3) := by decide +kernel
theorem dL_isPage_21 : decode cL_isPage 21 = .ok (.iload 4, 2) := by decide +kernel
theorem dL_isPage_23 : decode cL_isPage 23 = .ok (.ifCond .eq 160, 3) := by decide +kernel
theorem dL_isPage_26 : decode cL_isPage 26 = .ok (.aload_n 0, 1) := by decide +kernel
theorem dL_isPage_27 : decode cL_isPage 27 = .ok (.iload 5, 2) := by decide +kernel
theorem dL_isPage_29 : decode cL_isPage 29 = .ok (.iconst 2, 1) := by decide +kernel
theorem dL_isPage_30 : decode cL_isPage 30 = .ok (.invokevirtual 9, 3) := by decide +kernel
theorem dL_isPage_33 : decode cL_isPage 33 = .ok (.iconst 2, 1) := by decide +kernel
theorem dL_isPage_34 : decode cL_isPage 34 = .ok (.if_icmp .ne 19, 3) := by decide +kernel
theorem dL_isPage_37 : decode cL_isPage 37 = .ok (.aload_n 0, 1) := by decide +kernel
theorem dL_isPage_38 : decode cL_isPage 38 = .ok (.iload 5, 2) := by decide +kernel
theorem dL_isPage_40 : decode cL_isPage 40 = .ok (.bipush 10, 2) := by decide +kernel
theorem dL_isPage_42 : decode cL_isPage 42 = .ok (.invokevirtual 9, 3) := by decide +kernel
theorem dL_isPage_45 : decode cL_isPage 45 = .ok (.iconst 1, 1) := by decide +kernel
theorem dL_isPage_46 : decode cL_isPage 46 = .ok (.if_icmp .ne 7, 3) := by decide +kernel
theorem dL_isPage_49 : decode cL_isPage 49 = .ok (.iconst 1, 1) := by decide +kernel
theorem dL_isPage_50 : decode cL_isPage 50 = .ok (.goto 4, 3) := by decide +kernel
theorem dL_isPage_53 : decode cL_isPage 53 = .ok (.iconst 0, 1) := by decide +kernel
theorem dL_isPage_54 : decode cL_isPage 54 = .ok (.istore 4, 2) := by decide +kernel
theorem dL_isPage_56 : decode cL_isPage 56 = .ok (.iload_n 3, 1) := by decide +kernel
theorem dL_isPage_57 : decode cL_isPage 57 = .ok (.ifCond .le 96, 3) := by decide +kernel
theorem dL_isPage_60 : decode cL_isPage 60 = .ok (.aload_n 0, 1) := by decide +kernel
theorem dL_isPage_61 : decode cL_isPage 61 = .ok (.iload_n 3, 1) := by decide +kernel
theorem dL_isPage_62 : decode cL_isPage 62 = .ok (.iconst 1, 1) := by decide +kernel
theorem dL_isPage_63 : decode cL_isPage 63 = .ok (.isub, 1) := by decide +kernel
theorem dL_isPage_64 : decode cL_isPage 64 = .ok (.invokevirtual 48, 3) := by decide +kernel
theorem dL_isPage_67 : decode cL_isPage 67 = .ok (.istore 6, 2) := by decide +kernel
theorem dL_isPage_69 : decode cL_isPage 69 = .ok (.aload_n 0, 1) := by decide +kernel
theorem dL_isPage_70 : decode cL_isPage 70 = .ok (.iload 6, 2) := by decide +kernel
theorem dL_isPage_72 : decode cL_isPage 72 = .ok (.iconst 1, 1) := by decide +kernel
theorem dL_isPage_73 : decode cL_isPage 73 = .ok (.invokevirtual 9, 3) := by decide +kernel
theorem dL_isPage_76 : decode cL_isPage 76 = .ok (.aload_n 0, 1) := by decide +kernel
theorem dL_isPage_77 : decode cL_isPage 77 = .ok (.iload 5, 2) := by decide +kernel
theorem dL_isPage_79 : decode cL_isPage 79 = .ok (.iconst 1, 1) := by decide +kernel
theorem dL_isPage_80 : decode cL_isPage 80 = .ok (.invokevirtual 9, 3) := by decide +kernel
theorem dL_isPage_83 : decode cL_isPage 83 = .ok (.isub, 1) := by decide +kernel
theorem dL_isPage_84 : decode cL_isPage 84 = .ok (.istore 7, 2) := by decide +kernel
theorem dL_isPage_86 : decode cL_isPage 86 = .ok (.iload 4, 2) := by decide +kernel
theorem dL_isPage_88 : decode cL_isPage 88 = .ok (.ifCond .eq 62, 3) := by decide +kernel
theorem dL_isPage_91 : decode cL_isPage 91 = .ok (.iload 7, 2) := by decide +kernel
theorem dL_isPage_93 : decode cL_isPage 93 = .ok (.ifCond .gt 53, 3) := by decide +kernel
theorem dL_isPage_96 : decode cL_isPage 96 = .ok (.iload 7, 2) := by decide +kernel
theorem dL_isPage_98 : decode cL_isPage 98 = .ok (.ifCond .ne 52, 3) := by decide +kernel
theorem dL_isPage_101 : decode cL_isPage 101 = .ok (.aload_n 0, 1) := by decide +kernel
theorem dL_isPage_102 : decode cL_isPage 102 = .ok (.iload 6, 2) := by decide +kernel
theorem dL_isPage_104 : decode cL_isPage 104 = .ok (.bipush 8, 2) := by decide +kernel
theorem dL_isPage_106 : decode cL_isPage 106 = .ok (.invokevirtual 9, 3) := by decide +kernel
theorem dL_isPage_109 : decode cL_isPage 109 = .ok (.aload_n 0, 1) := by decide +kernel
theorem dL_isPage_110 : decode cL_isPage 110 = .ok (.iload 5, 2) := by decide +kernel
theorem dL_isPage_112 : decode cL_isPage 112 = .ok (.bipush 8, 2) := by decide +kernel
theorem dL_isPage_114 : decode cL_isPage 114 = .ok (.invokevirtual 9, 3) := by decide +kernel
theorem dL_isPage_117 : decode cL_isPage 117 = .ok (.if_icmp .lt 29, 3) := by decide +kernel
theorem dL_isPage_120 : decode cL_isPage 120 = .ok (.aload_n 0, 1) := by decide +kernel
theorem dL_isPage_121 : decode cL_isPage 121 = .ok (.iload 6, 2) := by decide +kernel
theorem dL_isPage_123 : decode cL_isPage 123 = .ok (.bipush 8, 2) := by decide +kernel
theorem dL_isPage_125 : decode cL_isPage 125 = .ok (.invokevirtual 9, 3) := by decide +kernel
theorem dL_isPage_128 : decode cL_isPage 128 = .ok (.aload_n 0, 1) := by decide +kernel
theorem dL_isPage_129 : decode cL_isPage 129 = .ok (.iload 5, 2) := by decide +kernel
theorem dL_isPage_131 : decode cL_isPage 131 = .ok (.bipush 8, 2) := by decide +kernel
theorem dL_isPage_133 : decode cL_isPage 133 = .ok (.invokevirtual 9, 3) := by decide +kernel
theorem dL_isPage_136 : decode cL_isPage 136 = .ok (.if_icmp .ne 14, 3) := by decide +kernel
theorem dL_isPage_139 : decode cL_isPage 139 = .ok (.iload 6, 2) := by decide +kernel
theorem dL_isPage_141 : decode cL_isPage 141 = .ok (.iload 5, 2) := by decide +kernel
theorem dL_isPage_143 : decode cL_isPage 143 = .ok (.if_icmp .ge 7, 3) := by decide +kernel
theorem dL_isPage_146 : decode cL_isPage 146 = .ok (.iconst 1, 1) := by decide +kernel
theorem dL_isPage_147 : decode cL_isPage 147 = .ok (.goto 4, 3) := by decide +kernel
theorem dL_isPage_150 : decode cL_isPage 150 = .ok (.iconst 0, 1) := by decide +kernel
theorem dL_isPage_151 : decode cL_isPage 151 = .ok (.istore 4, 2) := by decide +kernel
theorem dL_isPage_153 : decode cL_isPage 153 = .ok (.iload_n 1, 1) := by decide +kernel
theorem dL_isPage_154 : decode cL_isPage 154 = .ok (.aload_n 0, 1) := by decide +kernel
theorem dL_isPage_155 : decode cL_isPage 155 = .ok (.iload 5, 2) := by decide +kernel
theorem dL_isPage_157 : decode cL_isPage 157 = .ok (.iconst 4, 1) := by decide +kernel
theorem dL_isPage_158 : decode cL_isPage 158 = .ok (.invokevirtual 9, 3) := by decide +kernel
theorem dL_isPage_161 : decode cL_isPage 161 = .ok (.iadd, 1) := by decide +kernel
theorem dL_isPage_162 : decode cL_isPage 162 = .ok (.istore_n 1, 1) := by decide +kernel
theorem dL_isPage_163 : decode cL_isPage 163 = .ok (.iload_n 2, 1) := by decide +kernel
theorem dL_isPage_164 : decode cL_isPage 164 = .ok (.iconst 1, 1) := by decide +kernel
theorem dL_isPage_165 : decode cL_isPage 165 = .ok (.iload 5, 2) := by decide +kernel
theorem dL_isPage_167 : decode cL_isPage 167 = .ok (.ishl, 1) := by decide +kernel
theorem dL_isPage_168 : decode cL_isPage 168 = .ok (.ior, 1) := by decide +kernel
theorem dL_isPage_169 : decode cL_isPage 169 = .ok (.istore_n 2, 1) := by decide +kernel
theorem dL_isPage_170 : decode cL_isPage 170 = .ok (.iinc 3 1, 3) := by decide +kernel
theorem dL_isPage_173 : decode cL_isPage 173 = .ok (.aload_n 0, 1) := by decide +kernel
theorem dL_isPage_174 : decode cL_isPage 174 = .ok (.iload_n 3, 1) := by decide +kernel
theorem dL_isPage_175 : decode cL_isPage 175 = .ok (.invokevirtual 48, 3) := by decide +kernel
theorem dL_isPage_178 : decode cL_isPage 178 = .ok (.istore 5, 2) := by decide +kernel
theorem dL_isPage_180 : decode cL_isPage 180 = .ok (.goto (-164), 3) := by decide +kernel
theorem dL_isPage_183 : decode cL_isPage 183 = .ok (.iload 4, 2) := by decide +kernel
theorem dL_isPage_185 : decode cL_isPage 185 = .ok (.ifCond .eq 34, 3) := by decide +kernel
theorem dL_isPage_188 : decode cL_isPage 188 = .ok (.aload_n 0, 1) := by decide +kernel
theorem dL_isPage_189 : decode cL_isPage 189 = .ok (.bipush 9, 2) := by decide +kernel
theorem dL_isPage_191 : decode cL_isPage 191 = .ok (.invokevirtual 23, 3) := by decide +kernel
theorem dL_isPage_194 : decode cL_isPage 194 = .ok (.aload_n 0, 1) := by decide +kernel
theorem dL_isPage_195 : decode cL_isPage 195 = .ok (.bipush 12, 2) := by decide +kernel

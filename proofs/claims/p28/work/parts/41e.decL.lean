theorem dL_isPage_197 : decode cL_isPage 197 = .ok (.invokevirtual 23, 3) := by decide +kernel
theorem dL_isPage_200 : decode cL_isPage 200 = .ok (.iload_n 1, 1) := by decide +kernel
theorem dL_isPage_201 : decode cL_isPage 201 = .ok (.isub, 1) := by decide +kernel
theorem dL_isPage_202 : decode cL_isPage 202 = .ok (.if_icmp .ne 17, 3) := by decide +kernel
theorem dL_isPage_205 : decode cL_isPage 205 = .ok (.iload_n 1, 1) := by decide +kernel
theorem dL_isPage_206 : decode cL_isPage 206 = .ok (.aload_n 0, 1) := by decide +kernel
theorem dL_isPage_207 : decode cL_isPage 207 = .ok (.bipush 12, 2) := by decide +kernel
theorem dL_isPage_209 : decode cL_isPage 209 = .ok (.invokevirtual 23, 3) := by decide +kernel
theorem dL_isPage_212 : decode cL_isPage 212 = .ok (.if_icmp .gt 7, 3) := by decide +kernel
theorem dL_isPage_215 : decode cL_isPage 215 = .ok (.iconst 1, 1) := by decide +kernel
theorem dL_isPage_216 : decode cL_isPage 216 = .ok (.goto 4, 3) := by decide +kernel
theorem dL_isPage_219 : decode cL_isPage 219 = .ok (.iconst 0, 1) := by decide +kernel
theorem dL_isPage_220 : decode cL_isPage 220 = .ok (.istore 4, 2) := by decide +kernel
theorem dL_isPage_222 : decode cL_isPage 222 = .ok (.iconst 0, 1) := by decide +kernel
theorem dL_isPage_223 : decode cL_isPage 223 = .ok (.istore 5, 2) := by decide +kernel
theorem dL_isPage_225 : decode cL_isPage 225 = .ok (.iload 5, 2) := by decide +kernel
theorem dL_isPage_227 : decode cL_isPage 227 = .ok (.aload_n 0, 1) := by decide +kernel
theorem dL_isPage_228 : decode cL_isPage 228 = .ok (.iconst 1, 1) := by decide +kernel
theorem dL_isPage_229 : decode cL_isPage 229 = .ok (.invokevirtual 23, 3) := by decide +kernel
theorem dL_isPage_232 : decode cL_isPage 232 = .ok (.if_icmp .ge 69, 3) := by decide +kernel
theorem dL_isPage_235 : decode cL_isPage 235 = .ok (.iload 4, 2) := by decide +kernel
theorem dL_isPage_237 : decode cL_isPage 237 = .ok (.ifCond .eq 64, 3) := by decide +kernel
theorem dL_isPage_240 : decode cL_isPage 240 = .ok (.iload_n 2, 1) := by decide +kernel
theorem dL_isPage_241 : decode cL_isPage 241 = .ok (.iload 5, 2) := by decide +kernel
theorem dL_isPage_243 : decode cL_isPage 243 = .ok (.ishr, 1) := by decide +kernel
theorem dL_isPage_244 : decode cL_isPage 244 = .ok (.iconst 1, 1) := by decide +kernel
theorem dL_isPage_245 : decode cL_isPage 245 = .ok (.iand, 1) := by decide +kernel
theorem dL_isPage_246 : decode cL_isPage 246 = .ok (.iconst 1, 1) := by decide +kernel
theorem dL_isPage_247 : decode cL_isPage 247 = .ok (.if_icmp .eq 41, 3) := by decide +kernel
theorem dL_isPage_250 : decode cL_isPage 250 = .ok (.aload_n 0, 1) := by decide +kernel
theorem dL_isPage_251 : decode cL_isPage 251 = .ok (.iload 5, 2) := by decide +kernel
theorem dL_isPage_253 : decode cL_isPage 253 = .ok (.iconst 2, 1) := by decide +kernel
theorem dL_isPage_254 : decode cL_isPage 254 = .ok (.invokevirtual 9, 3) := by decide +kernel
theorem dL_isPage_257 : decode cL_isPage 257 = .ok (.iconst 2, 1) := by decide +kernel
theorem dL_isPage_258 : decode cL_isPage 258 = .ok (.if_icmp .ne 30, 3) := by decide +kernel
theorem dL_isPage_261 : decode cL_isPage 261 = .ok (.aload_n 0, 1) := by decide +kernel
theorem dL_isPage_262 : decode cL_isPage 262 = .ok (.iload 5, 2) := by decide +kernel
theorem dL_isPage_264 : decode cL_isPage 264 = .ok (.bipush 10, 2) := by decide +kernel
theorem dL_isPage_266 : decode cL_isPage 266 = .ok (.invokevirtual 9, 3) := by decide +kernel
theorem dL_isPage_269 : decode cL_isPage 269 = .ok (.ifCond .eq 19, 3) := by decide +kernel
theorem dL_isPage_272 : decode cL_isPage 272 = .ok (.aload_n 0, 1) := by decide +kernel
theorem dL_isPage_273 : decode cL_isPage 273 = .ok (.iload 5, 2) := by decide +kernel
theorem dL_isPage_275 : decode cL_isPage 275 = .ok (.iconst 4, 1) := by decide +kernel
theorem dL_isPage_276 : decode cL_isPage 276 = .ok (.invokevirtual 9, 3) := by decide +kernel
theorem dL_isPage_279 : decode cL_isPage 279 = .ok (.aload_n 0, 1) := by decide +kernel
theorem dL_isPage_280 : decode cL_isPage 280 = .ok (.bipush 9, 2) := by decide +kernel
theorem dL_isPage_282 : decode cL_isPage 282 = .ok (.invokevirtual 23, 3) := by decide +kernel
theorem dL_isPage_285 : decode cL_isPage 285 = .ok (.if_icmp .le 7, 3) := by decide +kernel
theorem dL_isPage_288 : decode cL_isPage 288 = .ok (.iconst 1, 1) := by decide +kernel
theorem dL_isPage_289 : decode cL_isPage 289 = .ok (.goto 4, 3) := by decide +kernel
theorem dL_isPage_292 : decode cL_isPage 292 = .ok (.iconst 0, 1) := by decide +kernel
theorem dL_isPage_293 : decode cL_isPage 293 = .ok (.istore 4, 2) := by decide +kernel
theorem dL_isPage_295 : decode cL_isPage 295 = .ok (.iinc 5 1, 3) := by decide +kernel
theorem dL_isPage_298 : decode cL_isPage 298 = .ok (.goto (-73), 3) := by decide +kernel
theorem dL_isPage_301 : decode cL_isPage 301 = .ok (.iload 4, 2) := by decide +kernel
theorem dL_isPage_303 : decode cL_isPage 303 = .ok (.ireturn, 1) := by decide +kernel
theorem dL_tells_0 : decode cL_tells 0 = .ok (.aload_n 0, 1) := by decide +kernel
theorem dL_tells_1 : decode cL_tells 1 = .ok (.iload_n 1, 1) := by decide +kernel
theorem dL_tells_2 : decode cL_tells 2 = .ok (.iconst 2, 1) := by decide +kernel
theorem dL_tells_3 : decode cL_tells 3 = .ok (.invokevirtual 9, 3) := by decide +kernel
theorem dL_tells_6 : decode cL_tells 6 = .ok (.istore_n 3, 1) := by decide +kernel
theorem dL_tells_7 : decode cL_tells 7 = .ok (.aload_n 0, 1) := by decide +kernel
theorem dL_tells_8 : decode cL_tells 8 = .ok (.iload_n 1, 1) := by decide +kernel
theorem dL_tells_9 : decode cL_tells 9 = .ok (.iload_n 2, 1) := by decide +kernel
theorem dL_tells_10 : decode cL_tells 10 = .ok (.invokevirtual 51, 3) := by decide +kernel
theorem dL_tells_13 : decode cL_tells 13 = .ok (.istore 4, 2) := by decide +kernel
theorem dL_tells_15 : decode cL_tells 15 = .ok (.iload_n 3, 1) := by decide +kernel
theorem dL_tells_16 : decode cL_tells 16 = .ok (.iconst 1, 1) := by decide +kernel
theorem dL_tells_17 : decode cL_tells 17 = .ok (.if_icmp .le 18, 3) := by decide +kernel
theorem dL_tells_20 : decode cL_tells 20 = .ok (.iload 4, 2) := by decide +kernel
theorem dL_tells_22 : decode cL_tells 22 = .ok (.bipush (-4), 2) := by decide +kernel
theorem dL_tells_24 : decode cL_tells 24 = .ok (.if_icmp .ne 7, 3) := by decide +kernel
theorem dL_tells_27 : decode cL_tells 27 = .ok (.iconst 1, 1) := by decide +kernel
theorem dL_tells_28 : decode cL_tells 28 = .ok (.goto 121, 3) := by decide +kernel
theorem dL_tells_31 : decode cL_tells 31 = .ok (.iconst 0, 1) := by decide +kernel
theorem dL_tells_32 : decode cL_tells 32 = .ok (.goto 117, 3) := by decide +kernel
theorem dL_tells_35 : decode cL_tells 35 = .ok (.iload_n 3, 1) := by decide +kernel
theorem dL_tells_36 : decode cL_tells 36 = .ok (.ifCond .ne 52, 3) := by decide +kernel
theorem dL_tells_39 : decode cL_tells 39 = .ok (.iload 4, 2) := by decide +kernel
theorem dL_tells_41 : decode cL_tells 41 = .ok (.ifCond .ne 43, 3) := by decide +kernel
theorem dL_tells_44 : decode cL_tells 44 = .ok (.aload_n 0, 1) := by decide +kernel
theorem dL_tells_45 : decode cL_tells 45 = .ok (.iload_n 1, 1) := by decide +kernel
theorem dL_tells_46 : decode cL_tells 46 = .ok (.iconst 2, 1) := by decide +kernel
theorem dL_tells_47 : decode cL_tells 47 = .ok (.invokevirtual 9, 3) := by decide +kernel
theorem dL_tells_50 : decode cL_tells 50 = .ok (.iconst 1, 1) := by decide +kernel
theorem dL_tells_51 : decode cL_tells 51 = .ok (.if_icmp .ne 33, 3) := by decide +kernel
theorem dL_tells_54 : decode cL_tells 54 = .ok (.aload_n 0, 1) := by decide +kernel
theorem dL_tells_55 : decode cL_tells 55 = .ok (.iload_n 1, 1) := by decide +kernel
theorem dL_tells_56 : decode cL_tells 56 = .ok (.iload_n 2, 1) := by decide +kernel
theorem dL_tells_57 : decode cL_tells 57 = .ok (.invokevirtual 51, 3) := by decide +kernel
theorem dL_tells_60 : decode cL_tells 60 = .ok (.bipush (-5), 2) := by decide +kernel
theorem dL_tells_62 : decode cL_tells 62 = .ok (.if_icmp .ne 22, 3) := by decide +kernel
theorem dL_tells_65 : decode cL_tells 65 = .ok (.aload_n 0, 1) := by decide +kernel
theorem dL_tells_66 : decode cL_tells 66 = .ok (.iload_n 1, 1) := by decide +kernel
theorem dL_tells_67 : decode cL_tells 67 = .ok (.bipush 8, 2) := by decide +kernel
theorem dL_tells_69 : decode cL_tells 69 = .ok (.invokevirtual 9, 3) := by decide +kernel
theorem dL_tells_72 : decode cL_tells 72 = .ok (.aload_n 0, 1) := by decide +kernel
theorem dL_tells_73 : decode cL_tells 73 = .ok (.iconst 0, 1) := by decide +kernel
theorem dL_tells_74 : decode cL_tells 74 = .ok (.invokevirtual 23, 3) := by decide +kernel
theorem dL_tells_77 : decode cL_tells 77 = .ok (.if_icmp .ne 7, 3) := by decide +kernel
theorem dL_tells_80 : decode cL_tells 80 = .ok (.iconst 1, 1) := by decide +kernel
theorem dL_tells_81 : decode cL_tells 81 = .ok (.goto 68, 3) := by decide +kernel
theorem dL_tells_84 : decode cL_tells 84 = .ok (.iconst 0, 1) := by decide +kernel
theorem dL_tells_85 : decode cL_tells 85 = .ok (.goto 64, 3) := by decide +kernel
theorem dL_tells_88 : decode cL_tells 88 = .ok (.iload 4, 2) := by decide +kernel
theorem dL_tells_90 : decode cL_tells 90 = .ok (.bipush (-5), 2) := by decide +kernel
theorem dL_tells_92 : decode cL_tells 92 = .ok (.if_icmp .ne 21, 3) := by decide +kernel
theorem dL_tells_95 : decode cL_tells 95 = .ok (.aload_n 0, 1) := by decide +kernel
theorem dL_tells_96 : decode cL_tells 96 = .ok (.iload_n 1, 1) := by decide +kernel
theorem dL_tells_97 : decode cL_tells 97 = .ok (.iconst 2, 1) := by decide +kernel
theorem dL_tells_98 : decode cL_tells 98 = .ok (.invokevirtual 9, 3) := by decide +kernel
theorem dL_tells_101 : decode cL_tells 101 = .ok (.iconst 1, 1) := by decide +kernel
theorem dL_tells_102 : decode cL_tells 102 = .ok (.if_icmp .ne 7, 3) := by decide +kernel
theorem dL_tells_105 : decode cL_tells 105 = .ok (.iconst 1, 1) := by decide +kernel
theorem dL_tells_106 : decode cL_tells 106 = .ok (.goto 43, 3) := by decide +kernel
theorem dL_tells_109 : decode cL_tells 109 = .ok (.iconst 0, 1) := by decide +kernel
theorem dL_tells_110 : decode cL_tells 110 = .ok (.goto 39, 3) := by decide +kernel
theorem dL_tells_113 : decode cL_tells 113 = .ok (.iload 4, 2) := by decide +kernel
theorem dL_tells_115 : decode cL_tells 115 = .ok (.iconst 1, 1) := by decide +kernel
theorem dL_tells_116 : decode cL_tells 116 = .ok (.if_icmp .ne 32, 3) := by decide +kernel
theorem dL_tells_119 : decode cL_tells 119 = .ok (.aload_n 0, 1) := by decide +kernel
theorem dL_tells_120 : decode cL_tells 120 = .ok (.iload_n 1, 1) := by decide +kernel
theorem dL_tells_121 : decode cL_tells 121 = .ok (.iconst 2, 1) := by decide +kernel
theorem dL_tells_122 : decode cL_tells 122 = .ok (.invokevirtual 9, 3) := by decide +kernel
theorem dL_tells_125 : decode cL_tells 125 = .ok (.iconst 2, 1) := by decide +kernel
theorem dL_tells_126 : decode cL_tells 126 = .ok (.if_icmp .ne 22, 3) := by decide +kernel
theorem dL_tells_129 : decode cL_tells 129 = .ok (.aload_n 0, 1) := by decide +kernel
theorem dL_tells_130 : decode cL_tells 130 = .ok (.iload_n 1, 1) := by decide +kernel
theorem dL_tells_131 : decode cL_tells 131 = .ok (.bipush 8, 2) := by decide +kernel
theorem dL_tells_133 : decode cL_tells 133 = .ok (.invokevirtual 9, 3) := by decide +kernel
theorem dL_tells_136 : decode cL_tells 136 = .ok (.aload_n 0, 1) := by decide +kernel
theorem dL_tells_137 : decode cL_tells 137 = .ok (.iconst 0, 1) := by decide +kernel
theorem dL_tells_138 : decode cL_tells 138 = .ok (.invokevirtual 23, 3) := by decide +kernel
theorem dL_tells_141 : decode cL_tells 141 = .ok (.if_icmp .ne 7, 3) := by decide +kernel
theorem dL_tells_144 : decode cL_tells 144 = .ok (.iconst 1, 1) := by decide +kernel
theorem dL_tells_145 : decode cL_tells 145 = .ok (.goto 4, 3) := by decide +kernel
theorem dL_tells_148 : decode cL_tells 148 = .ok (.iconst 0, 1) := by decide +kernel
theorem dL_tells_149 : decode cL_tells 149 = .ok (.ireturn, 1) := by decide +kernel
theorem dL_passes_0 : decode cL_passes 0 = .ok (.aload_n 0, 1) := by decide +kernel
theorem dL_passes_1 : decode cL_passes 1 = .ok (.iconst 0, 1) := by decide +kernel

theorem dL_cell_0 : decode cL_cell 0 = .ok (.iload_n 1, 1) := by decide +kernel
theorem dL_cell_1 : decode cL_cell 1 = .ok (.aload_n 0, 1) := by decide +kernel
theorem dL_cell_2 : decode cL_cell 2 = .ok (.arraylength, 1) := by decide +kernel
theorem dL_cell_3 : decode cL_cell 3 = .ok (.if_icmp .ge 9, 3) := by decide +kernel
theorem dL_cell_6 : decode cL_cell 6 = .ok (.aload_n 0, 1) := by decide +kernel
theorem dL_cell_7 : decode cL_cell 7 = .ok (.iload_n 1, 1) := by decide +kernel
theorem dL_cell_8 : decode cL_cell 8 = .ok (.iaload, 1) := by decide +kernel
theorem dL_cell_9 : decode cL_cell 9 = .ok (.goto 11, 3) := by decide +kernel
theorem dL_cell_12 : decode cL_cell 12 = .ok (.ldc 7, 2) := by decide +kernel
theorem dL_cell_14 : decode cL_cell 14 = .ok (.iload_n 1, 1) := by decide +kernel
theorem dL_cell_15 : decode cL_cell 15 = .ok (.imul, 1) := by decide +kernel
theorem dL_cell_16 : decode cL_cell 16 = .ok (.sipush 1269, 3) := by decide +kernel
theorem dL_cell_19 : decode cL_cell 19 = .ok (.iadd, 1) := by decide +kernel
theorem dL_cell_20 : decode cL_cell 20 = .ok (.ldc 8, 2) := by decide +kernel
theorem dL_cell_22 : decode cL_cell 22 = .ok (.iand, 1) := by decide +kernel
theorem dL_cell_23 : decode cL_cell 23 = .ok (.ireturn, 1) := by decide +kernel
theorem dL_isLife_0 : decode cL_isLife 0 = .ok (.fconst 0, 1) := by decide +kernel
theorem dL_isLife_1 : decode cL_isLife 1 = .ok (.fstore_n 2, 1) := by decide +kernel
theorem dL_isLife_2 : decode cL_isLife 2 = .ok (.iconst 0, 1) := by decide +kernel
theorem dL_isLife_3 : decode cL_isLife 3 = .ok (.istore_n 3, 1) := by decide +kernel
theorem dL_isLife_4 : decode cL_isLife 4 = .ok (.iconst 0, 1) := by decide +kernel
theorem dL_isLife_5 : decode cL_isLife 5 = .ok (.istore 4, 2) := by decide +kernel
theorem dL_isLife_7 : decode cL_isLife 7 = .ok (.iconst 0, 1) := by decide +kernel
theorem dL_isLife_8 : decode cL_isLife 8 = .ok (.istore 5, 2) := by decide +kernel
theorem dL_isLife_10 : decode cL_isLife 10 = .ok (.iconst 1, 1) := by decide +kernel
theorem dL_isLife_11 : decode cL_isLife 11 = .ok (.istore 6, 2) := by decide +kernel
theorem dL_isLife_13 : decode cL_isLife 13 = .ok (.iconst 0, 1) := by decide +kernel
theorem dL_isLife_14 : decode cL_isLife 14 = .ok (.istore 7, 2) := by decide +kernel
theorem dL_isLife_16 : decode cL_isLife 16 = .ok (.iload 7, 2) := by decide +kernel
theorem dL_isLife_18 : decode cL_isLife 18 = .ok (.aload_n 0, 1) := by decide +kernel
theorem dL_isLife_19 : decode cL_isLife 19 = .ok (.iload_n 1, 1) := by decide +kernel
theorem dL_isLife_20 : decode cL_isLife 20 = .ok (.iconst 3, 1) := by decide +kernel
theorem dL_isLife_21 : decode cL_isLife 21 = .ok (.invokevirtual 9, 3) := by decide +kernel
theorem dL_isLife_24 : decode cL_isLife 24 = .ok (.if_icmp .ge 176, 3) := by decide +kernel
theorem dL_isLife_27 : decode cL_isLife 27 = .ok (.iload 6, 2) := by decide +kernel
theorem dL_isLife_29 : decode cL_isLife 29 = .ok (.ifCond .eq 171, 3) := by decide +kernel
theorem dL_isLife_32 : decode cL_isLife 32 = .ok (.aload_n 0, 1) := by decide +kernel
theorem dL_isLife_33 : decode cL_isLife 33 = .ok (.iload_n 1, 1) := by decide +kernel
theorem dL_isLife_34 : decode cL_isLife 34 = .ok (.iload 7, 2) := by decide +kernel
theorem dL_isLife_36 : decode cL_isLife 36 = .ok (.iconst 0, 1) := by decide +kernel
theorem dL_isLife_37 : decode cL_isLife 37 = .ok (.invokevirtual 15, 3) := by decide +kernel
theorem dL_isLife_40 : decode cL_isLife 40 = .ok (.istore 8, 2) := by decide +kernel
theorem dL_isLife_42 : decode cL_isLife 42 = .ok (.aload_n 0, 1) := by decide +kernel
theorem dL_isLife_43 : decode cL_isLife 43 = .ok (.iload 8, 2) := by decide +kernel
theorem dL_isLife_45 : decode cL_isLife 45 = .ok (.iconst 0, 1) := by decide +kernel
theorem dL_isLife_46 : decode cL_isLife 46 = .ok (.invokevirtual 19, 3) := by decide +kernel
theorem dL_isLife_49 : decode cL_isLife 49 = .ok (.i2f, 1) := by decide +kernel
theorem dL_isLife_50 : decode cL_isLife 50 = .ok (.ldc 22, 2) := by decide +kernel
theorem dL_isLife_52 : decode cL_isLife 52 = .ok (.fdiv, 1) := by decide +kernel
theorem dL_isLife_53 : decode cL_isLife 53 = .ok (.fstore 9, 2) := by decide +kernel
theorem dL_isLife_55 : decode cL_isLife 55 = .ok (.bipush 10, 2) := by decide +kernel
theorem dL_isLife_57 : decode cL_isLife 57 = .ok (.istore 10, 2) := by decide +kernel
theorem dL_isLife_59 : decode cL_isLife 59 = .ok (.iload 10, 2) := by decide +kernel
theorem dL_isLife_61 : decode cL_isLife 61 = .ok (.aload_n 0, 1) := by decide +kernel
theorem dL_isLife_62 : decode cL_isLife 62 = .ok (.iconst 0, 1) := by decide +kernel
theorem dL_isLife_63 : decode cL_isLife 63 = .ok (.invokevirtual 23, 3) := by decide +kernel
theorem dL_isLife_66 : decode cL_isLife 66 = .ok (.aload_n 0, 1) := by decide +kernel
theorem dL_isLife_67 : decode cL_isLife 67 = .ok (.iload_n 1, 1) := by decide +kernel
theorem dL_isLife_68 : decode cL_isLife 68 = .ok (.iload 7, 2) := by decide +kernel
theorem dL_isLife_70 : decode cL_isLife 70 = .ok (.iconst 2, 1) := by decide +kernel
theorem dL_isLife_71 : decode cL_isLife 71 = .ok (.invokevirtual 15, 3) := by decide +kernel
theorem dL_isLife_74 : decode cL_isLife 74 = .ok (.isub, 1) := by decide +kernel
theorem dL_isLife_75 : decode cL_isLife 75 = .ok (.if_icmp .gt 16, 3) := by decide +kernel
theorem dL_isLife_78 : decode cL_isLife 78 = .ok (.fload 9, 2) := by decide +kernel
theorem dL_isLife_80 : decode cL_isLife 80 = .ok (.ldc 27, 2) := by decide +kernel
theorem dL_isLife_82 : decode cL_isLife 82 = .ok (.fmul, 1) := by decide +kernel
theorem dL_isLife_83 : decode cL_isLife 83 = .ok (.fstore 9, 2) := by decide +kernel
theorem dL_isLife_85 : decode cL_isLife 85 = .ok (.iinc 10 10, 3) := by decide +kernel
theorem dL_isLife_88 : decode cL_isLife 88 = .ok (.goto (-29), 3) := by decide +kernel
theorem dL_isLife_91 : decode cL_isLife 91 = .ok (.aload_n 0, 1) := by decide +kernel
theorem dL_isLife_92 : decode cL_isLife 92 = .ok (.iload_n 1, 1) := by decide +kernel
theorem dL_isLife_93 : decode cL_isLife 93 = .ok (.iload 7, 2) := by decide +kernel
theorem dL_isLife_95 : decode cL_isLife 95 = .ok (.iconst 3, 1) := by decide +kernel
theorem dL_isLife_96 : decode cL_isLife 96 = .ok (.invokevirtual 15, 3) := by decide +kernel
theorem dL_isLife_99 : decode cL_isLife 99 = .ok (.fload 9, 2) := by decide +kernel
theorem dL_isLife_101 : decode cL_isLife 101 = .ok (.aload_n 0, 1) := by decide +kernel
theorem dL_isLife_102 : decode cL_isLife 102 = .ok (.bipush 13, 2) := by decide +kernel
theorem dL_isLife_104 : decode cL_isLife 104 = .ok (.invokevirtual 23, 3) := by decide +kernel
theorem dL_isLife_107 : decode cL_isLife 107 = .ok (.i2f, 1) := by decide +kernel
theorem dL_isLife_108 : decode cL_isLife 108 = .ok (.ldc 22, 2) := by decide +kernel
theorem dL_isLife_110 : decode cL_isLife 110 = .ok (.fdiv, 1) := by decide +kernel
theorem dL_isLife_111 : decode cL_isLife 111 = .ok (.fcmp .g, 1) := by decide +kernel
theorem dL_isLife_112 : decode cL_isLife 112 = .ok (.ifCond .ge 7, 3) := by decide +kernel
theorem dL_isLife_115 : decode cL_isLife 115 = .ok (.iconst 1, 1) := by decide +kernel
theorem dL_isLife_116 : decode cL_isLife 116 = .ok (.goto 4, 3) := by decide +kernel
theorem dL_isLife_119 : decode cL_isLife 119 = .ok (.iconst 0, 1) := by decide +kernel
theorem dL_isLife_120 : decode cL_isLife 120 = .ok (.if_icmp .ne 23, 3) := by decide +kernel
theorem dL_isLife_123 : decode cL_isLife 123 = .ok (.aload_n 0, 1) := by decide +kernel
theorem dL_isLife_124 : decode cL_isLife 124 = .ok (.iload_n 1, 1) := by decide +kernel
theorem dL_isLife_125 : decode cL_isLife 125 = .ok (.iload 7, 2) := by decide +kernel
theorem dL_isLife_127 : decode cL_isLife 127 = .ok (.iconst 2, 1) := by decide +kernel
theorem dL_isLife_128 : decode cL_isLife 128 = .ok (.invokevirtual 15, 3) := by decide +kernel
theorem dL_isLife_131 : decode cL_isLife 131 = .ok (.aload_n 0, 1) := by decide +kernel
theorem dL_isLife_132 : decode cL_isLife 132 = .ok (.iconst 0, 1) := by decide +kernel
theorem dL_isLife_133 : decode cL_isLife 133 = .ok (.invokevirtual 23, 3) := by decide +kernel
theorem dL_isLife_136 : decode cL_isLife 136 = .ok (.if_icmp .gt 7, 3) := by decide +kernel
theorem dL_isLife_139 : decode cL_isLife 139 = .ok (.iconst 1, 1) := by decide +kernel
theorem dL_isLife_140 : decode cL_isLife 140 = .ok (.goto 4, 3) := by decide +kernel
theorem dL_isLife_143 : decode cL_isLife 143 = .ok (.iconst 0, 1) := by decide +kernel
theorem dL_isLife_144 : decode cL_isLife 144 = .ok (.istore 6, 2) := by decide +kernel
theorem dL_isLife_146 : decode cL_isLife 146 = .ok (.fload_n 2, 1) := by decide +kernel
theorem dL_isLife_147 : decode cL_isLife 147 = .ok (.fload 9, 2) := by decide +kernel
theorem dL_isLife_149 : decode cL_isLife 149 = .ok (.aload_n 0, 1) := by decide +kernel
theorem dL_isLife_150 : decode cL_isLife 150 = .ok (.iload_n 1, 1) := by decide +kernel
theorem dL_isLife_151 : decode cL_isLife 151 = .ok (.iload 7, 2) := by decide +kernel
theorem dL_isLife_153 : decode cL_isLife 153 = .ok (.iconst 1, 1) := by decide +kernel
theorem dL_isLife_154 : decode cL_isLife 154 = .ok (.invokevirtual 15, 3) := by decide +kernel
theorem dL_isLife_157 : decode cL_isLife 157 = .ok (.i2f, 1) := by decide +kernel
theorem dL_isLife_158 : decode cL_isLife 158 = .ok (.fmul, 1) := by decide +kernel
theorem dL_isLife_159 : decode cL_isLife 159 = .ok (.fadd, 1) := by decide +kernel
theorem dL_isLife_160 : decode cL_isLife 160 = .ok (.fstore_n 2, 1) := by decide +kernel
theorem dL_isLife_161 : decode cL_isLife 161 = .ok (.iload_n 3, 1) := by decide +kernel
theorem dL_isLife_162 : decode cL_isLife 162 = .ok (.aload_n 0, 1) := by decide +kernel
theorem dL_isLife_163 : decode cL_isLife 163 = .ok (.iload_n 1, 1) := by decide +kernel
theorem dL_isLife_164 : decode cL_isLife 164 = .ok (.iload 7, 2) := by decide +kernel
theorem dL_isLife_166 : decode cL_isLife 166 = .ok (.iconst 1, 1) := by decide +kernel
theorem dL_isLife_167 : decode cL_isLife 167 = .ok (.invokevirtual 15, 3) := by decide +kernel
theorem dL_isLife_170 : decode cL_isLife 170 = .ok (.iadd, 1) := by decide +kernel
theorem dL_isLife_171 : decode cL_isLife 171 = .ok (.istore_n 3, 1) := by decide +kernel
theorem dL_isLife_172 : decode cL_isLife 172 = .ok (.iload 4, 2) := by decide +kernel
theorem dL_isLife_174 : decode cL_isLife 174 = .ok (.aload_n 0, 1) := by decide +kernel
theorem dL_isLife_175 : decode cL_isLife 175 = .ok (.iload_n 1, 1) := by decide +kernel
theorem dL_isLife_176 : decode cL_isLife 176 = .ok (.iload 7, 2) := by decide +kernel
theorem dL_isLife_178 : decode cL_isLife 178 = .ok (.iconst 3, 1) := by decide +kernel
theorem dL_isLife_179 : decode cL_isLife 179 = .ok (.invokevirtual 15, 3) := by decide +kernel
theorem dL_isLife_182 : decode cL_isLife 182 = .ok (.iadd, 1) := by decide +kernel
theorem dL_isLife_183 : decode cL_isLife 183 = .ok (.istore 4, 2) := by decide +kernel
theorem dL_isLife_185 : decode cL_isLife 185 = .ok (.iload 5, 2) := by decide +kernel
theorem dL_isLife_187 : decode cL_isLife 187 = .ok (.iconst 1, 1) := by decide +kernel
theorem dL_isLife_188 : decode cL_isLife 188 = .ok (.iload 8, 2) := by decide +kernel
theorem dL_isLife_190 : decode cL_isLife 190 = .ok (.ishl, 1) := by decide +kernel
theorem dL_isLife_191 : decode cL_isLife 191 = .ok (.ior, 1) := by decide +kernel
theorem dL_isLife_192 : decode cL_isLife 192 = .ok (.istore 5, 2) := by decide +kernel
theorem dL_isLife_194 : decode cL_isLife 194 = .ok (.iinc 7 1, 3) := by decide +kernel
theorem dL_isLife_197 : decode cL_isLife 197 = .ok (.goto (-181), 3) := by decide +kernel
theorem dL_isLife_200 : decode cL_isLife 200 = .ok (.iconst 0, 1) := by decide +kernel
theorem dL_isLife_201 : decode cL_isLife 201 = .ok (.istore 7, 2) := by decide +kernel
theorem dL_isLife_203 : decode cL_isLife 203 = .ok (.iconst 0, 1) := by decide +kernel
theorem dL_isLife_204 : decode cL_isLife 204 = .ok (.istore 8, 2) := by decide +kernel
theorem dL_isLife_206 : decode cL_isLife 206 = .ok (.iload 8, 2) := by decide +kernel

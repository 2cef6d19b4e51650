theorem dL_passes_2 : decode cL_passes 2 = .ok (.invokevirtual 23, 3) := by decide +kernel
theorem dL_passes_5 : decode cL_passes 5 = .ok (.istore_n 1, 1) := by decide +kernel
theorem dL_passes_6 : decode cL_passes 6 = .ok (.iconst 0, 1) := by decide +kernel
theorem dL_passes_7 : decode cL_passes 7 = .ok (.istore_n 2, 1) := by decide +kernel
theorem dL_passes_8 : decode cL_passes 8 = .ok (.aload_n 0, 1) := by decide +kernel
theorem dL_passes_9 : decode cL_passes 9 = .ok (.iconst 0, 1) := by decide +kernel
theorem dL_passes_10 : decode cL_passes 10 = .ok (.invokevirtual 48, 3) := by decide +kernel
theorem dL_passes_13 : decode cL_passes 13 = .ok (.istore_n 3, 1) := by decide +kernel
theorem dL_passes_14 : decode cL_passes 14 = .ok (.aload_n 0, 1) := by decide +kernel
theorem dL_passes_15 : decode cL_passes 15 = .ok (.iload_n 2, 1) := by decide +kernel
theorem dL_passes_16 : decode cL_passes 16 = .ok (.invokevirtual 48, 3) := by decide +kernel
theorem dL_passes_19 : decode cL_passes 19 = .ok (.ifCond .lt 9, 3) := by decide +kernel
theorem dL_passes_22 : decode cL_passes 22 = .ok (.iinc 2 1, 3) := by decide +kernel
theorem dL_passes_25 : decode cL_passes 25 = .ok (.goto (-11), 3) := by decide +kernel
theorem dL_passes_28 : decode cL_passes 28 = .ok (.aload_n 0, 1) := by decide +kernel
theorem dL_passes_29 : decode cL_passes 29 = .ok (.bipush 6, 2) := by decide +kernel
theorem dL_passes_31 : decode cL_passes 31 = .ok (.invokevirtual 23, 3) := by decide +kernel
theorem dL_passes_34 : decode cL_passes 34 = .ok (.istore 4, 2) := by decide +kernel
theorem dL_passes_36 : decode cL_passes 36 = .ok (.aload_n 0, 1) := by decide +kernel
theorem dL_passes_37 : decode cL_passes 37 = .ok (.invokevirtual 54, 3) := by decide +kernel
theorem dL_passes_40 : decode cL_passes 40 = .ok (.iload_n 2, 1) := by decide +kernel
theorem dL_passes_41 : decode cL_passes 41 = .ok (.if_icmp .ne 70, 3) := by decide +kernel
theorem dL_passes_44 : decode cL_passes 44 = .ok (.aload_n 0, 1) := by decide +kernel
theorem dL_passes_45 : decode cL_passes 45 = .ok (.iconst 0, 1) := by decide +kernel
theorem dL_passes_46 : decode cL_passes 46 = .ok (.invokevirtual 23, 3) := by decide +kernel
theorem dL_passes_49 : decode cL_passes 49 = .ok (.iload_n 1, 1) := by decide +kernel
theorem dL_passes_50 : decode cL_passes 50 = .ok (.iconst 1, 1) := by decide +kernel
theorem dL_passes_51 : decode cL_passes 51 = .ok (.iadd, 1) := by decide +kernel
theorem dL_passes_52 : decode cL_passes 52 = .ok (.if_icmp .ne 59, 3) := by decide +kernel
theorem dL_passes_55 : decode cL_passes 55 = .ok (.aload_n 0, 1) := by decide +kernel
theorem dL_passes_56 : decode cL_passes 56 = .ok (.bipush 6, 2) := by decide +kernel
theorem dL_passes_58 : decode cL_passes 58 = .ok (.invokevirtual 23, 3) := by decide +kernel
theorem dL_passes_61 : decode cL_passes 61 = .ok (.iload 4, 2) := by decide +kernel
theorem dL_passes_63 : decode cL_passes 63 = .ok (.iload_n 2, 1) := by decide +kernel
theorem dL_passes_64 : decode cL_passes 64 = .ok (.iadd, 1) := by decide +kernel
theorem dL_passes_65 : decode cL_passes 65 = .ok (.if_icmp .ne 46, 3) := by decide +kernel
theorem dL_passes_68 : decode cL_passes 68 = .ok (.aload_n 0, 1) := by decide +kernel
theorem dL_passes_69 : decode cL_passes 69 = .ok (.iconst 2, 1) := by decide +kernel
theorem dL_passes_70 : decode cL_passes 70 = .ok (.invokevirtual 23, 3) := by decide +kernel
theorem dL_passes_73 : decode cL_passes 73 = .ok (.aload_n 0, 1) := by decide +kernel
theorem dL_passes_74 : decode cL_passes 74 = .ok (.bipush 11, 2) := by decide +kernel
theorem dL_passes_76 : decode cL_passes 76 = .ok (.invokevirtual 23, 3) := by decide +kernel
theorem dL_passes_79 : decode cL_passes 79 = .ok (.if_icmp .ne 32, 3) := by decide +kernel
theorem dL_passes_82 : decode cL_passes 82 = .ok (.iload_n 3, 1) := by decide +kernel
theorem dL_passes_83 : decode cL_passes 83 = .ok (.ifCond .lt 24, 3) := by decide +kernel
theorem dL_passes_86 : decode cL_passes 86 = .ok (.aload_n 0, 1) := by decide +kernel
theorem dL_passes_87 : decode cL_passes 87 = .ok (.iload_n 3, 1) := by decide +kernel
theorem dL_passes_88 : decode cL_passes 88 = .ok (.iconst 2, 1) := by decide +kernel
theorem dL_passes_89 : decode cL_passes 89 = .ok (.invokevirtual 9, 3) := by decide +kernel
theorem dL_passes_92 : decode cL_passes 92 = .ok (.iconst 3, 1) := by decide +kernel
theorem dL_passes_93 : decode cL_passes 93 = .ok (.if_icmp .ne 18, 3) := by decide +kernel
theorem dL_passes_96 : decode cL_passes 96 = .ok (.aload_n 0, 1) := by decide +kernel
theorem dL_passes_97 : decode cL_passes 97 = .ok (.iload_n 3, 1) := by decide +kernel
theorem dL_passes_98 : decode cL_passes 98 = .ok (.bipush 9, 2) := by decide +kernel
theorem dL_passes_100 : decode cL_passes 100 = .ok (.invokevirtual 9, 3) := by decide +kernel
theorem dL_passes_103 : decode cL_passes 103 = .ok (.iload_n 1, 1) := by decide +kernel
theorem dL_passes_104 : decode cL_passes 104 = .ok (.if_icmp .ne 7, 3) := by decide +kernel
theorem dL_passes_107 : decode cL_passes 107 = .ok (.iconst 1, 1) := by decide +kernel
theorem dL_passes_108 : decode cL_passes 108 = .ok (.goto 4, 3) := by decide +kernel
theorem dL_passes_111 : decode cL_passes 111 = .ok (.iconst 0, 1) := by decide +kernel
theorem dL_passes_112 : decode cL_passes 112 = .ok (.ireturn, 1) := by decide +kernel
theorem dL_acts_0 : decode cL_acts 0 = .ok (.iload_n 1, 1) := by decide +kernel
theorem dL_acts_1 : decode cL_acts 1 = .ok (.iconst 4, 1) := by decide +kernel
theorem dL_acts_2 : decode cL_acts 2 = .ok (.ishr, 1) := by decide +kernel
theorem dL_acts_3 : decode cL_acts 3 = .ok (.aload_n 0, 1) := by decide +kernel
theorem dL_acts_4 : decode cL_acts 4 = .ok (.iconst 1, 1) := by decide +kernel
theorem dL_acts_5 : decode cL_acts 5 = .ok (.invokevirtual 23, 3) := by decide +kernel
theorem dL_acts_8 : decode cL_acts 8 = .ok (.irem, 1) := by decide +kernel
theorem dL_acts_9 : decode cL_acts 9 = .ok (.istore_n 2, 1) := by decide +kernel
theorem dL_acts_10 : decode cL_acts 10 = .ok (.iload_n 1, 1) := by decide +kernel
theorem dL_acts_11 : decode cL_acts 11 = .ok (.bipush 9, 2) := by decide +kernel
theorem dL_acts_13 : decode cL_acts 13 = .ok (.ishr, 1) := by decide +kernel
theorem dL_acts_14 : decode cL_acts 14 = .ok (.bipush 6, 2) := by decide +kernel
theorem dL_acts_16 : decode cL_acts 16 = .ok (.irem, 1) := by decide +kernel
theorem dL_acts_17 : decode cL_acts 17 = .ok (.istore_n 3, 1) := by decide +kernel
theorem dL_acts_18 : decode cL_acts 18 = .ok (.aload_n 0, 1) := by decide +kernel
theorem dL_acts_19 : decode cL_acts 19 = .ok (.iload_n 2, 1) := by decide +kernel
theorem dL_acts_20 : decode cL_acts 20 = .ok (.iconst 2, 1) := by decide +kernel
theorem dL_acts_21 : decode cL_acts 21 = .ok (.invokevirtual 9, 3) := by decide +kernel
theorem dL_acts_24 : decode cL_acts 24 = .ok (.istore 4, 2) := by decide +kernel
theorem dL_acts_26 : decode cL_acts 26 = .ok (.aload_n 0, 1) := by decide +kernel
theorem dL_acts_27 : decode cL_acts 27 = .ok (.iload_n 2, 1) := by decide +kernel
theorem dL_acts_28 : decode cL_acts 28 = .ok (.iconst 3, 1) := by decide +kernel
theorem dL_acts_29 : decode cL_acts 29 = .ok (.invokevirtual 9, 3) := by decide +kernel
theorem dL_acts_32 : decode cL_acts 32 = .ok (.istore 5, 2) := by decide +kernel
theorem dL_acts_34 : decode cL_acts 34 = .ok (.aload_n 0, 1) := by decide +kernel
theorem dL_acts_35 : decode cL_acts 35 = .ok (.iconst 2, 1) := by decide +kernel
theorem dL_acts_36 : decode cL_acts 36 = .ok (.invokevirtual 23, 3) := by decide +kernel
theorem dL_acts_39 : decode cL_acts 39 = .ok (.istore 6, 2) := by decide +kernel
theorem dL_acts_41 : decode cL_acts 41 = .ok (.iload_n 1, 1) := by decide +kernel
theorem dL_acts_42 : decode cL_acts 42 = .ok (.bipush 8, 2) := by decide +kernel
theorem dL_acts_44 : decode cL_acts 44 = .ok (.irem, 1) := by decide +kernel
theorem dL_acts_45 : decode cL_acts 45 = .ok (.tableswitch 561 0 6 #[43, 43, 155, 308, 315, 402, 452], 43) := by decide +kernel
theorem dL_acts_88 : decode cL_acts 88 = .ok (.iconst 1, 1) := by decide +kernel
theorem dL_acts_89 : decode cL_acts 89 = .ok (.iload_n 1, 1) := by decide +kernel
theorem dL_acts_90 : decode cL_acts 90 = .ok (.bipush 12, 2) := by decide +kernel
theorem dL_acts_92 : decode cL_acts 92 = .ok (.ishr, 1) := by decide +kernel
theorem dL_acts_93 : decode cL_acts 93 = .ok (.iconst 5, 1) := by decide +kernel
theorem dL_acts_94 : decode cL_acts 94 = .ok (.irem, 1) := by decide +kernel
theorem dL_acts_95 : decode cL_acts 95 = .ok (.iadd, 1) := by decide +kernel
theorem dL_acts_96 : decode cL_acts 96 = .ok (.istore 7, 2) := by decide +kernel
theorem dL_acts_98 : decode cL_acts 98 = .ok (.aload_n 0, 1) := by decide +kernel
theorem dL_acts_99 : decode cL_acts 99 = .ok (.iload_n 2, 1) := by decide +kernel
theorem dL_acts_100 : decode cL_acts 100 = .ok (.iload_n 3, 1) := by decide +kernel
theorem dL_acts_101 : decode cL_acts 101 = .ok (.iload 7, 2) := by decide +kernel
theorem dL_acts_103 : decode cL_acts 103 = .ok (.invokevirtual 58, 3) := by decide +kernel
theorem dL_acts_106 : decode cL_acts 106 = .ok (.istore 8, 2) := by decide +kernel
theorem dL_acts_108 : decode cL_acts 108 = .ok (.iload 4, 2) := by decide +kernel
theorem dL_acts_110 : decode cL_acts 110 = .ok (.iconst 3, 1) := by decide +kernel
theorem dL_acts_111 : decode cL_acts 111 = .ok (.if_icmp .ne 18, 3) := by decide +kernel
theorem dL_acts_114 : decode cL_acts 114 = .ok (.iload 8, 2) := by decide +kernel
theorem dL_acts_116 : decode cL_acts 116 = .ok (.bipush (-4), 2) := by decide +kernel
theorem dL_acts_118 : decode cL_acts 118 = .ok (.if_icmp .ne 7, 3) := by decide +kernel
theorem dL_acts_121 : decode cL_acts 121 = .ok (.iconst 1, 1) := by decide +kernel
theorem dL_acts_122 : decode cL_acts 122 = .ok (.goto 77, 3) := by decide +kernel
theorem dL_acts_125 : decode cL_acts 125 = .ok (.iconst 0, 1) := by decide +kernel
theorem dL_acts_126 : decode cL_acts 126 = .ok (.goto 73, 3) := by decide +kernel
theorem dL_acts_129 : decode cL_acts 129 = .ok (.iload 5, 2) := by decide +kernel
theorem dL_acts_131 : decode cL_acts 131 = .ok (.bipush 8, 2) := by decide +kernel
theorem dL_acts_133 : decode cL_acts 133 = .ok (.if_icmp .eq 10, 3) := by decide +kernel
theorem dL_acts_136 : decode cL_acts 136 = .ok (.iload 7, 2) := by decide +kernel
theorem dL_acts_138 : decode cL_acts 138 = .ok (.iload 6, 2) := by decide +kernel
theorem dL_acts_140 : decode cL_acts 140 = .ok (.if_icmp .le 18, 3) := by decide +kernel
theorem dL_acts_143 : decode cL_acts 143 = .ok (.iload 8, 2) := by decide +kernel
theorem dL_acts_145 : decode cL_acts 145 = .ok (.bipush (-3), 2) := by decide +kernel
theorem dL_acts_147 : decode cL_acts 147 = .ok (.if_icmp .ne 7, 3) := by decide +kernel
theorem dL_acts_150 : decode cL_acts 150 = .ok (.iconst 1, 1) := by decide +kernel
theorem dL_acts_151 : decode cL_acts 151 = .ok (.goto 48, 3) := by decide +kernel
theorem dL_acts_154 : decode cL_acts 154 = .ok (.iconst 0, 1) := by decide +kernel
theorem dL_acts_155 : decode cL_acts 155 = .ok (.goto 44, 3) := by decide +kernel
theorem dL_acts_158 : decode cL_acts 158 = .ok (.iload 8, 2) := by decide +kernel
theorem dL_acts_160 : decode cL_acts 160 = .ok (.iload 5, 2) := by decide +kernel
theorem dL_acts_162 : decode cL_acts 162 = .ok (.if_icmp .ne 36, 3) := by decide +kernel
theorem dL_acts_165 : decode cL_acts 165 = .ok (.aload_n 0, 1) := by decide +kernel
theorem dL_acts_166 : decode cL_acts 166 = .ok (.iconst 2, 1) := by decide +kernel
theorem dL_acts_167 : decode cL_acts 167 = .ok (.invokevirtual 23, 3) := by decide +kernel
theorem dL_acts_170 : decode cL_acts 170 = .ok (.iload 6, 2) := by decide +kernel
theorem dL_acts_172 : decode cL_acts 172 = .ok (.iload 7, 2) := by decide +kernel
theorem dL_acts_174 : decode cL_acts 174 = .ok (.isub, 1) := by decide +kernel
theorem dL_acts_175 : decode cL_acts 175 = .ok (.if_icmp .ne 23, 3) := by decide +kernel

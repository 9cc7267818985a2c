/-! the law's own methods: what stands in the bytes -/
theorem dL_leap_0 : decode cL_leap 0 = .ok (.aload_n 0, 1) := by decide +kernel
theorem dL_leap_1 : decode cL_leap 1 = .ok (.iconst 5, 1) := by decide +kernel
theorem dL_leap_2 : decode cL_leap 2 = .ok (.invokevirtual 62, 3) := by decide +kernel
theorem dL_leap_5 : decode cL_leap 5 = .ok (.istore_n 1, 1) := by decide +kernel
theorem dL_leap_6 : decode cL_leap 6 = .ok (.aload_n 0, 1) := by decide +kernel
theorem dL_leap_7 : decode cL_leap 7 = .ok (.iconst 1, 1) := by decide +kernel
theorem dL_leap_8 : decode cL_leap 8 = .ok (.invokevirtual 58, 3) := by decide +kernel
theorem dL_leap_11 : decode cL_leap 11 = .ok (.istore_n 2, 1) := by decide +kernel
theorem dL_leap_12 : decode cL_leap 12 = .ok (.aload_n 0, 1) := by decide +kernel
theorem dL_leap_13 : decode cL_leap 13 = .ok (.iconst 3, 1) := by decide +kernel
theorem dL_leap_14 : decode cL_leap 14 = .ok (.invokevirtual 58, 3) := by decide +kernel
theorem dL_leap_17 : decode cL_leap 17 = .ok (.istore_n 3, 1) := by decide +kernel
theorem dL_leap_18 : decode cL_leap 18 = .ok (.aload_n 0, 1) := by decide +kernel
theorem dL_leap_19 : decode cL_leap 19 = .ok (.iconst 4, 1) := by decide +kernel
theorem dL_leap_20 : decode cL_leap 20 = .ok (.invokevirtual 58, 3) := by decide +kernel
theorem dL_leap_23 : decode cL_leap 23 = .ok (.istore 4, 2) := by decide +kernel
theorem dL_leap_25 : decode cL_leap 25 = .ok (.iconst 0, 1) := by decide +kernel
theorem dL_leap_26 : decode cL_leap 26 = .ok (.istore 5, 2) := by decide +kernel
theorem dL_leap_28 : decode cL_leap 28 = .ok (.iload_n 1, 1) := by decide +kernel
theorem dL_leap_29 : decode cL_leap 29 = .ok (.iload 5, 2) := by decide +kernel
theorem dL_leap_31 : decode cL_leap 31 = .ok (.invokestatic 85, 3) := by decide +kernel
theorem dL_leap_34 : decode cL_leap 34 = .ok (.aload_n 0, 1) := by decide +kernel
theorem dL_leap_35 : decode cL_leap 35 = .ok (.iconst 2, 1) := by decide +kernel
theorem dL_leap_36 : decode cL_leap 36 = .ok (.invokevirtual 58, 3) := by decide +kernel
theorem dL_leap_39 : decode cL_leap 39 = .ok (.if_icmp .eq 9, 3) := by decide +kernel
theorem dL_leap_42 : decode cL_leap 42 = .ok (.iinc 5 1, 3) := by decide +kernel
theorem dL_leap_45 : decode cL_leap 45 = .ok (.goto (-17), 3) := by decide +kernel
theorem dL_leap_48 : decode cL_leap 48 = .ok (.aload_n 0, 1) := by decide +kernel
theorem dL_leap_49 : decode cL_leap 49 = .ok (.iload_n 1, 1) := by decide +kernel
theorem dL_leap_50 : decode cL_leap 50 = .ok (.iload 5, 2) := by decide +kernel
theorem dL_leap_52 : decode cL_leap 52 = .ok (.invokestatic 85, 3) := by decide +kernel
theorem dL_leap_55 : decode cL_leap 55 = .ok (.iconst 2, 1) := by decide +kernel
theorem dL_leap_56 : decode cL_leap 56 = .ok (.invokevirtual 50, 3) := by decide +kernel
theorem dL_leap_59 : decode cL_leap 59 = .ok (.iload_n 2, 1) := by decide +kernel
theorem dL_leap_60 : decode cL_leap 60 = .ok (.if_icmp .lt 14, 3) := by decide +kernel
theorem dL_leap_63 : decode cL_leap 63 = .ok (.iload 5, 2) := by decide +kernel
theorem dL_leap_65 : decode cL_leap 65 = .ok (.iconst 1, 1) := by decide +kernel
theorem dL_leap_66 : decode cL_leap 66 = .ok (.iadd, 1) := by decide +kernel
theorem dL_leap_67 : decode cL_leap 67 = .ok (.iconst 3, 1) := by decide +kernel
theorem dL_leap_68 : decode cL_leap 68 = .ok (.irem, 1) := by decide +kernel
theorem dL_leap_69 : decode cL_leap 69 = .ok (.istore 5, 2) := by decide +kernel
theorem dL_leap_71 : decode cL_leap 71 = .ok (.goto (-23), 3) := by decide +kernel
theorem dL_leap_74 : decode cL_leap 74 = .ok (.iload_n 1, 1) := by decide +kernel
theorem dL_leap_75 : decode cL_leap 75 = .ok (.iload 5, 2) := by decide +kernel
theorem dL_leap_77 : decode cL_leap 77 = .ok (.invokestatic 85, 3) := by decide +kernel
theorem dL_leap_80 : decode cL_leap 80 = .ok (.istore 6, 2) := by decide +kernel
theorem dL_leap_82 : decode cL_leap 82 = .ok (.aload_n 0, 1) := by decide +kernel
theorem dL_leap_83 : decode cL_leap 83 = .ok (.iload 6, 2) := by decide +kernel
theorem dL_leap_85 : decode cL_leap 85 = .ok (.iconst 1, 1) := by decide +kernel
theorem dL_leap_86 : decode cL_leap 86 = .ok (.invokevirtual 50, 3) := by decide +kernel
theorem dL_leap_89 : decode cL_leap 89 = .ok (.istore 7, 2) := by decide +kernel
theorem dL_leap_91 : decode cL_leap 91 = .ok (.aload_n 0, 1) := by decide +kernel
theorem dL_leap_92 : decode cL_leap 92 = .ok (.iload 6, 2) := by decide +kernel
theorem dL_leap_94 : decode cL_leap 94 = .ok (.iconst 0, 1) := by decide +kernel
theorem dL_leap_95 : decode cL_leap 95 = .ok (.invokevirtual 50, 3) := by decide +kernel
theorem dL_leap_98 : decode cL_leap 98 = .ok (.istore 8, 2) := by decide +kernel
theorem dL_leap_100 : decode cL_leap 100 = .ok (.aload_n 0, 1) := by decide +kernel
theorem dL_leap_101 : decode cL_leap 101 = .ok (.iload 6, 2) := by decide +kernel
theorem dL_leap_103 : decode cL_leap 103 = .ok (.iload_n 2, 1) := by decide +kernel
theorem dL_leap_104 : decode cL_leap 104 = .ok (.invokestatic 65, 3) := by decide +kernel
theorem dL_leap_107 : decode cL_leap 107 = .ok (.istore 9, 2) := by decide +kernel
theorem dL_leap_109 : decode cL_leap 109 = .ok (.aload_n 0, 1) := by decide +kernel
theorem dL_leap_110 : decode cL_leap 110 = .ok (.iload 6, 2) := by decide +kernel
theorem dL_leap_112 : decode cL_leap 112 = .ok (.iconst 4, 1) := by decide +kernel
theorem dL_leap_113 : decode cL_leap 113 = .ok (.invokevirtual 50, 3) := by decide +kernel
theorem dL_leap_116 : decode cL_leap 116 = .ok (.istore 10, 2) := by decide +kernel
theorem dL_leap_118 : decode cL_leap 118 = .ok (.aload_n 0, 1) := by decide +kernel
theorem dL_leap_119 : decode cL_leap 119 = .ok (.iload 6, 2) := by decide +kernel
theorem dL_leap_121 : decode cL_leap 121 = .ok (.iconst 3, 1) := by decide +kernel
theorem dL_leap_122 : decode cL_leap 122 = .ok (.invokevirtual 50, 3) := by decide +kernel
theorem dL_leap_125 : decode cL_leap 125 = .ok (.istore 11, 2) := by decide +kernel
theorem dL_leap_127 : decode cL_leap 127 = .ok (.aload_n 0, 1) := by decide +kernel
theorem dL_leap_128 : decode cL_leap 128 = .ok (.iload 6, 2) := by decide +kernel
theorem dL_leap_130 : decode cL_leap 130 = .ok (.iconst 2, 1) := by decide +kernel
theorem dL_leap_131 : decode cL_leap 131 = .ok (.invokevirtual 50, 3) := by decide +kernel
theorem dL_leap_134 : decode cL_leap 134 = .ok (.istore 12, 2) := by decide +kernel
theorem dL_leap_136 : decode cL_leap 136 = .ok (.aload_n 0, 1) := by decide +kernel
theorem dL_leap_137 : decode cL_leap 137 = .ok (.iload 6, 2) := by decide +kernel
theorem dL_leap_139 : decode cL_leap 139 = .ok (.bipush 6, 2) := by decide +kernel
theorem dL_leap_141 : decode cL_leap 141 = .ok (.invokevirtual 50, 3) := by decide +kernel
theorem dL_leap_144 : decode cL_leap 144 = .ok (.istore 13, 2) := by decide +kernel
theorem dL_leap_146 : decode cL_leap 146 = .ok (.iconst 0, 1) := by decide +kernel
theorem dL_leap_147 : decode cL_leap 147 = .ok (.istore 14, 2) := by decide +kernel
theorem dL_leap_149 : decode cL_leap 149 = .ok (.aload_n 0, 1) := by decide +kernel
theorem dL_leap_150 : decode cL_leap 150 = .ok (.iconst 4, 1) := by decide +kernel
theorem dL_leap_151 : decode cL_leap 151 = .ok (.invokevirtual 62, 3) := by decide +kernel
theorem dL_leap_154 : decode cL_leap 154 = .ok (.ifCond .ne 30, 3) := by decide +kernel
theorem dL_leap_157 : decode cL_leap 157 = .ok (.iload 9, 2) := by decide +kernel
theorem dL_leap_159 : decode cL_leap 159 = .ok (.iload 8, 2) := by decide +kernel
theorem dL_leap_161 : decode cL_leap 161 = .ok (.if_icmp .ge 11, 3) := by decide +kernel
theorem dL_leap_164 : decode cL_leap 164 = .ok (.iload 9, 2) := by decide +kernel
theorem dL_leap_166 : decode cL_leap 166 = .ok (.iload 7, 2) := by decide +kernel
theorem dL_leap_168 : decode cL_leap 168 = .ok (.isub, 1) := by decide +kernel
theorem dL_leap_169 : decode cL_leap 169 = .ok (.goto 10, 3) := by decide +kernel
theorem dL_leap_172 : decode cL_leap 172 = .ok (.iload 8, 2) := by decide +kernel
theorem dL_leap_174 : decode cL_leap 174 = .ok (.iconst 1, 1) := by decide +kernel
theorem dL_leap_175 : decode cL_leap 175 = .ok (.isub, 1) := by decide +kernel
theorem dL_leap_176 : decode cL_leap 176 = .ok (.iload 7, 2) := by decide +kernel
theorem dL_leap_178 : decode cL_leap 178 = .ok (.isub, 1) := by decide +kernel
theorem dL_leap_179 : decode cL_leap 179 = .ok (.istore 14, 2) := by decide +kernel
theorem dL_leap_181 : decode cL_leap 181 = .ok (.goto 128, 3) := by decide +kernel
theorem dL_leap_184 : decode cL_leap 184 = .ok (.iload 7, 2) := by decide +kernel
theorem dL_leap_186 : decode cL_leap 186 = .ok (.istore 15, 2) := by decide +kernel
theorem dL_leap_188 : decode cL_leap 188 = .ok (.iload 8, 2) := by decide +kernel
theorem dL_leap_190 : decode cL_leap 190 = .ok (.istore 16, 2) := by decide +kernel
theorem dL_leap_192 : decode cL_leap 192 = .ok (.aload_n 0, 1) := by decide +kernel
theorem dL_leap_193 : decode cL_leap 193 = .ok (.iconst 4, 1) := by decide +kernel
theorem dL_leap_194 : decode cL_leap 194 = .ok (.invokevirtual 62, 3) := by decide +kernel
theorem dL_leap_197 : decode cL_leap 197 = .ok (.iconst 1, 1) := by decide +kernel
theorem dL_leap_198 : decode cL_leap 198 = .ok (.if_icmp .ne 63, 3) := by decide +kernel

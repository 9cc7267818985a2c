/-! the law's own methods: what stands in the bytes -/
theorem dL_text_0 : decode cL_text 0 = .ok (.iload_n 1, 1) := by decide +kernel
theorem dL_text_1 : decode cL_text 1 = .ok (.iconst 3, 1) := by decide +kernel
theorem dL_text_2 : decode cL_text 2 = .ok (.invokestatic 22, 3) := by decide +kernel
theorem dL_text_5 : decode cL_text 5 = .ok (.istore_n 3, 1) := by decide +kernel
theorem dL_text_6 : decode cL_text 6 = .ok (.iload_n 1, 1) := by decide +kernel
theorem dL_text_7 : decode cL_text 7 = .ok (.iconst 2, 1) := by decide +kernel
theorem dL_text_8 : decode cL_text 8 = .ok (.ishr, 1) := by decide +kernel
theorem dL_text_9 : decode cL_text 9 = .ok (.bipush 10, 2) := by decide +kernel
theorem dL_text_11 : decode cL_text 11 = .ok (.invokestatic 22, 3) := by decide +kernel
theorem dL_text_14 : decode cL_text 14 = .ok (.istore 4, 2) := by decide +kernel
theorem dL_text_16 : decode cL_text 16 = .ok (.bipush 10, 2) := by decide +kernel
theorem dL_text_18 : decode cL_text 18 = .ok (.iload_n 1, 1) := by decide +kernel
theorem dL_text_19 : decode cL_text 19 = .ok (.bipush 6, 2) := by decide +kernel
theorem dL_text_21 : decode cL_text 21 = .ok (.ishr, 1) := by decide +kernel
theorem dL_text_22 : decode cL_text 22 = .ok (.iconst 4, 1) := by decide +kernel
theorem dL_text_23 : decode cL_text 23 = .ok (.invokestatic 22, 3) := by decide +kernel
theorem dL_text_26 : decode cL_text 26 = .ok (.iadd, 1) := by decide +kernel
theorem dL_text_27 : decode cL_text 27 = .ok (.istore 5, 2) := by decide +kernel
theorem dL_text_29 : decode cL_text 29 = .ok (.iconst 1, 1) := by decide +kernel
theorem dL_text_30 : decode cL_text 30 = .ok (.iload_n 1, 1) := by decide +kernel
theorem dL_text_31 : decode cL_text 31 = .ok (.bipush 8, 2) := by decide +kernel
theorem dL_text_33 : decode cL_text 33 = .ok (.ishr, 1) := by decide +kernel
theorem dL_text_34 : decode cL_text 34 = .ok (.bipush 9, 2) := by decide +kernel
theorem dL_text_36 : decode cL_text 36 = .ok (.invokestatic 22, 3) := by decide +kernel
theorem dL_text_39 : decode cL_text 39 = .ok (.iadd, 1) := by decide +kernel
theorem dL_text_40 : decode cL_text 40 = .ok (.istore 6, 2) := by decide +kernel
theorem dL_text_42 : decode cL_text 42 = .ok (.iload_n 1, 1) := by decide +kernel
theorem dL_text_43 : decode cL_text 43 = .ok (.bipush 12, 2) := by decide +kernel
theorem dL_text_45 : decode cL_text 45 = .ok (.ishr, 1) := by decide +kernel
theorem dL_text_46 : decode cL_text 46 = .ok (.bipush 10, 2) := by decide +kernel
theorem dL_text_48 : decode cL_text 48 = .ok (.invokestatic 22, 3) := by decide +kernel
theorem dL_text_51 : decode cL_text 51 = .ok (.istore 7, 2) := by decide +kernel
theorem dL_text_53 : decode cL_text 53 = .ok (.iload_n 2, 1) := by decide +kernel
theorem dL_text_54 : decode cL_text 54 = .ok (.bipush 10, 2) := by decide +kernel
theorem dL_text_56 : decode cL_text 56 = .ok (.invokestatic 22, 3) := by decide +kernel
theorem dL_text_59 : decode cL_text 59 = .ok (.istore 8, 2) := by decide +kernel
theorem dL_text_61 : decode cL_text 61 = .ok (.bipush 10, 2) := by decide +kernel
theorem dL_text_63 : decode cL_text 63 = .ok (.iload_n 2, 1) := by decide +kernel
theorem dL_text_64 : decode cL_text 64 = .ok (.iconst 4, 1) := by decide +kernel
theorem dL_text_65 : decode cL_text 65 = .ok (.ishr, 1) := by decide +kernel
theorem dL_text_66 : decode cL_text 66 = .ok (.bipush 60, 2) := by decide +kernel
theorem dL_text_68 : decode cL_text 68 = .ok (.invokestatic 22, 3) := by decide +kernel
theorem dL_text_71 : decode cL_text 71 = .ok (.iadd, 1) := by decide +kernel
theorem dL_text_72 : decode cL_text 72 = .ok (.istore 9, 2) := by decide +kernel
theorem dL_text_74 : decode cL_text 74 = .ok (.iload_n 2, 1) := by decide +kernel
theorem dL_text_75 : decode cL_text 75 = .ok (.bipush 10, 2) := by decide +kernel
theorem dL_text_77 : decode cL_text 77 = .ok (.ishr, 1) := by decide +kernel
theorem dL_text_78 : decode cL_text 78 = .ok (.iconst 2, 1) := by decide +kernel
theorem dL_text_79 : decode cL_text 79 = .ok (.invokestatic 22, 3) := by decide +kernel
theorem dL_text_82 : decode cL_text 82 = .ok (.ifCond .ne 7, 3) := by decide +kernel
theorem dL_text_85 : decode cL_text 85 = .ok (.iconst 1, 1) := by decide +kernel
theorem dL_text_86 : decode cL_text 86 = .ok (.goto 4, 3) := by decide +kernel
theorem dL_text_89 : decode cL_text 89 = .ok (.iconst 0, 1) := by decide +kernel
theorem dL_text_90 : decode cL_text 90 = .ok (.istore 10, 2) := by decide +kernel
theorem dL_text_92 : decode cL_text 92 = .ok (.aload_n 0, 1) := by decide +kernel
theorem dL_text_93 : decode cL_text 93 = .ok (.invokevirtual 106, 3) := by decide +kernel
theorem dL_text_96 : decode cL_text 96 = .ok (.pop, 1) := by decide +kernel
theorem dL_text_97 : decode cL_text 97 = .ok (.aload_n 0, 1) := by decide +kernel
theorem dL_text_98 : decode cL_text 98 = .ok (.bipush 48, 2) := by decide +kernel
theorem dL_text_100 : decode cL_text 100 = .ok (.iload_n 3, 1) := by decide +kernel
theorem dL_text_101 : decode cL_text 101 = .ok (.iadd, 1) := by decide +kernel
theorem dL_text_102 : decode cL_text 102 = .ok (.bipush 58, 2) := by decide +kernel
theorem dL_text_104 : decode cL_text 104 = .ok (.bipush 48, 2) := by decide +kernel
theorem dL_text_106 : decode cL_text 106 = .ok (.iload 4, 2) := by decide +kernel
theorem dL_text_108 : decode cL_text 108 = .ok (.iadd, 1) := by decide +kernel
theorem dL_text_109 : decode cL_text 109 = .ok (.bipush 45, 2) := by decide +kernel
theorem dL_text_111 : decode cL_text 111 = .ok (.bipush 48, 2) := by decide +kernel
theorem dL_text_113 : decode cL_text 113 = .ok (.iload 5, 2) := by decide +kernel
theorem dL_text_115 : decode cL_text 115 = .ok (.bipush 10, 2) := by decide +kernel
theorem dL_text_117 : decode cL_text 117 = .ok (.idiv, 1) := by decide +kernel
theorem dL_text_118 : decode cL_text 118 = .ok (.iadd, 1) := by decide +kernel
theorem dL_text_119 : decode cL_text 119 = .ok (.bipush 48, 2) := by decide +kernel
theorem dL_text_121 : decode cL_text 121 = .ok (.iload 5, 2) := by decide +kernel
theorem dL_text_123 : decode cL_text 123 = .ok (.bipush 10, 2) := by decide +kernel
theorem dL_text_125 : decode cL_text 125 = .ok (.irem, 1) := by decide +kernel
theorem dL_text_126 : decode cL_text 126 = .ok (.iadd, 1) := by decide +kernel
theorem dL_text_127 : decode cL_text 127 = .ok (.bipush 42, 2) := by decide +kernel
theorem dL_text_129 : decode cL_text 129 = .ok (.bipush 48, 2) := by decide +kernel
theorem dL_text_131 : decode cL_text 131 = .ok (.iload 6, 2) := by decide +kernel
theorem dL_text_133 : decode cL_text 133 = .ok (.iadd, 1) := by decide +kernel
theorem dL_text_134 : decode cL_text 134 = .ok (.invokestatic 109, 3) := by decide +kernel
theorem dL_text_137 : decode cL_text 137 = .ok (.ifCond .eq 86, 3) := by decide +kernel
theorem dL_text_140 : decode cL_text 140 = .ok (.aload_n 0, 1) := by decide +kernel
theorem dL_text_141 : decode cL_text 141 = .ok (.bipush 44, 2) := by decide +kernel
theorem dL_text_143 : decode cL_text 143 = .ok (.bipush 48, 2) := by decide +kernel
theorem dL_text_145 : decode cL_text 145 = .ok (.iload 7, 2) := by decide +kernel
theorem dL_text_147 : decode cL_text 147 = .ok (.iadd, 1) := by decide +kernel
theorem dL_text_148 : decode cL_text 148 = .ok (.bipush 59, 2) := by decide +kernel
theorem dL_text_150 : decode cL_text 150 = .ok (.bipush 102, 2) := by decide +kernel
theorem dL_text_152 : decode cL_text 152 = .ok (.bipush 42, 2) := by decide +kernel
theorem dL_text_154 : decode cL_text 154 = .ok (.bipush 58, 2) := by decide +kernel
theorem dL_text_156 : decode cL_text 156 = .ok (.bipush 48, 2) := by decide +kernel
theorem dL_text_158 : decode cL_text 158 = .ok (.iload 8, 2) := by decide +kernel
theorem dL_text_160 : decode cL_text 160 = .ok (.iadd, 1) := by decide +kernel
theorem dL_text_161 : decode cL_text 161 = .ok (.bipush 45, 2) := by decide +kernel
theorem dL_text_163 : decode cL_text 163 = .ok (.invokestatic 109, 3) := by decide +kernel
theorem dL_text_166 : decode cL_text 166 = .ok (.ifCond .eq 57, 3) := by decide +kernel
theorem dL_text_169 : decode cL_text 169 = .ok (.aload_n 0, 1) := by decide +kernel
theorem dL_text_170 : decode cL_text 170 = .ok (.bipush 48, 2) := by decide +kernel
theorem dL_text_172 : decode cL_text 172 = .ok (.iload 9, 2) := by decide +kernel
theorem dL_text_174 : decode cL_text 174 = .ok (.bipush 10, 2) := by decide +kernel
theorem dL_text_176 : decode cL_text 176 = .ok (.idiv, 1) := by decide +kernel
theorem dL_text_177 : decode cL_text 177 = .ok (.iadd, 1) := by decide +kernel
theorem dL_text_178 : decode cL_text 178 = .ok (.bipush 48, 2) := by decide +kernel
theorem dL_text_180 : decode cL_text 180 = .ok (.iload 9, 2) := by decide +kernel
theorem dL_text_182 : decode cL_text 182 = .ok (.bipush 10, 2) := by decide +kernel
theorem dL_text_184 : decode cL_text 184 = .ok (.irem, 1) := by decide +kernel
theorem dL_text_185 : decode cL_text 185 = .ok (.iadd, 1) := by decide +kernel
theorem dL_text_186 : decode cL_text 186 = .ok (.bipush 59, 2) := by decide +kernel
theorem dL_text_188 : decode cL_text 188 = .ok (.iload 10, 2) := by decide +kernel

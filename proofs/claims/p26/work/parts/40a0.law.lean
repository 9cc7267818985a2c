/-! the law's own methods: what stands in the bytes -/
theorem dL_refused_0 : decode cL_refused 0 = .ok (.iload_n 1, 1) := by decide +kernel
theorem dL_refused_1 : decode cL_refused 1 = .ok (.iconst 2, 1) := by decide +kernel
theorem dL_refused_2 : decode cL_refused 2 = .ok (.invokestatic 22, 3) := by decide +kernel
theorem dL_refused_5 : decode cL_refused 5 = .ok (.ifCond .ne 17, 3) := by decide +kernel
theorem dL_refused_8 : decode cL_refused 8 = .ok (.bipush (-7), 2) := by decide +kernel
theorem dL_refused_10 : decode cL_refused 10 = .ok (.iload_n 1, 1) := by decide +kernel
theorem dL_refused_11 : decode cL_refused 11 = .ok (.iconst 1, 1) := by decide +kernel
theorem dL_refused_12 : decode cL_refused 12 = .ok (.ishr, 1) := by decide +kernel
theorem dL_refused_13 : decode cL_refused 13 = .ok (.ldc 144, 2) := by decide +kernel
theorem dL_refused_15 : decode cL_refused 15 = .ok (.invokestatic 22, 3) := by decide +kernel
theorem dL_refused_18 : decode cL_refused 18 = .ok (.isub, 1) := by decide +kernel
theorem dL_refused_19 : decode cL_refused 19 = .ok (.goto 15, 3) := by decide +kernel
theorem dL_refused_22 : decode cL_refused 22 = .ok (.sipush 300, 3) := by decide +kernel
theorem dL_refused_25 : decode cL_refused 25 = .ok (.iload_n 1, 1) := by decide +kernel
theorem dL_refused_26 : decode cL_refused 26 = .ok (.iconst 1, 1) := by decide +kernel
theorem dL_refused_27 : decode cL_refused 27 = .ok (.ishr, 1) := by decide +kernel
theorem dL_refused_28 : decode cL_refused 28 = .ok (.ldc 144, 2) := by decide +kernel
theorem dL_refused_30 : decode cL_refused 30 = .ok (.invokestatic 22, 3) := by decide +kernel
theorem dL_refused_33 : decode cL_refused 33 = .ok (.iadd, 1) := by decide +kernel
theorem dL_refused_34 : decode cL_refused 34 = .ok (.istore_n 2, 1) := by decide +kernel
theorem dL_refused_35 : decode cL_refused 35 = .ok (.aload_n 0, 1) := by decide +kernel
theorem dL_refused_36 : decode cL_refused 36 = .ok (.iload_n 2, 1) := by decide +kernel
theorem dL_refused_37 : decode cL_refused 37 = .ok (.iconst 0, 1) := by decide +kernel
theorem dL_refused_38 : decode cL_refused 38 = .ok (.invokevirtual 26, 3) := by decide +kernel
theorem dL_refused_41 : decode cL_refused 41 = .ok (.bipush (-2), 2) := by decide +kernel
theorem dL_refused_43 : decode cL_refused 43 = .ok (.if_icmp .ne 344, 3) := by decide +kernel
theorem dL_refused_46 : decode cL_refused 46 = .ok (.aload_n 0, 1) := by decide +kernel
theorem dL_refused_47 : decode cL_refused 47 = .ok (.iconst 0, 1) := by decide +kernel
theorem dL_refused_48 : decode cL_refused 48 = .ok (.iload_n 2, 1) := by decide +kernel
theorem dL_refused_49 : decode cL_refused 49 = .ok (.invokevirtual 26, 3) := by decide +kernel
theorem dL_refused_52 : decode cL_refused 52 = .ok (.bipush (-2), 2) := by decide +kernel
theorem dL_refused_54 : decode cL_refused 54 = .ok (.if_icmp .ne 333, 3) := by decide +kernel
theorem dL_refused_57 : decode cL_refused 57 = .ok (.aload_n 0, 1) := by decide +kernel
theorem dL_refused_58 : decode cL_refused 58 = .ok (.iconst 3, 1) := by decide +kernel
theorem dL_refused_59 : decode cL_refused 59 = .ok (.iload_n 2, 1) := by decide +kernel
theorem dL_refused_60 : decode cL_refused 60 = .ok (.invokevirtual 26, 3) := by decide +kernel
theorem dL_refused_63 : decode cL_refused 63 = .ok (.bipush (-2), 2) := by decide +kernel
theorem dL_refused_65 : decode cL_refused 65 = .ok (.if_icmp .ne 322, 3) := by decide +kernel
theorem dL_refused_68 : decode cL_refused 68 = .ok (.aload_n 0, 1) := by decide +kernel
theorem dL_refused_69 : decode cL_refused 69 = .ok (.iload_n 2, 1) := by decide +kernel
theorem dL_refused_70 : decode cL_refused 70 = .ok (.iconst 0, 1) := by decide +kernel
theorem dL_refused_71 : decode cL_refused 71 = .ok (.iconst 1, 1) := by decide +kernel
theorem dL_refused_72 : decode cL_refused 72 = .ok (.invokevirtual 29, 3) := by decide +kernel
theorem dL_refused_75 : decode cL_refused 75 = .ok (.iconst (-1), 1) := by decide +kernel
theorem dL_refused_76 : decode cL_refused 76 = .ok (.if_icmp .ne 311, 3) := by decide +kernel
theorem dL_refused_79 : decode cL_refused 79 = .ok (.aload_n 0, 1) := by decide +kernel
theorem dL_refused_80 : decode cL_refused 80 = .ok (.iconst 0, 1) := by decide +kernel
theorem dL_refused_81 : decode cL_refused 81 = .ok (.iload_n 2, 1) := by decide +kernel
theorem dL_refused_82 : decode cL_refused 82 = .ok (.iconst 1, 1) := by decide +kernel
theorem dL_refused_83 : decode cL_refused 83 = .ok (.invokevirtual 29, 3) := by decide +kernel
theorem dL_refused_86 : decode cL_refused 86 = .ok (.bipush (-2), 2) := by decide +kernel
theorem dL_refused_88 : decode cL_refused 88 = .ok (.if_icmp .ne 299, 3) := by decide +kernel
theorem dL_refused_91 : decode cL_refused 91 = .ok (.aload_n 0, 1) := by decide +kernel
theorem dL_refused_92 : decode cL_refused 92 = .ok (.iconst 0, 1) := by decide +kernel
theorem dL_refused_93 : decode cL_refused 93 = .ok (.iconst 0, 1) := by decide +kernel
theorem dL_refused_94 : decode cL_refused 94 = .ok (.iload_n 2, 1) := by decide +kernel
theorem dL_refused_95 : decode cL_refused 95 = .ok (.invokevirtual 29, 3) := by decide +kernel
theorem dL_refused_98 : decode cL_refused 98 = .ok (.bipush (-2), 2) := by decide +kernel
theorem dL_refused_100 : decode cL_refused 100 = .ok (.if_icmp .ne 287, 3) := by decide +kernel
theorem dL_refused_103 : decode cL_refused 103 = .ok (.aload_n 0, 1) := by decide +kernel
theorem dL_refused_104 : decode cL_refused 104 = .ok (.iload_n 2, 1) := by decide +kernel
theorem dL_refused_105 : decode cL_refused 105 = .ok (.iconst 0, 1) := by decide +kernel
theorem dL_refused_106 : decode cL_refused 106 = .ok (.iconst 1, 1) := by decide +kernel
theorem dL_refused_107 : decode cL_refused 107 = .ok (.invokevirtual 72, 3) := by decide +kernel
theorem dL_refused_110 : decode cL_refused 110 = .ok (.iconst (-1), 1) := by decide +kernel
theorem dL_refused_111 : decode cL_refused 111 = .ok (.if_icmp .ne 276, 3) := by decide +kernel
theorem dL_refused_114 : decode cL_refused 114 = .ok (.aload_n 0, 1) := by decide +kernel
theorem dL_refused_115 : decode cL_refused 115 = .ok (.iconst 0, 1) := by decide +kernel
theorem dL_refused_116 : decode cL_refused 116 = .ok (.iload_n 2, 1) := by decide +kernel
theorem dL_refused_117 : decode cL_refused 117 = .ok (.iload_n 2, 1) := by decide +kernel
theorem dL_refused_118 : decode cL_refused 118 = .ok (.invokevirtual 72, 3) := by decide +kernel
theorem dL_refused_121 : decode cL_refused 121 = .ok (.bipush (-2), 2) := by decide +kernel
theorem dL_refused_123 : decode cL_refused 123 = .ok (.if_icmp .ne 264, 3) := by decide +kernel
theorem dL_refused_126 : decode cL_refused 126 = .ok (.aload_n 0, 1) := by decide +kernel
theorem dL_refused_127 : decode cL_refused 127 = .ok (.bipush (-6), 2) := by decide +kernel
theorem dL_refused_129 : decode cL_refused 129 = .ok (.iconst 0, 1) := by decide +kernel
theorem dL_refused_130 : decode cL_refused 130 = .ok (.iload_n 2, 1) := by decide +kernel
theorem dL_refused_131 : decode cL_refused 131 = .ok (.invokevirtual 72, 3) := by decide +kernel
theorem dL_refused_134 : decode cL_refused 134 = .ok (.bipush (-2), 2) := by decide +kernel
theorem dL_refused_136 : decode cL_refused 136 = .ok (.if_icmp .ne 251, 3) := by decide +kernel
theorem dL_refused_139 : decode cL_refused 139 = .ok (.aload_n 0, 1) := by decide +kernel
theorem dL_refused_140 : decode cL_refused 140 = .ok (.invokevirtual 78, 3) := by decide +kernel
theorem dL_refused_143 : decode cL_refused 143 = .ok (.bipush (-5), 2) := by decide +kernel
theorem dL_refused_145 : decode cL_refused 145 = .ok (.if_icmp .ne 242, 3) := by decide +kernel
theorem dL_refused_148 : decode cL_refused 148 = .ok (.aload_n 0, 1) := by decide +kernel
theorem dL_refused_149 : decode cL_refused 149 = .ok (.invokevirtual 88, 3) := by decide +kernel
theorem dL_refused_152 : decode cL_refused 152 = .ok (.bipush (-5), 2) := by decide +kernel
theorem dL_refused_154 : decode cL_refused 154 = .ok (.if_icmp .ne 233, 3) := by decide +kernel
theorem dL_refused_157 : decode cL_refused 157 = .ok (.aload_n 0, 1) := by decide +kernel
theorem dL_refused_158 : decode cL_refused 158 = .ok (.invokevirtual 91, 3) := by decide +kernel
theorem dL_refused_161 : decode cL_refused 161 = .ok (.bipush (-5), 2) := by decide +kernel
theorem dL_refused_163 : decode cL_refused 163 = .ok (.if_icmp .ne 224, 3) := by decide +kernel
theorem dL_refused_166 : decode cL_refused 166 = .ok (.aload_n 0, 1) := by decide +kernel
theorem dL_refused_167 : decode cL_refused 167 = .ok (.iload_n 2, 1) := by decide +kernel
theorem dL_refused_168 : decode cL_refused 168 = .ok (.iconst 0, 1) := by decide +kernel
theorem dL_refused_169 : decode cL_refused 169 = .ok (.invokevirtual 50, 3) := by decide +kernel
theorem dL_refused_172 : decode cL_refused 172 = .ok (.iconst (-1), 1) := by decide +kernel
theorem dL_refused_173 : decode cL_refused 173 = .ok (.if_icmp .ne 214, 3) := by decide +kernel
theorem dL_refused_176 : decode cL_refused 176 = .ok (.aload_n 0, 1) := by decide +kernel
theorem dL_refused_177 : decode cL_refused 177 = .ok (.iconst 0, 1) := by decide +kernel
theorem dL_refused_178 : decode cL_refused 178 = .ok (.iload_n 2, 1) := by decide +kernel
theorem dL_refused_179 : decode cL_refused 179 = .ok (.invokevirtual 50, 3) := by decide +kernel
theorem dL_refused_182 : decode cL_refused 182 = .ok (.bipush (-2), 2) := by decide +kernel
theorem dL_refused_184 : decode cL_refused 184 = .ok (.if_icmp .ne 203, 3) := by decide +kernel
theorem dL_refused_187 : decode cL_refused 187 = .ok (.aload_n 0, 1) := by decide +kernel
theorem dL_refused_188 : decode cL_refused 188 = .ok (.iconst 0, 1) := by decide +kernel
theorem dL_refused_189 : decode cL_refused 189 = .ok (.iconst 1, 1) := by decide +kernel
theorem dL_refused_190 : decode cL_refused 190 = .ok (.invokevirtual 50, 3) := by decide +kernel
theorem dL_refused_193 : decode cL_refused 193 = .ok (.bipush (-6), 2) := by decide +kernel
theorem dL_refused_195 : decode cL_refused 195 = .ok (.if_icmp .ne 192, 3) := by decide +kernel

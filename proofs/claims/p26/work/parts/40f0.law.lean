/-! the law's own methods: what stands in the bytes -/
theorem dL_comes_0 : decode cL_comes 0 = .ok (.aload_n 0, 1) := by decide +kernel
theorem dL_comes_1 : decode cL_comes 1 = .ok (.invokestatic 116, 3) := by decide +kernel
theorem dL_comes_4 : decode cL_comes 4 = .ok (.lstore_n 3, 1) := by decide +kernel
theorem dL_comes_5 : decode cL_comes 5 = .ok (.iconst 0, 1) := by decide +kernel
theorem dL_comes_6 : decode cL_comes 6 = .ok (.istore 5, 2) := by decide +kernel
theorem dL_comes_8 : decode cL_comes 8 = .ok (.iconst 0, 1) := by decide +kernel
theorem dL_comes_9 : decode cL_comes 9 = .ok (.istore 6, 2) := by decide +kernel
theorem dL_comes_11 : decode cL_comes 11 = .ok (.bipush (-6), 2) := by decide +kernel
theorem dL_comes_13 : decode cL_comes 13 = .ok (.istore 7, 2) := by decide +kernel
theorem dL_comes_15 : decode cL_comes 15 = .ok (.bipush (-6), 2) := by decide +kernel
theorem dL_comes_17 : decode cL_comes 17 = .ok (.istore 8, 2) := by decide +kernel
theorem dL_comes_19 : decode cL_comes 19 = .ok (.bipush (-6), 2) := by decide +kernel
theorem dL_comes_21 : decode cL_comes 21 = .ok (.istore 9, 2) := by decide +kernel
theorem dL_comes_23 : decode cL_comes 23 = .ok (.iconst 0, 1) := by decide +kernel
theorem dL_comes_24 : decode cL_comes 24 = .ok (.istore 10, 2) := by decide +kernel
theorem dL_comes_26 : decode cL_comes 26 = .ok (.iload 10, 2) := by decide +kernel
theorem dL_comes_28 : decode cL_comes 28 = .ok (.aload_n 0, 1) := by decide +kernel
theorem dL_comes_29 : decode cL_comes 29 = .ok (.iconst 0, 1) := by decide +kernel
theorem dL_comes_30 : decode cL_comes 30 = .ok (.iconst 0, 1) := by decide +kernel
theorem dL_comes_31 : decode cL_comes 31 = .ok (.invokevirtual 50, 3) := by decide +kernel
theorem dL_comes_34 : decode cL_comes 34 = .ok (.if_icmp .ge 118, 3) := by decide +kernel
theorem dL_comes_37 : decode cL_comes 37 = .ok (.aload_n 0, 1) := by decide +kernel
theorem dL_comes_38 : decode cL_comes 38 = .ok (.iconst 0, 1) := by decide +kernel
theorem dL_comes_39 : decode cL_comes 39 = .ok (.iload 10, 2) := by decide +kernel
theorem dL_comes_41 : decode cL_comes 41 = .ok (.iconst 0, 1) := by decide +kernel
theorem dL_comes_42 : decode cL_comes 42 = .ok (.invokevirtual 55, 3) := by decide +kernel
theorem dL_comes_45 : decode cL_comes 45 = .ok (.istore 11, 2) := by decide +kernel
theorem dL_comes_47 : decode cL_comes 47 = .ok (.aload_n 0, 1) := by decide +kernel
theorem dL_comes_48 : decode cL_comes 48 = .ok (.iconst 0, 1) := by decide +kernel
theorem dL_comes_49 : decode cL_comes 49 = .ok (.iload 10, 2) := by decide +kernel
theorem dL_comes_51 : decode cL_comes 51 = .ok (.iconst 1, 1) := by decide +kernel
theorem dL_comes_52 : decode cL_comes 52 = .ok (.invokevirtual 55, 3) := by decide +kernel
theorem dL_comes_55 : decode cL_comes 55 = .ok (.aload_n 0, 1) := by decide +kernel
theorem dL_comes_56 : decode cL_comes 56 = .ok (.iconst 1, 1) := by decide +kernel
theorem dL_comes_57 : decode cL_comes 57 = .ok (.iload 11, 2) := by decide +kernel
theorem dL_comes_59 : decode cL_comes 59 = .ok (.invokestatic 69, 3) := by decide +kernel
theorem dL_comes_62 : decode cL_comes 62 = .ok (.imul, 1) := by decide +kernel
theorem dL_comes_63 : decode cL_comes 63 = .ok (.aload_n 0, 1) := by decide +kernel
theorem dL_comes_64 : decode cL_comes 64 = .ok (.iconst 2, 1) := by decide +kernel
theorem dL_comes_65 : decode cL_comes 65 = .ok (.iload 11, 2) := by decide +kernel
theorem dL_comes_67 : decode cL_comes 67 = .ok (.invokestatic 69, 3) := by decide +kernel
theorem dL_comes_70 : decode cL_comes 70 = .ok (.imul, 1) := by decide +kernel
theorem dL_comes_71 : decode cL_comes 71 = .ok (.istore 12, 2) := by decide +kernel
theorem dL_comes_73 : decode cL_comes 73 = .ok (.iload 11, 2) := by decide +kernel
theorem dL_comes_75 : decode cL_comes 75 = .ok (.aload_n 0, 1) := by decide +kernel
theorem dL_comes_76 : decode cL_comes 76 = .ok (.iconst 2, 1) := by decide +kernel
theorem dL_comes_77 : decode cL_comes 77 = .ok (.invokevirtual 62, 3) := by decide +kernel
theorem dL_comes_80 : decode cL_comes 80 = .ok (.if_icmp .lt 66, 3) := by decide +kernel
theorem dL_comes_83 : decode cL_comes 83 = .ok (.iload 11, 2) := by decide +kernel
theorem dL_comes_85 : decode cL_comes 85 = .ok (.aload_n 0, 1) := by decide +kernel
theorem dL_comes_86 : decode cL_comes 86 = .ok (.iconst 3, 1) := by decide +kernel
theorem dL_comes_87 : decode cL_comes 87 = .ok (.invokevirtual 62, 3) := by decide +kernel
theorem dL_comes_90 : decode cL_comes 90 = .ok (.if_icmp .gt 56, 3) := by decide +kernel
theorem dL_comes_93 : decode cL_comes 93 = .ok (.iload 12, 2) := by decide +kernel
theorem dL_comes_95 : decode cL_comes 95 = .ok (.ifCond .ne 6, 3) := by decide +kernel
theorem dL_comes_98 : decode cL_comes 98 = .ok (.goto 48, 3) := by decide +kernel
theorem dL_comes_101 : decode cL_comes 101 = .ok (.iload 7, 2) := by decide +kernel
theorem dL_comes_103 : decode cL_comes 103 = .ok (.ifCond .ge 7, 3) := by decide +kernel
theorem dL_comes_106 : decode cL_comes 106 = .ok (.iload 11, 2) := by decide +kernel
theorem dL_comes_108 : decode cL_comes 108 = .ok (.istore 7, 2) := by decide +kernel
theorem dL_comes_110 : decode cL_comes 110 = .ok (.iload 8, 2) := by decide +kernel
theorem dL_comes_112 : decode cL_comes 112 = .ok (.ifCond .lt 20, 3) := by decide +kernel
theorem dL_comes_115 : decode cL_comes 115 = .ok (.iload 11, 2) := by decide +kernel
theorem dL_comes_117 : decode cL_comes 117 = .ok (.iload 8, 2) := by decide +kernel
theorem dL_comes_119 : decode cL_comes 119 = .ok (.isub, 1) := by decide +kernel
theorem dL_comes_120 : decode cL_comes 120 = .ok (.iload 9, 2) := by decide +kernel
theorem dL_comes_122 : decode cL_comes 122 = .ok (.if_icmp .le 10, 3) := by decide +kernel
theorem dL_comes_125 : decode cL_comes 125 = .ok (.iload 11, 2) := by decide +kernel
theorem dL_comes_127 : decode cL_comes 127 = .ok (.iload 8, 2) := by decide +kernel
theorem dL_comes_129 : decode cL_comes 129 = .ok (.isub, 1) := by decide +kernel
theorem dL_comes_130 : decode cL_comes 130 = .ok (.istore 9, 2) := by decide +kernel
theorem dL_comes_132 : decode cL_comes 132 = .ok (.iload 11, 2) := by decide +kernel
theorem dL_comes_134 : decode cL_comes 134 = .ok (.istore 8, 2) := by decide +kernel
theorem dL_comes_136 : decode cL_comes 136 = .ok (.iinc 5 1, 3) := by decide +kernel
theorem dL_comes_139 : decode cL_comes 139 = .ok (.iload 6, 2) := by decide +kernel
theorem dL_comes_141 : decode cL_comes 141 = .ok (.iload 12, 2) := by decide +kernel
theorem dL_comes_143 : decode cL_comes 143 = .ok (.iadd, 1) := by decide +kernel
theorem dL_comes_144 : decode cL_comes 144 = .ok (.istore 6, 2) := by decide +kernel
theorem dL_comes_146 : decode cL_comes 146 = .ok (.iinc 10 1, 3) := by decide +kernel
theorem dL_comes_149 : decode cL_comes 149 = .ok (.goto (-123), 3) := by decide +kernel
theorem dL_comes_152 : decode cL_comes 152 = .ok (.aload_n 0, 1) := by decide +kernel
theorem dL_comes_153 : decode cL_comes 153 = .ok (.iconst 0, 1) := by decide +kernel
theorem dL_comes_154 : decode cL_comes 154 = .ok (.invokevirtual 126, 3) := by decide +kernel
theorem dL_comes_157 : decode cL_comes 157 = .ok (.iload 5, 2) := by decide +kernel
theorem dL_comes_159 : decode cL_comes 159 = .ok (.if_icmp .ne 43, 3) := by decide +kernel
theorem dL_comes_162 : decode cL_comes 162 = .ok (.aload_n 0, 1) := by decide +kernel
theorem dL_comes_163 : decode cL_comes 163 = .ok (.iconst 1, 1) := by decide +kernel
theorem dL_comes_164 : decode cL_comes 164 = .ok (.invokevirtual 126, 3) := by decide +kernel
theorem dL_comes_167 : decode cL_comes 167 = .ok (.iload 6, 2) := by decide +kernel
theorem dL_comes_169 : decode cL_comes 169 = .ok (.if_icmp .ne 33, 3) := by decide +kernel
theorem dL_comes_172 : decode cL_comes 172 = .ok (.aload_n 0, 1) := by decide +kernel
theorem dL_comes_173 : decode cL_comes 173 = .ok (.iconst 2, 1) := by decide +kernel
theorem dL_comes_174 : decode cL_comes 174 = .ok (.invokevirtual 126, 3) := by decide +kernel
theorem dL_comes_177 : decode cL_comes 177 = .ok (.iload 7, 2) := by decide +kernel
theorem dL_comes_179 : decode cL_comes 179 = .ok (.if_icmp .ne 23, 3) := by decide +kernel
theorem dL_comes_182 : decode cL_comes 182 = .ok (.aload_n 0, 1) := by decide +kernel
theorem dL_comes_183 : decode cL_comes 183 = .ok (.iconst 3, 1) := by decide +kernel
theorem dL_comes_184 : decode cL_comes 184 = .ok (.invokevirtual 126, 3) := by decide +kernel
theorem dL_comes_187 : decode cL_comes 187 = .ok (.iload 8, 2) := by decide +kernel
theorem dL_comes_189 : decode cL_comes 189 = .ok (.if_icmp .ne 13, 3) := by decide +kernel
theorem dL_comes_192 : decode cL_comes 192 = .ok (.aload_n 0, 1) := by decide +kernel
theorem dL_comes_193 : decode cL_comes 193 = .ok (.iconst 4, 1) := by decide +kernel
theorem dL_comes_194 : decode cL_comes 194 = .ok (.invokevirtual 126, 3) := by decide +kernel
theorem dL_comes_197 : decode cL_comes 197 = .ok (.iload 9, 2) := by decide +kernel
theorem dL_comes_199 : decode cL_comes 199 = .ok (.if_icmp .eq 5, 3) := by decide +kernel
theorem dL_comes_202 : decode cL_comes 202 = .ok (.iconst 0, 1) := by decide +kernel
theorem dL_comes_203 : decode cL_comes 203 = .ok (.ireturn, 1) := by decide +kernel
theorem dL_comes_204 : decode cL_comes 204 = .ok (.iconst (-1), 1) := by decide +kernel
theorem dL_comes_205 : decode cL_comes 205 = .ok (.istore 10, 2) := by decide +kernel
theorem dL_comes_207 : decode cL_comes 207 = .ok (.iconst 0, 1) := by decide +kernel

/-! the law's own methods: what stands in the bytes -/
theorem dL_act_0 : decode cL_act 0 = .ok (.iload_n 3, 1) := by decide +kernel
theorem dL_act_1 : decode cL_act 1 = .ok (.iconst 3, 1) := by decide +kernel
theorem dL_act_2 : decode cL_act 2 = .ok (.invokestatic 22, 3) := by decide +kernel
theorem dL_act_5 : decode cL_act 5 = .ok (.istore 5, 2) := by decide +kernel
theorem dL_act_7 : decode cL_act 7 = .ok (.iload_n 3, 1) := by decide +kernel
theorem dL_act_8 : decode cL_act 8 = .ok (.iconst 2, 1) := by decide +kernel
theorem dL_act_9 : decode cL_act 9 = .ok (.ishr, 1) := by decide +kernel
theorem dL_act_10 : decode cL_act 10 = .ok (.iload_n 1, 1) := by decide +kernel
theorem dL_act_11 : decode cL_act 11 = .ok (.invokestatic 22, 3) := by decide +kernel
theorem dL_act_14 : decode cL_act 14 = .ok (.istore 6, 2) := by decide +kernel
theorem dL_act_16 : decode cL_act 16 = .ok (.iload_n 2, 1) := by decide +kernel
theorem dL_act_17 : decode cL_act 17 = .ok (.bipush 16, 2) := by decide +kernel
theorem dL_act_19 : decode cL_act 19 = .ok (.invokestatic 22, 3) := by decide +kernel
theorem dL_act_22 : decode cL_act 22 = .ok (.tableswitch 900 0 13 #[70, 70, 70, 70, 190, 190, 278, 395, 686, 686, 686, 686, 723, 792], 70) := by decide +kernel
theorem dL_act_92 : decode cL_act 92 = .ok (.aload_n 0, 1) := by decide +kernel
theorem dL_act_93 : decode cL_act 93 = .ok (.iload 5, 2) := by decide +kernel
theorem dL_act_95 : decode cL_act 95 = .ok (.iload 6, 2) := by decide +kernel
theorem dL_act_97 : decode cL_act 97 = .ok (.invokestatic 69, 3) := by decide +kernel
theorem dL_act_100 : decode cL_act 100 = .ok (.istore 7, 2) := by decide +kernel
theorem dL_act_102 : decode cL_act 102 = .ok (.iconst 1, 1) := by decide +kernel
theorem dL_act_103 : decode cL_act 103 = .ok (.iload 4, 2) := by decide +kernel
theorem dL_act_105 : decode cL_act 105 = .ok (.bipush 9, 2) := by decide +kernel
theorem dL_act_107 : decode cL_act 107 = .ok (.invokestatic 22, 3) := by decide +kernel
theorem dL_act_110 : decode cL_act 110 = .ok (.iadd, 1) := by decide +kernel
theorem dL_act_111 : decode cL_act 111 = .ok (.istore 8, 2) := by decide +kernel
theorem dL_act_113 : decode cL_act 113 = .ok (.aload_n 0, 1) := by decide +kernel
theorem dL_act_114 : decode cL_act 114 = .ok (.iload 5, 2) := by decide +kernel
theorem dL_act_116 : decode cL_act 116 = .ok (.iconst 0, 1) := by decide +kernel
theorem dL_act_117 : decode cL_act 117 = .ok (.invokevirtual 50, 3) := by decide +kernel
theorem dL_act_120 : decode cL_act 120 = .ok (.istore 9, 2) := by decide +kernel
theorem dL_act_122 : decode cL_act 122 = .ok (.iload 7, 2) := by decide +kernel
theorem dL_act_124 : decode cL_act 124 = .ok (.ifCond .ne 31, 3) := by decide +kernel
theorem dL_act_127 : decode cL_act 127 = .ok (.iload 9, 2) := by decide +kernel
theorem dL_act_129 : decode cL_act 129 = .ok (.bipush 40, 2) := by decide +kernel
theorem dL_act_131 : decode cL_act 131 = .ok (.if_icmp .ne 24, 3) := by decide +kernel
theorem dL_act_134 : decode cL_act 134 = .ok (.aload_n 0, 1) := by decide +kernel
theorem dL_act_135 : decode cL_act 135 = .ok (.iload 5, 2) := by decide +kernel
theorem dL_act_137 : decode cL_act 137 = .ok (.iload 6, 2) := by decide +kernel
theorem dL_act_139 : decode cL_act 139 = .ok (.iload 8, 2) := by decide +kernel
theorem dL_act_141 : decode cL_act 141 = .ok (.invokevirtual 29, 3) := by decide +kernel
theorem dL_act_144 : decode cL_act 144 = .ok (.bipush (-4), 2) := by decide +kernel
theorem dL_act_146 : decode cL_act 146 = .ok (.if_icmp .ne 7, 3) := by decide +kernel
theorem dL_act_149 : decode cL_act 149 = .ok (.iconst 1, 1) := by decide +kernel
theorem dL_act_150 : decode cL_act 150 = .ok (.goto 4, 3) := by decide +kernel
theorem dL_act_153 : decode cL_act 153 = .ok (.iconst 0, 1) := by decide +kernel
theorem dL_act_154 : decode cL_act 154 = .ok (.ireturn, 1) := by decide +kernel
theorem dL_act_155 : decode cL_act 155 = .ok (.aload_n 0, 1) := by decide +kernel
theorem dL_act_156 : decode cL_act 156 = .ok (.iload 5, 2) := by decide +kernel
theorem dL_act_158 : decode cL_act 158 = .ok (.iload 6, 2) := by decide +kernel
theorem dL_act_160 : decode cL_act 160 = .ok (.iload 8, 2) := by decide +kernel
theorem dL_act_162 : decode cL_act 162 = .ok (.invokevirtual 29, 3) := by decide +kernel
theorem dL_act_165 : decode cL_act 165 = .ok (.iload 7, 2) := by decide +kernel
theorem dL_act_167 : decode cL_act 167 = .ok (.if_icmp .ne 43, 3) := by decide +kernel
theorem dL_act_170 : decode cL_act 170 = .ok (.aload_n 0, 1) := by decide +kernel
theorem dL_act_171 : decode cL_act 171 = .ok (.iload 5, 2) := by decide +kernel
theorem dL_act_173 : decode cL_act 173 = .ok (.iload 6, 2) := by decide +kernel
theorem dL_act_175 : decode cL_act 175 = .ok (.invokestatic 69, 3) := by decide +kernel
theorem dL_act_178 : decode cL_act 178 = .ok (.iload 8, 2) := by decide +kernel
theorem dL_act_180 : decode cL_act 180 = .ok (.if_icmp .ne 30, 3) := by decide +kernel
theorem dL_act_183 : decode cL_act 183 = .ok (.aload_n 0, 1) := by decide +kernel
theorem dL_act_184 : decode cL_act 184 = .ok (.iload 5, 2) := by decide +kernel
theorem dL_act_186 : decode cL_act 186 = .ok (.iconst 0, 1) := by decide +kernel
theorem dL_act_187 : decode cL_act 187 = .ok (.invokevirtual 50, 3) := by decide +kernel
theorem dL_act_190 : decode cL_act 190 = .ok (.iload 9, 2) := by decide +kernel
theorem dL_act_192 : decode cL_act 192 = .ok (.iload 7, 2) := by decide +kernel
theorem dL_act_194 : decode cL_act 194 = .ok (.ifCond .ne 7, 3) := by decide +kernel
theorem dL_act_197 : decode cL_act 197 = .ok (.iconst 1, 1) := by decide +kernel
theorem dL_act_198 : decode cL_act 198 = .ok (.goto 4, 3) := by decide +kernel
theorem dL_act_201 : decode cL_act 201 = .ok (.iconst 0, 1) := by decide +kernel
theorem dL_act_202 : decode cL_act 202 = .ok (.iadd, 1) := by decide +kernel
theorem dL_act_203 : decode cL_act 203 = .ok (.if_icmp .ne 7, 3) := by decide +kernel
theorem dL_act_206 : decode cL_act 206 = .ok (.iconst 1, 1) := by decide +kernel
theorem dL_act_207 : decode cL_act 207 = .ok (.goto 4, 3) := by decide +kernel
theorem dL_act_210 : decode cL_act 210 = .ok (.iconst 0, 1) := by decide +kernel
theorem dL_act_211 : decode cL_act 211 = .ok (.ireturn, 1) := by decide +kernel
theorem dL_act_212 : decode cL_act 212 = .ok (.iload 4, 2) := by decide +kernel
theorem dL_act_214 : decode cL_act 214 = .ok (.iconst 3, 1) := by decide +kernel
theorem dL_act_215 : decode cL_act 215 = .ok (.invokestatic 22, 3) := by decide +kernel
theorem dL_act_218 : decode cL_act 218 = .ok (.ifCond .ne 8, 3) := by decide +kernel
theorem dL_act_221 : decode cL_act 221 = .ok (.bipush (-6), 2) := by decide +kernel
theorem dL_act_223 : decode cL_act 223 = .ok (.goto 5, 3) := by decide +kernel
theorem dL_act_226 : decode cL_act 226 = .ok (.iload 5, 2) := by decide +kernel
theorem dL_act_228 : decode cL_act 228 = .ok (.istore 7, 2) := by decide +kernel
theorem dL_act_230 : decode cL_act 230 = .ok (.iload 6, 2) := by decide +kernel
theorem dL_act_232 : decode cL_act 232 = .ok (.iload 4, 2) := by decide +kernel
theorem dL_act_234 : decode cL_act 234 = .ok (.iconst 2, 1) := by decide +kernel
theorem dL_act_235 : decode cL_act 235 = .ok (.ishr, 1) := by decide +kernel
theorem dL_act_236 : decode cL_act 236 = .ok (.iload 4, 2) := by decide +kernel
theorem dL_act_238 : decode cL_act 238 = .ok (.bipush 9, 2) := by decide +kernel
theorem dL_act_240 : decode cL_act 240 = .ok (.ishr, 1) := by decide +kernel
theorem dL_act_241 : decode cL_act 241 = .ok (.iconst 3, 1) := by decide +kernel
theorem dL_act_242 : decode cL_act 242 = .ok (.invokestatic 22, 3) := by decide +kernel
theorem dL_act_245 : decode cL_act 245 = .ok (.ifCond .ne 8, 3) := by decide +kernel
theorem dL_act_248 : decode cL_act 248 = .ok (.bipush 20, 2) := by decide +kernel
theorem dL_act_250 : decode cL_act 250 = .ok (.goto 4, 3) := by decide +kernel
theorem dL_act_253 : decode cL_act 253 = .ok (.iconst 3, 1) := by decide +kernel
theorem dL_act_254 : decode cL_act 254 = .ok (.invokestatic 22, 3) := by decide +kernel
theorem dL_act_257 : decode cL_act 257 = .ok (.iadd, 1) := by decide +kernel
theorem dL_act_258 : decode cL_act 258 = .ok (.istore 8, 2) := by decide +kernel
theorem dL_act_260 : decode cL_act 260 = .ok (.iload 8, 2) := by decide +kernel
theorem dL_act_262 : decode cL_act 262 = .ok (.sipush 299, 3) := by decide +kernel
theorem dL_act_265 : decode cL_act 265 = .ok (.if_icmp .le 24, 3) := by decide +kernel
theorem dL_act_268 : decode cL_act 268 = .ok (.aload_n 0, 1) := by decide +kernel
theorem dL_act_269 : decode cL_act 269 = .ok (.iload 7, 2) := by decide +kernel
theorem dL_act_271 : decode cL_act 271 = .ok (.iload 6, 2) := by decide +kernel
theorem dL_act_273 : decode cL_act 273 = .ok (.iload 8, 2) := by decide +kernel
theorem dL_act_275 : decode cL_act 275 = .ok (.invokevirtual 72, 3) := by decide +kernel
theorem dL_act_278 : decode cL_act 278 = .ok (.bipush (-2), 2) := by decide +kernel
theorem dL_act_280 : decode cL_act 280 = .ok (.if_icmp .ne 7, 3) := by decide +kernel
theorem dL_act_283 : decode cL_act 283 = .ok (.iconst 1, 1) := by decide +kernel

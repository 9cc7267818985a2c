/-! the law's own methods: what stands in the bytes -/
theorem dL_sound_0 : decode cL_sound 0 = .ok (.iconst 0, 1) := by decide +kernel
theorem dL_sound_1 : decode cL_sound 1 = .ok (.istore_n 1, 1) := by decide +kernel
theorem dL_sound_2 : decode cL_sound 2 = .ok (.iconst 0, 1) := by decide +kernel
theorem dL_sound_3 : decode cL_sound 3 = .ok (.istore_n 2, 1) := by decide +kernel
theorem dL_sound_4 : decode cL_sound 4 = .ok (.iconst 0, 1) := by decide +kernel
theorem dL_sound_5 : decode cL_sound 5 = .ok (.istore_n 3, 1) := by decide +kernel
theorem dL_sound_6 : decode cL_sound 6 = .ok (.iconst 0, 1) := by decide +kernel
theorem dL_sound_7 : decode cL_sound 7 = .ok (.istore 4, 2) := by decide +kernel
theorem dL_sound_9 : decode cL_sound 9 = .ok (.aload_n 0, 1) := by decide +kernel
theorem dL_sound_10 : decode cL_sound 10 = .ok (.iconst 0, 1) := by decide +kernel
theorem dL_sound_11 : decode cL_sound 11 = .ok (.invokevirtual 58, 3) := by decide +kernel
theorem dL_sound_14 : decode cL_sound 14 = .ok (.istore 5, 2) := by decide +kernel
theorem dL_sound_16 : decode cL_sound 16 = .ok (.iconst 0, 1) := by decide +kernel
theorem dL_sound_17 : decode cL_sound 17 = .ok (.istore 6, 2) := by decide +kernel
theorem dL_sound_19 : decode cL_sound 19 = .ok (.iload 6, 2) := by decide +kernel
theorem dL_sound_21 : decode cL_sound 21 = .ok (.iconst 3, 1) := by decide +kernel
theorem dL_sound_22 : decode cL_sound 22 = .ok (.if_icmp .ge 274, 3) := by decide +kernel
theorem dL_sound_25 : decode cL_sound 25 = .ok (.aload_n 0, 1) := by decide +kernel
theorem dL_sound_26 : decode cL_sound 26 = .ok (.iload 6, 2) := by decide +kernel
theorem dL_sound_28 : decode cL_sound 28 = .ok (.iconst 0, 1) := by decide +kernel
theorem dL_sound_29 : decode cL_sound 29 = .ok (.invokevirtual 50, 3) := by decide +kernel
theorem dL_sound_32 : decode cL_sound 32 = .ok (.istore 7, 2) := by decide +kernel
theorem dL_sound_34 : decode cL_sound 34 = .ok (.iload_n 1, 1) := by decide +kernel
theorem dL_sound_35 : decode cL_sound 35 = .ok (.iload 7, 2) := by decide +kernel
theorem dL_sound_37 : decode cL_sound 37 = .ok (.iadd, 1) := by decide +kernel
theorem dL_sound_38 : decode cL_sound 38 = .ok (.istore_n 1, 1) := by decide +kernel
theorem dL_sound_39 : decode cL_sound 39 = .ok (.iload 7, 2) := by decide +kernel
theorem dL_sound_41 : decode cL_sound 41 = .ok (.bipush 40, 2) := by decide +kernel
theorem dL_sound_43 : decode cL_sound 43 = .ok (.if_icmp .gt 16, 3) := by decide +kernel
theorem dL_sound_46 : decode cL_sound 46 = .ok (.aload_n 0, 1) := by decide +kernel
theorem dL_sound_47 : decode cL_sound 47 = .ok (.iload 6, 2) := by decide +kernel
theorem dL_sound_49 : decode cL_sound 49 = .ok (.iload 7, 2) := by decide +kernel
theorem dL_sound_51 : decode cL_sound 51 = .ok (.iconst 0, 1) := by decide +kernel
theorem dL_sound_52 : decode cL_sound 52 = .ok (.invokevirtual 55, 3) := by decide +kernel
theorem dL_sound_55 : decode cL_sound 55 = .ok (.iconst (-1), 1) := by decide +kernel
theorem dL_sound_56 : decode cL_sound 56 = .ok (.if_icmp .eq 5, 3) := by decide +kernel
theorem dL_sound_59 : decode cL_sound 59 = .ok (.iconst 0, 1) := by decide +kernel
theorem dL_sound_60 : decode cL_sound 60 = .ok (.ireturn, 1) := by decide +kernel
theorem dL_sound_61 : decode cL_sound 61 = .ok (.iconst 0, 1) := by decide +kernel
theorem dL_sound_62 : decode cL_sound 62 = .ok (.istore 8, 2) := by decide +kernel
theorem dL_sound_64 : decode cL_sound 64 = .ok (.iload 8, 2) := by decide +kernel
theorem dL_sound_66 : decode cL_sound 66 = .ok (.iload 7, 2) := by decide +kernel
theorem dL_sound_68 : decode cL_sound 68 = .ok (.if_icmp .ge 66, 3) := by decide +kernel
theorem dL_sound_71 : decode cL_sound 71 = .ok (.aload_n 0, 1) := by decide +kernel
theorem dL_sound_72 : decode cL_sound 72 = .ok (.iload 6, 2) := by decide +kernel
theorem dL_sound_74 : decode cL_sound 74 = .ok (.iload 8, 2) := by decide +kernel
theorem dL_sound_76 : decode cL_sound 76 = .ok (.iconst 1, 1) := by decide +kernel
theorem dL_sound_77 : decode cL_sound 77 = .ok (.invokevirtual 55, 3) := by decide +kernel
theorem dL_sound_80 : decode cL_sound 80 = .ok (.iconst 1, 1) := by decide +kernel
theorem dL_sound_81 : decode cL_sound 81 = .ok (.if_icmp .lt 45, 3) := by decide +kernel
theorem dL_sound_84 : decode cL_sound 84 = .ok (.aload_n 0, 1) := by decide +kernel
theorem dL_sound_85 : decode cL_sound 85 = .ok (.iload 6, 2) := by decide +kernel
theorem dL_sound_87 : decode cL_sound 87 = .ok (.iload 8, 2) := by decide +kernel
theorem dL_sound_89 : decode cL_sound 89 = .ok (.iconst 1, 1) := by decide +kernel
theorem dL_sound_90 : decode cL_sound 90 = .ok (.invokevirtual 55, 3) := by decide +kernel
theorem dL_sound_93 : decode cL_sound 93 = .ok (.bipush 9, 2) := by decide +kernel
theorem dL_sound_95 : decode cL_sound 95 = .ok (.if_icmp .gt 31, 3) := by decide +kernel
theorem dL_sound_98 : decode cL_sound 98 = .ok (.iload 8, 2) := by decide +kernel
theorem dL_sound_100 : decode cL_sound 100 = .ok (.ifCond .le 28, 3) := by decide +kernel
theorem dL_sound_103 : decode cL_sound 103 = .ok (.aload_n 0, 1) := by decide +kernel
theorem dL_sound_104 : decode cL_sound 104 = .ok (.iload 6, 2) := by decide +kernel
theorem dL_sound_106 : decode cL_sound 106 = .ok (.iload 8, 2) := by decide +kernel
theorem dL_sound_108 : decode cL_sound 108 = .ok (.iconst 0, 1) := by decide +kernel
theorem dL_sound_109 : decode cL_sound 109 = .ok (.invokevirtual 55, 3) := by decide +kernel
theorem dL_sound_112 : decode cL_sound 112 = .ok (.aload_n 0, 1) := by decide +kernel
theorem dL_sound_113 : decode cL_sound 113 = .ok (.iload 6, 2) := by decide +kernel
theorem dL_sound_115 : decode cL_sound 115 = .ok (.iload 8, 2) := by decide +kernel
theorem dL_sound_117 : decode cL_sound 117 = .ok (.iconst 1, 1) := by decide +kernel
theorem dL_sound_118 : decode cL_sound 118 = .ok (.isub, 1) := by decide +kernel
theorem dL_sound_119 : decode cL_sound 119 = .ok (.iconst 0, 1) := by decide +kernel
theorem dL_sound_120 : decode cL_sound 120 = .ok (.invokevirtual 55, 3) := by decide +kernel
theorem dL_sound_123 : decode cL_sound 123 = .ok (.if_icmp .gt 5, 3) := by decide +kernel
theorem dL_sound_126 : decode cL_sound 126 = .ok (.iconst 0, 1) := by decide +kernel
theorem dL_sound_127 : decode cL_sound 127 = .ok (.ireturn, 1) := by decide +kernel
theorem dL_sound_128 : decode cL_sound 128 = .ok (.iinc 8 1, 3) := by decide +kernel
theorem dL_sound_131 : decode cL_sound 131 = .ok (.goto (-67), 3) := by decide +kernel
theorem dL_sound_134 : decode cL_sound 134 = .ok (.iload 5, 2) := by decide +kernel
theorem dL_sound_136 : decode cL_sound 136 = .ok (.ifCond .ge 37, 3) := by decide +kernel
theorem dL_sound_139 : decode cL_sound 139 = .ok (.iconst 1, 1) := by decide +kernel
theorem dL_sound_140 : decode cL_sound 140 = .ok (.istore 8, 2) := by decide +kernel
theorem dL_sound_142 : decode cL_sound 142 = .ok (.iload 8, 2) := by decide +kernel
theorem dL_sound_144 : decode cL_sound 144 = .ok (.bipush 7, 2) := by decide +kernel
theorem dL_sound_146 : decode cL_sound 146 = .ok (.if_icmp .ge 24, 3) := by decide +kernel
theorem dL_sound_149 : decode cL_sound 149 = .ok (.aload_n 0, 1) := by decide +kernel
theorem dL_sound_150 : decode cL_sound 150 = .ok (.iload 6, 2) := by decide +kernel
theorem dL_sound_152 : decode cL_sound 152 = .ok (.iload 8, 2) := by decide +kernel
theorem dL_sound_154 : decode cL_sound 154 = .ok (.invokevirtual 50, 3) := by decide +kernel
theorem dL_sound_157 : decode cL_sound 157 = .ok (.bipush (-6), 2) := by decide +kernel
theorem dL_sound_159 : decode cL_sound 159 = .ok (.if_icmp .eq 5, 3) := by decide +kernel
theorem dL_sound_162 : decode cL_sound 162 = .ok (.iconst 0, 1) := by decide +kernel
theorem dL_sound_163 : decode cL_sound 163 = .ok (.ireturn, 1) := by decide +kernel
theorem dL_sound_164 : decode cL_sound 164 = .ok (.iinc 8 1, 3) := by decide +kernel
theorem dL_sound_167 : decode cL_sound 167 = .ok (.goto (-25), 3) := by decide +kernel
theorem dL_sound_170 : decode cL_sound 170 = .ok (.goto 120, 3) := by decide +kernel
theorem dL_sound_173 : decode cL_sound 173 = .ok (.aload_n 0, 1) := by decide +kernel
theorem dL_sound_174 : decode cL_sound 174 = .ok (.iload 6, 2) := by decide +kernel
theorem dL_sound_176 : decode cL_sound 176 = .ok (.iconst 2, 1) := by decide +kernel
theorem dL_sound_177 : decode cL_sound 177 = .ok (.invokevirtual 50, 3) := by decide +kernel
theorem dL_sound_180 : decode cL_sound 180 = .ok (.istore 8, 2) := by decide +kernel
theorem dL_sound_182 : decode cL_sound 182 = .ok (.iload 8, 2) := by decide +kernel
theorem dL_sound_184 : decode cL_sound 184 = .ok (.ifCond .lt 32, 3) := by decide +kernel
theorem dL_sound_187 : decode cL_sound 187 = .ok (.aload_n 0, 1) := by decide +kernel
theorem dL_sound_188 : decode cL_sound 188 = .ok (.iload 6, 2) := by decide +kernel
theorem dL_sound_190 : decode cL_sound 190 = .ok (.iload 8, 2) := by decide +kernel
theorem dL_sound_192 : decode cL_sound 192 = .ok (.invokestatic 69, 3) := by decide +kernel
theorem dL_sound_195 : decode cL_sound 195 = .ok (.ifCond .eq 44, 3) := by decide +kernel
theorem dL_sound_198 : decode cL_sound 198 = .ok (.aload_n 0, 1) := by decide +kernel
theorem dL_sound_199 : decode cL_sound 199 = .ok (.iload 6, 2) := by decide +kernel
theorem dL_sound_201 : decode cL_sound 201 = .ok (.iconst 1, 1) := by decide +kernel
theorem dL_sound_202 : decode cL_sound 202 = .ok (.invokevirtual 50, 3) := by decide +kernel

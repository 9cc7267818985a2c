/-! the law's own methods -/
noncomputable def qlL_flood : List CE := [(0, 58, 8, 2, fX8_ofRun), (0, 62, 8, 2, fX8_count), (0, 50, 8, 3, fX8_ofWalker), (1, 65, 0, 3, fL_from), (0, 55, 8, 4, fX8_ofStone), (0, 72, 8, 4, fX8_flood)]
noncomputable def xL_flood : XX := (cL_flood, fcF fclL, mcF qlL_flood, 2)
set_option maxRecDepth 100000 in
theorem cwL_flood : Cond.code yL_flood cL_flood 13 (some .boolean) ∈ lw_g := lw_gm 497 (by exact rfl) (by decide +kernel)
set_option maxRecDepth 100000 in
theorem clL_flood_0 : Call1 "LeapStonesLaw" xL_flood 13 (rmG 8 181 1) 1 3 (0, 58, 8, 2, fX8_ofRun) := call_V conX8_ofRun cwX8_ofRun (lw_gl _ [498, 499, 500, 21] (by decide +kernel) (by decide +kernel)) (by decide) rfl ⟨by decide, by decide, by decide +kernel⟩ ⟨rfl, rfl⟩ ⟨by decide, by decide⟩ ⟨by decide, by decide⟩
set_option maxRecDepth 100000 in
theorem clL_flood_1 : Call1 "LeapStonesLaw" xL_flood 13 (rmG 8 181 1) 1 3 (0, 62, 8, 2, fX8_count) := call_V conX8_count cwX8_count (lw_gl _ [518, 519, 520, 21] (by decide +kernel) (by decide +kernel)) (by decide) rfl ⟨by decide, by decide, by decide +kernel⟩ ⟨rfl, rfl⟩ ⟨by decide, by decide⟩ ⟨by decide, by decide⟩
set_option maxRecDepth 100000 in
theorem clL_flood_2 : Call1 "LeapStonesLaw" xL_flood 13 (rmG 8 181 1) 1 3 (0, 50, 8, 3, fX8_ofWalker) := call_V conX8_ofWalker cwX8_ofWalker (lw_gl _ [392, 393, 394, 21] (by decide +kernel) (by decide +kernel)) (by decide) rfl ⟨by decide, by decide, by decide +kernel⟩ ⟨rfl, rfl⟩ ⟨by decide, by decide⟩ ⟨by decide, by decide⟩
set_option maxRecDepth 100000 in
theorem clL_flood_3 : Call1 "LeapStonesLaw" xL_flood 13 (rmG 8 181 1) 1 3 (1, 65, 0, 3, fL_from) := call_S conL_from cwL_from (lw_gl _ [389, 390, 20] (by decide +kernel) (by decide +kernel)) ⟨by decide, by decide, by decide +kernel⟩ ⟨rfl, rfl⟩ ⟨by decide, by decide⟩ ⟨by decide, by decide⟩
set_option maxRecDepth 100000 in
theorem clL_flood_4 : Call1 "LeapStonesLaw" xL_flood 13 (rmG 8 181 1) 1 3 (0, 55, 8, 4, fX8_ofStone) := call_V conX8_ofStone cwX8_ofStone (lw_gl _ [416, 417, 418, 21] (by decide +kernel) (by decide +kernel)) (by decide) rfl ⟨by decide, by decide, by decide +kernel⟩ ⟨rfl, rfl⟩ ⟨by decide, by decide⟩ ⟨by decide, by decide⟩
set_option maxRecDepth 100000 in
theorem clL_flood_5 : Call1 "LeapStonesLaw" xL_flood 13 (rmG 8 181 1) 1 3 (0, 72, 8, 4, fX8_flood) := call_V conX8_flood cwX8_flood (lw_gl _ [425, 426, 427, 21] (by decide +kernel) (by decide +kernel)) (by decide) rfl ⟨by decide, by decide, by decide +kernel⟩ ⟨rfl, rfl⟩ ⟨by decide, by decide⟩ ⟨by decide, by decide⟩
theorem callsL_flood : ∀ q ∈ qlL_flood, Call1 "LeapStonesLaw" xL_flood 13 (rmG 8 181 1) 1 3 q := List.forall_mem_cons.mpr ⟨clL_flood_0, List.forall_mem_cons.mpr ⟨clL_flood_1, List.forall_mem_cons.mpr ⟨clL_flood_2, List.forall_mem_cons.mpr ⟨clL_flood_3, List.forall_mem_cons.mpr ⟨clL_flood_4, List.forall_mem_cons.mpr ⟨clL_flood_5, fun _ h => absurd h List.not_mem_nil⟩⟩⟩⟩⟩⟩
theorem dL_flood_0 : decode cL_flood 0 = .ok (.iconst 3, 1) := by decide +kernel
theorem dL_flood_1 : decode cL_flood 1 = .ok (.newarray .int, 2) := by decide +kernel
theorem dL_flood_3 : decode cL_flood 3 = .ok (.astore 4, 2) := by decide +kernel
theorem dL_flood_5 : decode cL_flood 5 = .ok (.iconst 0, 1) := by decide +kernel
theorem dL_flood_6 : decode cL_flood 6 = .ok (.istore 5, 2) := by decide +kernel
theorem dL_flood_8 : decode cL_flood 8 = .ok (.aload_n 0, 1) := by decide +kernel
theorem dL_flood_9 : decode cL_flood 9 = .ok (.iconst 0, 1) := by decide +kernel
theorem dL_flood_10 : decode cL_flood 10 = .ok (.invokevirtual 58, 3) := by decide +kernel
theorem dL_flood_13 : decode cL_flood 13 = .ok (.istore 6, 2) := by decide +kernel
theorem dL_flood_15 : decode cL_flood 15 = .ok (.aload_n 0, 1) := by decide +kernel
theorem dL_flood_16 : decode cL_flood 16 = .ok (.bipush 7, 2) := by decide +kernel
theorem dL_flood_18 : decode cL_flood 18 = .ok (.invokevirtual 58, 3) := by decide +kernel
theorem dL_flood_21 : decode cL_flood 21 = .ok (.istore 7, 2) := by decide +kernel
theorem dL_flood_23 : decode cL_flood 23 = .ok (.aload_n 0, 1) := by decide +kernel
theorem dL_flood_24 : decode cL_flood 24 = .ok (.iconst 1, 1) := by decide +kernel
theorem dL_flood_25 : decode cL_flood 25 = .ok (.invokevirtual 62, 3) := by decide +kernel
theorem dL_flood_28 : decode cL_flood 28 = .ok (.istore 8, 2) := by decide +kernel
theorem dL_flood_30 : decode cL_flood 30 = .ok (.aload_n 0, 1) := by decide +kernel
theorem dL_flood_31 : decode cL_flood 31 = .ok (.iconst 0, 1) := by decide +kernel
theorem dL_flood_32 : decode cL_flood 32 = .ok (.invokevirtual 62, 3) := by decide +kernel
theorem dL_flood_35 : decode cL_flood 35 = .ok (.istore 9, 2) := by decide +kernel
theorem dL_flood_37 : decode cL_flood 37 = .ok (.iconst 0, 1) := by decide +kernel
theorem dL_flood_38 : decode cL_flood 38 = .ok (.istore 10, 2) := by decide +kernel
theorem dL_flood_40 : decode cL_flood 40 = .ok (.iload 10, 2) := by decide +kernel
theorem dL_flood_42 : decode cL_flood 42 = .ok (.iconst 3, 1) := by decide +kernel
theorem dL_flood_43 : decode cL_flood 43 = .ok (.if_icmp .ge 79, 3) := by decide +kernel
theorem dL_flood_46 : decode cL_flood 46 = .ok (.aload 4, 2) := by decide +kernel
theorem dL_flood_48 : decode cL_flood 48 = .ok (.iload 10, 2) := by decide +kernel
theorem dL_flood_50 : decode cL_flood 50 = .ok (.aload_n 0, 1) := by decide +kernel
theorem dL_flood_51 : decode cL_flood 51 = .ok (.iload 10, 2) := by decide +kernel
theorem dL_flood_53 : decode cL_flood 53 = .ok (.iconst 2, 1) := by decide +kernel
theorem dL_flood_54 : decode cL_flood 54 = .ok (.invokevirtual 50, 3) := by decide +kernel
theorem dL_flood_57 : decode cL_flood 57 = .ok (.iastore, 1) := by decide +kernel
theorem dL_flood_58 : decode cL_flood 58 = .ok (.iload_n 1, 1) := by decide +kernel
theorem dL_flood_59 : decode cL_flood 59 = .ok (.bipush (-6), 2) := by decide +kernel
theorem dL_flood_61 : decode cL_flood 61 = .ok (.if_icmp .eq 12, 3) := by decide +kernel
theorem dL_flood_64 : decode cL_flood 64 = .ok (.iload_n 1, 1) := by decide +kernel
theorem dL_flood_65 : decode cL_flood 65 = .ok (.iload 10, 2) := by decide +kernel
theorem dL_flood_67 : decode cL_flood 67 = .ok (.if_icmp .eq 6, 3) := by decide +kernel
theorem dL_flood_70 : decode cL_flood 70 = .ok (.goto 46, 3) := by decide +kernel
theorem dL_flood_73 : decode cL_flood 73 = .ok (.aload_n 0, 1) := by decide +kernel
theorem dL_flood_74 : decode cL_flood 74 = .ok (.iload 10, 2) := by decide +kernel
theorem dL_flood_76 : decode cL_flood 76 = .ok (.iload_n 2, 1) := by decide +kernel
theorem dL_flood_77 : decode cL_flood 77 = .ok (.invokestatic 65, 3) := by decide +kernel
theorem dL_flood_80 : decode cL_flood 80 = .ok (.istore 11, 2) := by decide +kernel
theorem dL_flood_82 : decode cL_flood 82 = .ok (.iload 11, 2) := by decide +kernel
theorem dL_flood_84 : decode cL_flood 84 = .ok (.aload_n 0, 1) := by decide +kernel
theorem dL_flood_85 : decode cL_flood 85 = .ok (.iload 10, 2) := by decide +kernel
theorem dL_flood_87 : decode cL_flood 87 = .ok (.iconst 0, 1) := by decide +kernel
theorem dL_flood_88 : decode cL_flood 88 = .ok (.invokevirtual 50, 3) := by decide +kernel
theorem dL_flood_91 : decode cL_flood 91 = .ok (.if_icmp .ge 25, 3) := by decide +kernel
theorem dL_flood_94 : decode cL_flood 94 = .ok (.aload_n 0, 1) := by decide +kernel
theorem dL_flood_95 : decode cL_flood 95 = .ok (.iload 10, 2) := by decide +kernel
theorem dL_flood_97 : decode cL_flood 97 = .ok (.iload 11, 2) := by decide +kernel
theorem dL_flood_99 : decode cL_flood 99 = .ok (.iconst 0, 1) := by decide +kernel
theorem dL_flood_100 : decode cL_flood 100 = .ok (.invokevirtual 55, 3) := by decide +kernel
theorem dL_flood_103 : decode cL_flood 103 = .ok (.iload_n 3, 1) := by decide +kernel
theorem dL_flood_104 : decode cL_flood 104 = .ok (.if_icmp .gt 12, 3) := by decide +kernel
theorem dL_flood_107 : decode cL_flood 107 = .ok (.iinc 5 1, 3) := by decide +kernel
theorem dL_flood_110 : decode cL_flood 110 = .ok (.iinc 11 1, 3) := by decide +kernel
theorem dL_flood_113 : decode cL_flood 113 = .ok (.goto (-31), 3) := by decide +kernel
theorem dL_flood_116 : decode cL_flood 116 = .ok (.iinc 10 1, 3) := by decide +kernel
theorem dL_flood_119 : decode cL_flood 119 = .ok (.goto (-79), 3) := by decide +kernel
theorem dL_flood_122 : decode cL_flood 122 = .ok (.aload_n 0, 1) := by decide +kernel
theorem dL_flood_123 : decode cL_flood 123 = .ok (.iload_n 1, 1) := by decide +kernel
theorem dL_flood_124 : decode cL_flood 124 = .ok (.iload_n 2, 1) := by decide +kernel
theorem dL_flood_125 : decode cL_flood 125 = .ok (.iload_n 3, 1) := by decide +kernel
theorem dL_flood_126 : decode cL_flood 126 = .ok (.invokevirtual 72, 3) := by decide +kernel
theorem dL_flood_129 : decode cL_flood 129 = .ok (.iload 5, 2) := by decide +kernel
theorem dL_flood_131 : decode cL_flood 131 = .ok (.if_icmp .ne 38, 3) := by decide +kernel
theorem dL_flood_134 : decode cL_flood 134 = .ok (.aload_n 0, 1) := by decide +kernel
theorem dL_flood_135 : decode cL_flood 135 = .ok (.iconst 0, 1) := by decide +kernel
theorem dL_flood_136 : decode cL_flood 136 = .ok (.invokevirtual 62, 3) := by decide +kernel
theorem dL_flood_139 : decode cL_flood 139 = .ok (.iload 9, 2) := by decide +kernel
theorem dL_flood_141 : decode cL_flood 141 = .ok (.iload 5, 2) := by decide +kernel
theorem dL_flood_143 : decode cL_flood 143 = .ok (.isub, 1) := by decide +kernel
theorem dL_flood_144 : decode cL_flood 144 = .ok (.if_icmp .ne 25, 3) := by decide +kernel
theorem dL_flood_147 : decode cL_flood 147 = .ok (.aload_n 0, 1) := by decide +kernel
theorem dL_flood_148 : decode cL_flood 148 = .ok (.iconst 1, 1) := by decide +kernel
theorem dL_flood_149 : decode cL_flood 149 = .ok (.invokevirtual 62, 3) := by decide +kernel
theorem dL_flood_152 : decode cL_flood 152 = .ok (.iload 8, 2) := by decide +kernel
theorem dL_flood_154 : decode cL_flood 154 = .ok (.iconst 4, 1) := by decide +kernel
theorem dL_flood_155 : decode cL_flood 155 = .ok (.if_icmp .ge 10, 3) := by decide +kernel
theorem dL_flood_158 : decode cL_flood 158 = .ok (.iload 8, 2) := by decide +kernel
theorem dL_flood_160 : decode cL_flood 160 = .ok (.iconst 1, 1) := by decide +kernel
theorem dL_flood_161 : decode cL_flood 161 = .ok (.iadd, 1) := by decide +kernel
theorem dL_flood_162 : decode cL_flood 162 = .ok (.goto 4, 3) := by decide +kernel
theorem dL_flood_165 : decode cL_flood 165 = .ok (.iconst 4, 1) := by decide +kernel
theorem dL_flood_166 : decode cL_flood 166 = .ok (.if_icmp .eq 5, 3) := by decide +kernel
theorem dL_flood_169 : decode cL_flood 169 = .ok (.iconst 0, 1) := by decide +kernel
theorem dL_flood_170 : decode cL_flood 170 = .ok (.ireturn, 1) := by decide +kernel
theorem dL_flood_171 : decode cL_flood 171 = .ok (.iconst 0, 1) := by decide +kernel
theorem dL_flood_172 : decode cL_flood 172 = .ok (.istore 10, 2) := by decide +kernel
theorem dL_flood_174 : decode cL_flood 174 = .ok (.iload 10, 2) := by decide +kernel
theorem dL_flood_176 : decode cL_flood 176 = .ok (.iconst 3, 1) := by decide +kernel
theorem dL_flood_177 : decode cL_flood 177 = .ok (.if_icmp .ge 132, 3) := by decide +kernel
theorem dL_flood_180 : decode cL_flood 180 = .ok (.iload_n 1, 1) := by decide +kernel
theorem dL_flood_181 : decode cL_flood 181 = .ok (.bipush (-6), 2) := by decide +kernel
theorem dL_flood_183 : decode cL_flood 183 = .ok (.if_icmp .eq 9, 3) := by decide +kernel
theorem dL_flood_186 : decode cL_flood 186 = .ok (.iload_n 1, 1) := by decide +kernel
theorem dL_flood_187 : decode cL_flood 187 = .ok (.iload 10, 2) := by decide +kernel
theorem dL_flood_189 : decode cL_flood 189 = .ok (.if_icmp .ne 25, 3) := by decide +kernel
theorem dL_flood_192 : decode cL_flood 192 = .ok (.aload 4, 2) := by decide +kernel
theorem dL_flood_194 : decode cL_flood 194 = .ok (.iload 10, 2) := by decide +kernel
theorem dL_flood_196 : decode cL_flood 196 = .ok (.iaload, 1) := by decide +kernel
theorem dL_flood_197 : decode cL_flood 197 = .ok (.iload_n 2, 1) := by decide +kernel
theorem dL_flood_198 : decode cL_flood 198 = .ok (.if_icmp .lt 16, 3) := by decide +kernel
theorem dL_flood_201 : decode cL_flood 201 = .ok (.aload 4, 2) := by decide +kernel
theorem dL_flood_203 : decode cL_flood 203 = .ok (.iload 10, 2) := by decide +kernel
theorem dL_flood_205 : decode cL_flood 205 = .ok (.iaload, 1) := by decide +kernel
theorem dL_flood_206 : decode cL_flood 206 = .ok (.iload_n 3, 1) := by decide +kernel
theorem dL_flood_207 : decode cL_flood 207 = .ok (.if_icmp .gt 7, 3) := by decide +kernel
theorem dL_flood_210 : decode cL_flood 210 = .ok (.iconst 1, 1) := by decide +kernel
theorem dL_flood_211 : decode cL_flood 211 = .ok (.goto 4, 3) := by decide +kernel
theorem dL_flood_214 : decode cL_flood 214 = .ok (.iconst 0, 1) := by decide +kernel
theorem dL_flood_215 : decode cL_flood 215 = .ok (.istore 11, 2) := by decide +kernel
theorem dL_flood_217 : decode cL_flood 217 = .ok (.iload 11, 2) := by decide +kernel
theorem dL_flood_219 : decode cL_flood 219 = .ok (.ifCond .eq 11, 3) := by decide +kernel
theorem dL_flood_222 : decode cL_flood 222 = .ok (.iload 6, 2) := by decide +kernel
theorem dL_flood_224 : decode cL_flood 224 = .ok (.ifCond .ne 6, 3) := by decide +kernel
theorem dL_flood_227 : decode cL_flood 227 = .ok (.iinc 7 1, 3) := by decide +kernel
theorem dL_flood_230 : decode cL_flood 230 = .ok (.iload 6, 2) := by decide +kernel
theorem dL_flood_232 : decode cL_flood 232 = .ok (.ifCond .ge 6, 3) := by decide +kernel
theorem dL_flood_235 : decode cL_flood 235 = .ok (.goto 68, 3) := by decide +kernel
theorem dL_flood_238 : decode cL_flood 238 = .ok (.aload 4, 2) := by decide +kernel
theorem dL_flood_240 : decode cL_flood 240 = .ok (.iload 10, 2) := by decide +kernel
theorem dL_flood_242 : decode cL_flood 242 = .ok (.iaload, 1) := by decide +kernel
theorem dL_flood_243 : decode cL_flood 243 = .ok (.ifCond .ge 13, 3) := by decide +kernel
theorem dL_flood_246 : decode cL_flood 246 = .ok (.aload_n 0, 1) := by decide +kernel
theorem dL_flood_247 : decode cL_flood 247 = .ok (.iload 10, 2) := by decide +kernel
theorem dL_flood_249 : decode cL_flood 249 = .ok (.iconst 0, 1) := by decide +kernel
theorem dL_flood_250 : decode cL_flood 250 = .ok (.invokevirtual 50, 3) := by decide +kernel
theorem dL_flood_253 : decode cL_flood 253 = .ok (.goto 14, 3) := by decide +kernel
theorem dL_flood_256 : decode cL_flood 256 = .ok (.aload_n 0, 1) := by decide +kernel
theorem dL_flood_257 : decode cL_flood 257 = .ok (.iload 10, 2) := by decide +kernel
theorem dL_flood_259 : decode cL_flood 259 = .ok (.aload 4, 2) := by decide +kernel
theorem dL_flood_261 : decode cL_flood 261 = .ok (.iload 10, 2) := by decide +kernel
theorem dL_flood_263 : decode cL_flood 263 = .ok (.iaload, 1) := by decide +kernel
theorem dL_flood_264 : decode cL_flood 264 = .ok (.invokestatic 65, 3) := by decide +kernel
theorem dL_flood_267 : decode cL_flood 267 = .ok (.istore 12, 2) := by decide +kernel
theorem dL_flood_269 : decode cL_flood 269 = .ok (.aload_n 0, 1) := by decide +kernel
theorem dL_flood_270 : decode cL_flood 270 = .ok (.iload 10, 2) := by decide +kernel
theorem dL_flood_272 : decode cL_flood 272 = .ok (.iconst 1, 1) := by decide +kernel
theorem dL_flood_273 : decode cL_flood 273 = .ok (.invokevirtual 50, 3) := by decide +kernel
theorem dL_flood_276 : decode cL_flood 276 = .ok (.iload 12, 2) := by decide +kernel
theorem dL_flood_278 : decode cL_flood 278 = .ok (.if_icmp .ne 23, 3) := by decide +kernel
theorem dL_flood_281 : decode cL_flood 281 = .ok (.iload 11, 2) := by decide +kernel
theorem dL_flood_283 : decode cL_flood 283 = .ok (.ifCond .ne 20, 3) := by decide +kernel
theorem dL_flood_286 : decode cL_flood 286 = .ok (.aload_n 0, 1) := by decide +kernel
theorem dL_flood_287 : decode cL_flood 287 = .ok (.iload 10, 2) := by decide +kernel
theorem dL_flood_289 : decode cL_flood 289 = .ok (.iconst 2, 1) := by decide +kernel
theorem dL_flood_290 : decode cL_flood 290 = .ok (.invokevirtual 50, 3) := by decide +kernel
theorem dL_flood_293 : decode cL_flood 293 = .ok (.aload 4, 2) := by decide +kernel
theorem dL_flood_295 : decode cL_flood 295 = .ok (.iload 10, 2) := by decide +kernel
theorem dL_flood_297 : decode cL_flood 297 = .ok (.iaload, 1) := by decide +kernel
theorem dL_flood_298 : decode cL_flood 298 = .ok (.if_icmp .eq 5, 3) := by decide +kernel
theorem dL_flood_301 : decode cL_flood 301 = .ok (.iconst 0, 1) := by decide +kernel
theorem dL_flood_302 : decode cL_flood 302 = .ok (.ireturn, 1) := by decide +kernel
theorem dL_flood_303 : decode cL_flood 303 = .ok (.iinc 10 1, 3) := by decide +kernel
theorem dL_flood_306 : decode cL_flood 306 = .ok (.goto (-132), 3) := by decide +kernel
theorem dL_flood_309 : decode cL_flood 309 = .ok (.aload_n 0, 1) := by decide +kernel
theorem dL_flood_310 : decode cL_flood 310 = .ok (.bipush 7, 2) := by decide +kernel
theorem dL_flood_312 : decode cL_flood 312 = .ok (.invokevirtual 58, 3) := by decide +kernel
theorem dL_flood_315 : decode cL_flood 315 = .ok (.iload 7, 2) := by decide +kernel
theorem dL_flood_317 : decode cL_flood 317 = .ok (.if_icmp .ne 22, 3) := by decide +kernel
theorem dL_flood_320 : decode cL_flood 320 = .ok (.iload 6, 2) := by decide +kernel
theorem dL_flood_322 : decode cL_flood 322 = .ok (.iconst 1, 1) := by decide +kernel
theorem dL_flood_323 : decode cL_flood 323 = .ok (.if_icmp .ne 12, 3) := by decide +kernel
theorem dL_flood_326 : decode cL_flood 326 = .ok (.aload_n 0, 1) := by decide +kernel
theorem dL_flood_327 : decode cL_flood 327 = .ok (.iconst 0, 1) := by decide +kernel
theorem dL_flood_328 : decode cL_flood 328 = .ok (.invokevirtual 58, 3) := by decide +kernel
theorem dL_flood_331 : decode cL_flood 331 = .ok (.iconst 1, 1) := by decide +kernel
theorem dL_flood_332 : decode cL_flood 332 = .ok (.if_icmp .ne 7, 3) := by decide +kernel
theorem dL_flood_335 : decode cL_flood 335 = .ok (.iconst 1, 1) := by decide +kernel
theorem dL_flood_336 : decode cL_flood 336 = .ok (.goto 4, 3) := by decide +kernel
theorem dL_flood_339 : decode cL_flood 339 = .ok (.iconst 0, 1) := by decide +kernel
theorem dL_flood_340 : decode cL_flood 340 = .ok (.ireturn, 1) := by decide +kernel
set_option maxRecDepth 100000 in
theorem eL_flood_5 {l0 l1 l2 l3 l4 l5 l6 l7 l8 l9 l10 l11 l12 : Option VV} {S : MM} : rn xL_flood (5, [l0, l1, l2, l3, l4, l5, l6, l7, l8, l9, l10, l11, l12], [], S) = rn xL_flood (6, [l0, l1, l2, l3, l4, l5, l6, l7, l8, l9, l10, l11, l12], [vI 0], S) := rn_step dL_flood_5 rfl rfl
set_option maxRecDepth 100000 in
theorem eL_flood_6 {a : Int} {w : Option Nat} {l0 l1 l2 l3 l5 l6 l7 l8 l9 l10 l11 l12 : Option VV} {S : MM} : rn xL_flood (6, [l0, l1, l2, l3, some (.inr (.inl w)), l5, l6, l7, l8, l9, l10, l11, l12], [vI a], S) = rn xL_flood (8, [l0, l1, l2, l3, some (.inr (.inl w)), some (vI a), l6, l7, l8, l9, l10, l11, l12], [], S) := rn_step dL_flood_6 rfl rfl
set_option maxRecDepth 100000 in
theorem eL_flood_8 {a : Option Nat} {l1 l2 l3 l4 l5 l6 l7 l8 l9 l10 l11 l12 : Option VV} {S : MM} : rn xL_flood (8, [some (.inr (.inl a)), l1, l2, l3, l4, l5, l6, l7, l8, l9, l10, l11, l12], [], S) = rn xL_flood (9, [some (.inr (.inl a)), l1, l2, l3, l4, l5, l6, l7, l8, l9, l10, l11, l12], [.inr (.inl a)], S) := rn_step dL_flood_8 rfl rfl
set_option maxRecDepth 100000 in
theorem eL_flood_9 {l0 l1 l2 l3 l4 l5 l6 l7 l8 l9 l10 l11 l12 : Option VV} {v0 : VV} {S : MM} : rn xL_flood (9, [l0, l1, l2, l3, l4, l5, l6, l7, l8, l9, l10, l11, l12], [v0], S) = rn xL_flood (10, [l0, l1, l2, l3, l4, l5, l6, l7, l8, l9, l10, l11, l12], [vI 0, v0], S) := rn_step dL_flood_9 rfl rfl
set_option maxRecDepth 100000 in
theorem eL_flood_10 {a0 : Int} {l0 l1 l2 l3 l4 l5 l6 l7 l8 l9 l10 l11 l12 : Option VV} {S : MM} : rn xL_flood (10, [l0, l1, l2, l3, l4, l5, l6, l7, l8, l9, l10, l11, l12], [vI a0, vR 0], S) = (fX8_ofRun [vR 0, vI a0] S).bind (fun q => rn xL_flood (13, [l0, l1, l2, l3, l4, l5, l6, l7, l8, l9, l10, l11, l12], q.1.toList ++ [], q.2)) := q_callV (n := 1) (as := [vI a0]) (rest := []) dL_flood_10 rfl rfl rfl rfl kd0
set_option maxRecDepth 100000 in
theorem eL_flood_13 {a : Int} {w : Int} {l0 l1 l2 l3 l4 l6 l7 l8 l9 l10 l11 l12 : Option VV} {S : MM} : rn xL_flood (13, [l0, l1, l2, l3, l4, some (vI w), l6, l7, l8, l9, l10, l11, l12], [vI a], S) = rn xL_flood (15, [l0, l1, l2, l3, l4, some (vI w), some (vI a), l7, l8, l9, l10, l11, l12], [], S) := rn_step dL_flood_13 rfl rfl
set_option maxRecDepth 100000 in
theorem eL_flood_15 {a : Option Nat} {l1 l2 l3 l4 l5 l6 l7 l8 l9 l10 l11 l12 : Option VV} {S : MM} : rn xL_flood (15, [some (.inr (.inl a)), l1, l2, l3, l4, l5, l6, l7, l8, l9, l10, l11, l12], [], S) = rn xL_flood (16, [some (.inr (.inl a)), l1, l2, l3, l4, l5, l6, l7, l8, l9, l10, l11, l12], [.inr (.inl a)], S) := rn_step dL_flood_15 rfl rfl
set_option maxRecDepth 100000 in
theorem eL_flood_16 {l0 l1 l2 l3 l4 l5 l6 l7 l8 l9 l10 l11 l12 : Option VV} {v0 : VV} {S : MM} : rn xL_flood (16, [l0, l1, l2, l3, l4, l5, l6, l7, l8, l9, l10, l11, l12], [v0], S) = rn xL_flood (18, [l0, l1, l2, l3, l4, l5, l6, l7, l8, l9, l10, l11, l12], [vI 7, v0], S) := rn_step dL_flood_16 rfl rfl
set_option maxRecDepth 100000 in
theorem eL_flood_18 {a0 : Int} {l0 l1 l2 l3 l4 l5 l6 l7 l8 l9 l10 l11 l12 : Option VV} {S : MM} : rn xL_flood (18, [l0, l1, l2, l3, l4, l5, l6, l7, l8, l9, l10, l11, l12], [vI a0, vR 0], S) = (fX8_ofRun [vR 0, vI a0] S).bind (fun q => rn xL_flood (21, [l0, l1, l2, l3, l4, l5, l6, l7, l8, l9, l10, l11, l12], q.1.toList ++ [], q.2)) := q_callV (n := 1) (as := [vI a0]) (rest := []) dL_flood_18 rfl rfl rfl rfl kd0
set_option maxRecDepth 100000 in
theorem eL_flood_21 {a : Int} {w : Int} {l0 l1 l2 l3 l4 l5 l7 l8 l9 l10 l11 l12 : Option VV} {S : MM} : rn xL_flood (21, [l0, l1, l2, l3, l4, l5, some (vI w), l7, l8, l9, l10, l11, l12], [vI a], S) = rn xL_flood (23, [l0, l1, l2, l3, l4, l5, some (vI w), some (vI a), l8, l9, l10, l11, l12], [], S) := rn_step dL_flood_21 rfl rfl
set_option maxRecDepth 100000 in
theorem eL_flood_23 {a : Option Nat} {l1 l2 l3 l4 l5 l6 l7 l8 l9 l10 l11 l12 : Option VV} {S : MM} : rn xL_flood (23, [some (.inr (.inl a)), l1, l2, l3, l4, l5, l6, l7, l8, l9, l10, l11, l12], [], S) = rn xL_flood (24, [some (.inr (.inl a)), l1, l2, l3, l4, l5, l6, l7, l8, l9, l10, l11, l12], [.inr (.inl a)], S) := rn_step dL_flood_23 rfl rfl
set_option maxRecDepth 100000 in
theorem eL_flood_24 {l0 l1 l2 l3 l4 l5 l6 l7 l8 l9 l10 l11 l12 : Option VV} {v0 : VV} {S : MM} : rn xL_flood (24, [l0, l1, l2, l3, l4, l5, l6, l7, l8, l9, l10, l11, l12], [v0], S) = rn xL_flood (25, [l0, l1, l2, l3, l4, l5, l6, l7, l8, l9, l10, l11, l12], [vI 1, v0], S) := rn_step dL_flood_24 rfl rfl
set_option maxRecDepth 100000 in
theorem eL_flood_25 {a0 : Int} {l0 l1 l2 l3 l4 l5 l6 l7 l8 l9 l10 l11 l12 : Option VV} {S : MM} : rn xL_flood (25, [l0, l1, l2, l3, l4, l5, l6, l7, l8, l9, l10, l11, l12], [vI a0, vR 0], S) = (fX8_count [vR 0, vI a0] S).bind (fun q => rn xL_flood (28, [l0, l1, l2, l3, l4, l5, l6, l7, l8, l9, l10, l11, l12], q.1.toList ++ [], q.2)) := q_callV (n := 1) (as := [vI a0]) (rest := []) dL_flood_25 rfl rfl rfl rfl kd0
set_option maxRecDepth 100000 in
theorem eL_flood_28 {a : Int} {w : Int} {l0 l1 l2 l3 l4 l5 l6 l8 l9 l10 l11 l12 : Option VV} {S : MM} : rn xL_flood (28, [l0, l1, l2, l3, l4, l5, l6, some (vI w), l8, l9, l10, l11, l12], [vI a], S) = rn xL_flood (30, [l0, l1, l2, l3, l4, l5, l6, some (vI w), some (vI a), l9, l10, l11, l12], [], S) := rn_step dL_flood_28 rfl rfl
set_option maxRecDepth 100000 in
theorem eL_flood_30 {a : Option Nat} {l1 l2 l3 l4 l5 l6 l7 l8 l9 l10 l11 l12 : Option VV} {S : MM} : rn xL_flood (30, [some (.inr (.inl a)), l1, l2, l3, l4, l5, l6, l7, l8, l9, l10, l11, l12], [], S) = rn xL_flood (31, [some (.inr (.inl a)), l1, l2, l3, l4, l5, l6, l7, l8, l9, l10, l11, l12], [.inr (.inl a)], S) := rn_step dL_flood_30 rfl rfl
set_option maxRecDepth 100000 in
theorem eL_flood_31 {l0 l1 l2 l3 l4 l5 l6 l7 l8 l9 l10 l11 l12 : Option VV} {v0 : VV} {S : MM} : rn xL_flood (31, [l0, l1, l2, l3, l4, l5, l6, l7, l8, l9, l10, l11, l12], [v0], S) = rn xL_flood (32, [l0, l1, l2, l3, l4, l5, l6, l7, l8, l9, l10, l11, l12], [vI 0, v0], S) := rn_step dL_flood_31 rfl rfl
set_option maxRecDepth 100000 in
theorem eL_flood_32 {a0 : Int} {l0 l1 l2 l3 l4 l5 l6 l7 l8 l9 l10 l11 l12 : Option VV} {S : MM} : rn xL_flood (32, [l0, l1, l2, l3, l4, l5, l6, l7, l8, l9, l10, l11, l12], [vI a0, vR 0], S) = (fX8_count [vR 0, vI a0] S).bind (fun q => rn xL_flood (35, [l0, l1, l2, l3, l4, l5, l6, l7, l8, l9, l10, l11, l12], q.1.toList ++ [], q.2)) := q_callV (n := 1) (as := [vI a0]) (rest := []) dL_flood_32 rfl rfl rfl rfl kd0
set_option maxRecDepth 100000 in
theorem eL_flood_35 {a : Int} {w : Int} {l0 l1 l2 l3 l4 l5 l6 l7 l9 l10 l11 l12 : Option VV} {S : MM} : rn xL_flood (35, [l0, l1, l2, l3, l4, l5, l6, l7, some (vI w), l9, l10, l11, l12], [vI a], S) = rn xL_flood (37, [l0, l1, l2, l3, l4, l5, l6, l7, some (vI w), some (vI a), l10, l11, l12], [], S) := rn_step dL_flood_35 rfl rfl
set_option maxRecDepth 100000 in
theorem eL_flood_37 {l0 l1 l2 l3 l4 l5 l6 l7 l8 l9 l10 l11 l12 : Option VV} {S : MM} : rn xL_flood (37, [l0, l1, l2, l3, l4, l5, l6, l7, l8, l9, l10, l11, l12], [], S) = rn xL_flood (38, [l0, l1, l2, l3, l4, l5, l6, l7, l8, l9, l10, l11, l12], [vI 0], S) := rn_step dL_flood_37 rfl rfl
set_option maxRecDepth 100000 in
theorem eL_flood_38 {a : Int} {w : Int} {l0 l1 l2 l3 l4 l5 l6 l7 l8 l10 l11 l12 : Option VV} {S : MM} : rn xL_flood (38, [l0, l1, l2, l3, l4, l5, l6, l7, l8, some (vI w), l10, l11, l12], [vI a], S) = rn xL_flood (40, [l0, l1, l2, l3, l4, l5, l6, l7, l8, some (vI w), some (vI a), l11, l12], [], S) := rn_step dL_flood_38 rfl rfl
set_option maxRecDepth 100000 in
theorem eL_flood_40 {a : Int} {l0 l1 l2 l3 l4 l5 l6 l7 l8 l9 l11 l12 : Option VV} {S : MM} : rn xL_flood (40, [l0, l1, l2, l3, l4, l5, l6, l7, l8, l9, some (vI a), l11, l12], [], S) = rn xL_flood (42, [l0, l1, l2, l3, l4, l5, l6, l7, l8, l9, some (vI a), l11, l12], [vI a], S) := rn_step dL_flood_40 rfl rfl
set_option maxRecDepth 100000 in
theorem eL_flood_42 {l0 l1 l2 l3 l4 l5 l6 l7 l8 l9 l10 l11 l12 : Option VV} {v0 : VV} {S : MM} : rn xL_flood (42, [l0, l1, l2, l3, l4, l5, l6, l7, l8, l9, l10, l11, l12], [v0], S) = rn xL_flood (43, [l0, l1, l2, l3, l4, l5, l6, l7, l8, l9, l10, l11, l12], [vI 3, v0], S) := rn_step dL_flood_42 rfl rfl
set_option maxRecDepth 100000 in
theorem eL_flood_43 {a b : Int} {l0 l1 l2 l3 l4 l5 l6 l7 l8 l9 l10 l11 l12 : Option VV} (h : -2147483648 ≤ a ∧ a ≤ 2147483647) (h1 : -2147483648 ≤ b ∧ b ≤ 2147483647) {S : MM} : rn xL_flood (43, [l0, l1, l2, l3, l4, l5, l6, l7, l8, l9, l10, l11, l12], [vI b, vI a], S) = if a < b then rn xL_flood (46, [l0, l1, l2, l3, l4, l5, l6, l7, l8, l9, l10, l11, l12], [], S) else rn xL_flood (122, [l0, l1, l2, l3, l4, l5, l6, l7, l8, l9, l10, l11, l12], [], S) := q_icmp_ge dL_flood_43 (by decide) rfl h h1
set_option maxRecDepth 100000 in
theorem eL_flood_46 {a : Option Nat} {l0 l1 l2 l3 l5 l6 l7 l8 l9 l10 l11 l12 : Option VV} {S : MM} : rn xL_flood (46, [l0, l1, l2, l3, some (.inr (.inl a)), l5, l6, l7, l8, l9, l10, l11, l12], [], S) = rn xL_flood (48, [l0, l1, l2, l3, some (.inr (.inl a)), l5, l6, l7, l8, l9, l10, l11, l12], [.inr (.inl a)], S) := rn_step dL_flood_46 rfl rfl
set_option maxRecDepth 100000 in
theorem eL_flood_48 {a : Int} {l0 l1 l2 l3 l4 l5 l6 l7 l8 l9 l11 l12 : Option VV} {v0 : VV} {S : MM} : rn xL_flood (48, [l0, l1, l2, l3, l4, l5, l6, l7, l8, l9, some (vI a), l11, l12], [v0], S) = rn xL_flood (50, [l0, l1, l2, l3, l4, l5, l6, l7, l8, l9, some (vI a), l11, l12], [vI a, v0], S) := rn_step dL_flood_48 rfl rfl
set_option maxRecDepth 100000 in
theorem eL_flood_50 {a : Option Nat} {l1 l2 l3 l4 l5 l6 l7 l8 l9 l10 l11 l12 : Option VV} {v0 v1 : VV} {S : MM} : rn xL_flood (50, [some (.inr (.inl a)), l1, l2, l3, l4, l5, l6, l7, l8, l9, l10, l11, l12], [v0, v1], S) = rn xL_flood (51, [some (.inr (.inl a)), l1, l2, l3, l4, l5, l6, l7, l8, l9, l10, l11, l12], [.inr (.inl a), v0, v1], S) := rn_step dL_flood_50 rfl rfl
set_option maxRecDepth 100000 in
theorem eL_flood_51 {a : Int} {l0 l1 l2 l3 l4 l5 l6 l7 l8 l9 l11 l12 : Option VV} {v0 v1 v2 : VV} {S : MM} : rn xL_flood (51, [l0, l1, l2, l3, l4, l5, l6, l7, l8, l9, some (vI a), l11, l12], [v0, v1, v2], S) = rn xL_flood (53, [l0, l1, l2, l3, l4, l5, l6, l7, l8, l9, some (vI a), l11, l12], [vI a, v0, v1, v2], S) := rn_step dL_flood_51 rfl rfl
set_option maxRecDepth 100000 in
theorem eL_flood_53 {l0 l1 l2 l3 l4 l5 l6 l7 l8 l9 l10 l11 l12 : Option VV} {v0 v1 v2 v3 : VV} {S : MM} : rn xL_flood (53, [l0, l1, l2, l3, l4, l5, l6, l7, l8, l9, l10, l11, l12], [v0, v1, v2, v3], S) = rn xL_flood (54, [l0, l1, l2, l3, l4, l5, l6, l7, l8, l9, l10, l11, l12], [vI 2, v0, v1, v2, v3], S) := rn_step dL_flood_53 rfl rfl
set_option maxRecDepth 100000 in
theorem eL_flood_54 {a0 : Int} {a1 : Int} {l0 l1 l2 l3 l4 l5 l6 l7 l8 l9 l10 l11 l12 : Option VV} {v3 v4 : VV} {S : MM} : rn xL_flood (54, [l0, l1, l2, l3, l4, l5, l6, l7, l8, l9, l10, l11, l12], [vI a1, vI a0, vR 0, v3, v4], S) = (fX8_ofWalker [vR 0, vI a0, vI a1] S).bind (fun q => rn xL_flood (57, [l0, l1, l2, l3, l4, l5, l6, l7, l8, l9, l10, l11, l12], q.1.toList ++ [v3, v4], q.2)) := q_callV (n := 2) (as := [vI a0, vI a1]) (rest := [v3, v4]) dL_flood_54 rfl rfl rfl rfl kd0
set_option maxRecDepth 100000 in
theorem eL_flood_57 {i : Nat} {j z : Int} {l0 l1 l2 l3 l4 l5 l6 l7 l8 l9 l10 l11 l12 : Option VV} (h : kd i = 10) (h0 : 0 ≤ j) (h1 : j < alen i) {S : MM} : rn xL_flood (57, [l0, l1, l2, l3, l4, l5, l6, l7, l8, l9, l10, l11, l12], [vI z, vI j, vR i], S) = rn xL_flood (58, [l0, l1, l2, l3, l4, l5, l6, l7, l8, l9, l10, l11, l12], [], updM S i j.toNat z) := q_iast dL_flood_57 h h0 h1
set_option maxRecDepth 100000 in
theorem eL_flood_57z {j z : Int} {l0 l1 l2 l3 l4 l5 l6 l7 l8 l9 l10 l11 l12 : Option VV} {S : MM} (h : S 604 3 = 3) (h0 : 0 ≤ j) (h1 : j < 3) : rn xL_flood (57, [l0, l1, l2, l3, l4, l5, l6, l7, l8, l9, l10, l11, l12], [vI z, vI j, vR 606], S) = rn xL_flood (58, [l0, l1, l2, l3, l4, l5, l6, l7, l8, l9, l10, l11, l12], [], updM S 606 j.toNat z) := q_iast5 dL_flood_57 h h0 h1
set_option maxRecDepth 100000 in
theorem eL_flood_58 {a : Int} {l0 l2 l3 l4 l5 l6 l7 l8 l9 l10 l11 l12 : Option VV} {S : MM} : rn xL_flood (58, [l0, some (vI a), l2, l3, l4, l5, l6, l7, l8, l9, l10, l11, l12], [], S) = rn xL_flood (59, [l0, some (vI a), l2, l3, l4, l5, l6, l7, l8, l9, l10, l11, l12], [vI a], S) := rn_step dL_flood_58 rfl rfl
set_option maxRecDepth 100000 in
theorem eL_flood_59 {l0 l1 l2 l3 l4 l5 l6 l7 l8 l9 l10 l11 l12 : Option VV} {v0 : VV} {S : MM} : rn xL_flood (59, [l0, l1, l2, l3, l4, l5, l6, l7, l8, l9, l10, l11, l12], [v0], S) = rn xL_flood (61, [l0, l1, l2, l3, l4, l5, l6, l7, l8, l9, l10, l11, l12], [vI (-6), v0], S) := rn_step dL_flood_59 rfl rfl
set_option maxRecDepth 100000 in
theorem eL_flood_61 {a b : Int} {l0 l1 l2 l3 l4 l5 l6 l7 l8 l9 l10 l11 l12 : Option VV} (h : -2147483648 ≤ a ∧ a ≤ 2147483647) (h1 : -2147483648 ≤ b ∧ b ≤ 2147483647) {S : MM} : rn xL_flood (61, [l0, l1, l2, l3, l4, l5, l6, l7, l8, l9, l10, l11, l12], [vI b, vI a], S) = if a = b then rn xL_flood (73, [l0, l1, l2, l3, l4, l5, l6, l7, l8, l9, l10, l11, l12], [], S) else rn xL_flood (64, [l0, l1, l2, l3, l4, l5, l6, l7, l8, l9, l10, l11, l12], [], S) := q_icmp_eq dL_flood_61 (by decide) rfl h h1
set_option maxRecDepth 100000 in
theorem eL_flood_64 {a : Int} {l0 l2 l3 l4 l5 l6 l7 l8 l9 l10 l11 l12 : Option VV} {S : MM} : rn xL_flood (64, [l0, some (vI a), l2, l3, l4, l5, l6, l7, l8, l9, l10, l11, l12], [], S) = rn xL_flood (65, [l0, some (vI a), l2, l3, l4, l5, l6, l7, l8, l9, l10, l11, l12], [vI a], S) := rn_step dL_flood_64 rfl rfl
set_option maxRecDepth 100000 in
theorem eL_flood_65 {a : Int} {l0 l1 l2 l3 l4 l5 l6 l7 l8 l9 l11 l12 : Option VV} {v0 : VV} {S : MM} : rn xL_flood (65, [l0, l1, l2, l3, l4, l5, l6, l7, l8, l9, some (vI a), l11, l12], [v0], S) = rn xL_flood (67, [l0, l1, l2, l3, l4, l5, l6, l7, l8, l9, some (vI a), l11, l12], [vI a, v0], S) := rn_step dL_flood_65 rfl rfl
set_option maxRecDepth 100000 in
theorem eL_flood_67 {a b : Int} {l0 l1 l2 l3 l4 l5 l6 l7 l8 l9 l10 l11 l12 : Option VV} (h : -2147483648 ≤ a ∧ a ≤ 2147483647) (h1 : -2147483648 ≤ b ∧ b ≤ 2147483647) {S : MM} : rn xL_flood (67, [l0, l1, l2, l3, l4, l5, l6, l7, l8, l9, l10, l11, l12], [vI b, vI a], S) = if a = b then rn xL_flood (73, [l0, l1, l2, l3, l4, l5, l6, l7, l8, l9, l10, l11, l12], [], S) else rn xL_flood (70, [l0, l1, l2, l3, l4, l5, l6, l7, l8, l9, l10, l11, l12], [], S) := q_icmp_eq dL_flood_67 (by decide) rfl h h1
set_option maxRecDepth 100000 in
theorem eL_flood_70 {l0 l1 l2 l3 l4 l5 l6 l7 l8 l9 l10 l11 l12 : Option VV} {S : MM} : rn xL_flood (70, [l0, l1, l2, l3, l4, l5, l6, l7, l8, l9, l10, l11, l12], [], S) = rn xL_flood (116, [l0, l1, l2, l3, l4, l5, l6, l7, l8, l9, l10, l11, l12], [], S) := rn_step dL_flood_70 rfl rfl
set_option maxRecDepth 100000 in
theorem eL_flood_73 {a : Option Nat} {l1 l2 l3 l4 l5 l6 l7 l8 l9 l10 l11 l12 : Option VV} {S : MM} : rn xL_flood (73, [some (.inr (.inl a)), l1, l2, l3, l4, l5, l6, l7, l8, l9, l10, l11, l12], [], S) = rn xL_flood (74, [some (.inr (.inl a)), l1, l2, l3, l4, l5, l6, l7, l8, l9, l10, l11, l12], [.inr (.inl a)], S) := rn_step dL_flood_73 rfl rfl
set_option maxRecDepth 100000 in
theorem eL_flood_74 {a : Int} {l0 l1 l2 l3 l4 l5 l6 l7 l8 l9 l11 l12 : Option VV} {v0 : VV} {S : MM} : rn xL_flood (74, [l0, l1, l2, l3, l4, l5, l6, l7, l8, l9, some (vI a), l11, l12], [v0], S) = rn xL_flood (76, [l0, l1, l2, l3, l4, l5, l6, l7, l8, l9, some (vI a), l11, l12], [vI a, v0], S) := rn_step dL_flood_74 rfl rfl
set_option maxRecDepth 100000 in
theorem eL_flood_76 {a : Int} {l0 l1 l3 l4 l5 l6 l7 l8 l9 l10 l11 l12 : Option VV} {v0 v1 : VV} {S : MM} : rn xL_flood (76, [l0, l1, some (vI a), l3, l4, l5, l6, l7, l8, l9, l10, l11, l12], [v0, v1], S) = rn xL_flood (77, [l0, l1, some (vI a), l3, l4, l5, l6, l7, l8, l9, l10, l11, l12], [vI a, v0, v1], S) := rn_step dL_flood_76 rfl rfl
set_option maxRecDepth 100000 in
theorem eL_flood_77 {a0 : Option Nat} {a1 : Int} {a2 : Int} {l0 l1 l2 l3 l4 l5 l6 l7 l8 l9 l10 l11 l12 : Option VV} {S : MM} : rn xL_flood (77, [l0, l1, l2, l3, l4, l5, l6, l7, l8, l9, l10, l11, l12], [vI a2, vI a1, .inr (.inl a0)], S) = (fL_from [.inr (.inl a0), vI a1, vI a2] S).bind (fun q => rn xL_flood (80, [l0, l1, l2, l3, l4, l5, l6, l7, l8, l9, l10, l11, l12], q.1.toList ++ [], q.2)) := q_callS (n := 3) (as := [.inr (.inl a0), vI a1, vI a2]) (rest := []) dL_flood_77 rfl rfl rfl rfl
set_option maxRecDepth 100000 in
theorem eL_flood_80 {a : Int} {w : Int} {l0 l1 l2 l3 l4 l5 l6 l7 l8 l9 l11 l12 : Option VV} {S : MM} : rn xL_flood (80, [l0, l1, l2, l3, l4, l5, l6, l7, l8, l9, some (vI w), l11, l12], [vI a], S) = rn xL_flood (82, [l0, l1, l2, l3, l4, l5, l6, l7, l8, l9, some (vI w), some (vI a), l12], [], S) := rn_step dL_flood_80 rfl rfl
set_option maxRecDepth 100000 in
theorem eL_flood_82 {a : Int} {l0 l1 l2 l3 l4 l5 l6 l7 l8 l9 l10 l12 : Option VV} {S : MM} : rn xL_flood (82, [l0, l1, l2, l3, l4, l5, l6, l7, l8, l9, l10, some (vI a), l12], [], S) = rn xL_flood (84, [l0, l1, l2, l3, l4, l5, l6, l7, l8, l9, l10, some (vI a), l12], [vI a], S) := rn_step dL_flood_82 rfl rfl
set_option maxRecDepth 100000 in
theorem eL_flood_84 {a : Option Nat} {l1 l2 l3 l4 l5 l6 l7 l8 l9 l10 l11 l12 : Option VV} {v0 : VV} {S : MM} : rn xL_flood (84, [some (.inr (.inl a)), l1, l2, l3, l4, l5, l6, l7, l8, l9, l10, l11, l12], [v0], S) = rn xL_flood (85, [some (.inr (.inl a)), l1, l2, l3, l4, l5, l6, l7, l8, l9, l10, l11, l12], [.inr (.inl a), v0], S) := rn_step dL_flood_84 rfl rfl
set_option maxRecDepth 100000 in
theorem eL_flood_85 {a : Int} {l0 l1 l2 l3 l4 l5 l6 l7 l8 l9 l11 l12 : Option VV} {v0 v1 : VV} {S : MM} : rn xL_flood (85, [l0, l1, l2, l3, l4, l5, l6, l7, l8, l9, some (vI a), l11, l12], [v0, v1], S) = rn xL_flood (87, [l0, l1, l2, l3, l4, l5, l6, l7, l8, l9, some (vI a), l11, l12], [vI a, v0, v1], S) := rn_step dL_flood_85 rfl rfl
set_option maxRecDepth 100000 in
theorem eL_flood_87 {l0 l1 l2 l3 l4 l5 l6 l7 l8 l9 l10 l11 l12 : Option VV} {v0 v1 v2 : VV} {S : MM} : rn xL_flood (87, [l0, l1, l2, l3, l4, l5, l6, l7, l8, l9, l10, l11, l12], [v0, v1, v2], S) = rn xL_flood (88, [l0, l1, l2, l3, l4, l5, l6, l7, l8, l9, l10, l11, l12], [vI 0, v0, v1, v2], S) := rn_step dL_flood_87 rfl rfl
set_option maxRecDepth 100000 in
theorem eL_flood_88 {a0 : Int} {a1 : Int} {l0 l1 l2 l3 l4 l5 l6 l7 l8 l9 l10 l11 l12 : Option VV} {v3 : VV} {S : MM} : rn xL_flood (88, [l0, l1, l2, l3, l4, l5, l6, l7, l8, l9, l10, l11, l12], [vI a1, vI a0, vR 0, v3], S) = (fX8_ofWalker [vR 0, vI a0, vI a1] S).bind (fun q => rn xL_flood (91, [l0, l1, l2, l3, l4, l5, l6, l7, l8, l9, l10, l11, l12], q.1.toList ++ [v3], q.2)) := q_callV (n := 2) (as := [vI a0, vI a1]) (rest := [v3]) dL_flood_88 rfl rfl rfl rfl kd0
set_option maxRecDepth 100000 in
theorem eL_flood_91 {a b : Int} {l0 l1 l2 l3 l4 l5 l6 l7 l8 l9 l10 l11 l12 : Option VV} (h : -2147483648 ≤ a ∧ a ≤ 2147483647) (h1 : -2147483648 ≤ b ∧ b ≤ 2147483647) {S : MM} : rn xL_flood (91, [l0, l1, l2, l3, l4, l5, l6, l7, l8, l9, l10, l11, l12], [vI b, vI a], S) = if a < b then rn xL_flood (94, [l0, l1, l2, l3, l4, l5, l6, l7, l8, l9, l10, l11, l12], [], S) else rn xL_flood (116, [l0, l1, l2, l3, l4, l5, l6, l7, l8, l9, l10, l11, l12], [], S) := q_icmp_ge dL_flood_91 (by decide) rfl h h1
set_option maxRecDepth 100000 in
theorem eL_flood_94 {a : Option Nat} {l1 l2 l3 l4 l5 l6 l7 l8 l9 l10 l11 l12 : Option VV} {S : MM} : rn xL_flood (94, [some (.inr (.inl a)), l1, l2, l3, l4, l5, l6, l7, l8, l9, l10, l11, l12], [], S) = rn xL_flood (95, [some (.inr (.inl a)), l1, l2, l3, l4, l5, l6, l7, l8, l9, l10, l11, l12], [.inr (.inl a)], S) := rn_step dL_flood_94 rfl rfl
set_option maxRecDepth 100000 in
theorem eL_flood_95 {a : Int} {l0 l1 l2 l3 l4 l5 l6 l7 l8 l9 l11 l12 : Option VV} {v0 : VV} {S : MM} : rn xL_flood (95, [l0, l1, l2, l3, l4, l5, l6, l7, l8, l9, some (vI a), l11, l12], [v0], S) = rn xL_flood (97, [l0, l1, l2, l3, l4, l5, l6, l7, l8, l9, some (vI a), l11, l12], [vI a, v0], S) := rn_step dL_flood_95 rfl rfl
set_option maxRecDepth 100000 in
theorem eL_flood_97 {a : Int} {l0 l1 l2 l3 l4 l5 l6 l7 l8 l9 l10 l12 : Option VV} {v0 v1 : VV} {S : MM} : rn xL_flood (97, [l0, l1, l2, l3, l4, l5, l6, l7, l8, l9, l10, some (vI a), l12], [v0, v1], S) = rn xL_flood (99, [l0, l1, l2, l3, l4, l5, l6, l7, l8, l9, l10, some (vI a), l12], [vI a, v0, v1], S) := rn_step dL_flood_97 rfl rfl
set_option maxRecDepth 100000 in
theorem eL_flood_99 {l0 l1 l2 l3 l4 l5 l6 l7 l8 l9 l10 l11 l12 : Option VV} {v0 v1 v2 : VV} {S : MM} : rn xL_flood (99, [l0, l1, l2, l3, l4, l5, l6, l7, l8, l9, l10, l11, l12], [v0, v1, v2], S) = rn xL_flood (100, [l0, l1, l2, l3, l4, l5, l6, l7, l8, l9, l10, l11, l12], [vI 0, v0, v1, v2], S) := rn_step dL_flood_99 rfl rfl
set_option maxRecDepth 100000 in
theorem eL_flood_100 {a0 : Int} {a1 : Int} {a2 : Int} {l0 l1 l2 l3 l4 l5 l6 l7 l8 l9 l10 l11 l12 : Option VV} {S : MM} : rn xL_flood (100, [l0, l1, l2, l3, l4, l5, l6, l7, l8, l9, l10, l11, l12], [vI a2, vI a1, vI a0, vR 0], S) = (fX8_ofStone [vR 0, vI a0, vI a1, vI a2] S).bind (fun q => rn xL_flood (103, [l0, l1, l2, l3, l4, l5, l6, l7, l8, l9, l10, l11, l12], q.1.toList ++ [], q.2)) := q_callV (n := 3) (as := [vI a0, vI a1, vI a2]) (rest := []) dL_flood_100 rfl rfl rfl rfl kd0
set_option maxRecDepth 100000 in
theorem eL_flood_103 {a : Int} {l0 l1 l2 l4 l5 l6 l7 l8 l9 l10 l11 l12 : Option VV} {v0 : VV} {S : MM} : rn xL_flood (103, [l0, l1, l2, some (vI a), l4, l5, l6, l7, l8, l9, l10, l11, l12], [v0], S) = rn xL_flood (104, [l0, l1, l2, some (vI a), l4, l5, l6, l7, l8, l9, l10, l11, l12], [vI a, v0], S) := rn_step dL_flood_103 rfl rfl
set_option maxRecDepth 100000 in
theorem eL_flood_104 {a b : Int} {l0 l1 l2 l3 l4 l5 l6 l7 l8 l9 l10 l11 l12 : Option VV} (h : -2147483648 ≤ a ∧ a ≤ 2147483647) (h1 : -2147483648 ≤ b ∧ b ≤ 2147483647) {S : MM} : rn xL_flood (104, [l0, l1, l2, l3, l4, l5, l6, l7, l8, l9, l10, l11, l12], [vI b, vI a], S) = if b < a then rn xL_flood (116, [l0, l1, l2, l3, l4, l5, l6, l7, l8, l9, l10, l11, l12], [], S) else rn xL_flood (107, [l0, l1, l2, l3, l4, l5, l6, l7, l8, l9, l10, l11, l12], [], S) := q_icmp_gt dL_flood_104 (by decide) rfl h h1
set_option maxRecDepth 100000 in
theorem eL_flood_107 {a : Int} {w : Option Nat} {l0 l1 l2 l3 l6 l7 l8 l9 l10 l11 l12 : Option VV} {S : MM} : rn xL_flood (107, [l0, l1, l2, l3, some (.inr (.inl w)), some (vI a), l6, l7, l8, l9, l10, l11, l12], [], S) = rn xL_flood (110, [l0, l1, l2, l3, some (.inr (.inl w)), some (vI (a + 1)), l6, l7, l8, l9, l10, l11, l12], [], S) := rn_step dL_flood_107 rfl rfl
set_option maxRecDepth 100000 in
theorem eL_flood_110 {a : Int} {w : Int} {l0 l1 l2 l3 l4 l5 l6 l7 l8 l9 l12 : Option VV} {S : MM} : rn xL_flood (110, [l0, l1, l2, l3, l4, l5, l6, l7, l8, l9, some (vI w), some (vI a), l12], [], S) = rn xL_flood (113, [l0, l1, l2, l3, l4, l5, l6, l7, l8, l9, some (vI w), some (vI (a + 1)), l12], [], S) := rn_step dL_flood_110 rfl rfl
set_option maxRecDepth 100000 in
theorem eL_flood_113 {l0 l1 l2 l3 l4 l5 l6 l7 l8 l9 l10 l11 l12 : Option VV} {S : MM} : rn xL_flood (113, [l0, l1, l2, l3, l4, l5, l6, l7, l8, l9, l10, l11, l12], [], S) = rn xL_flood (82, [l0, l1, l2, l3, l4, l5, l6, l7, l8, l9, l10, l11, l12], [], S) := rn_step dL_flood_113 rfl rfl
set_option maxRecDepth 100000 in
theorem eL_flood_116 {a : Int} {w : Int} {l0 l1 l2 l3 l4 l5 l6 l7 l8 l11 l12 : Option VV} {S : MM} : rn xL_flood (116, [l0, l1, l2, l3, l4, l5, l6, l7, l8, some (vI w), some (vI a), l11, l12], [], S) = rn xL_flood (119, [l0, l1, l2, l3, l4, l5, l6, l7, l8, some (vI w), some (vI (a + 1)), l11, l12], [], S) := rn_step dL_flood_116 rfl rfl
set_option maxRecDepth 100000 in
theorem eL_flood_119 {l0 l1 l2 l3 l4 l5 l6 l7 l8 l9 l10 l11 l12 : Option VV} {S : MM} : rn xL_flood (119, [l0, l1, l2, l3, l4, l5, l6, l7, l8, l9, l10, l11, l12], [], S) = rn xL_flood (40, [l0, l1, l2, l3, l4, l5, l6, l7, l8, l9, l10, l11, l12], [], S) := rn_step dL_flood_119 rfl rfl
set_option maxRecDepth 100000 in
theorem eL_flood_122 {a : Option Nat} {l1 l2 l3 l4 l5 l6 l7 l8 l9 l10 l11 l12 : Option VV} {S : MM} : rn xL_flood (122, [some (.inr (.inl a)), l1, l2, l3, l4, l5, l6, l7, l8, l9, l10, l11, l12], [], S) = rn xL_flood (123, [some (.inr (.inl a)), l1, l2, l3, l4, l5, l6, l7, l8, l9, l10, l11, l12], [.inr (.inl a)], S) := rn_step dL_flood_122 rfl rfl
set_option maxRecDepth 100000 in
theorem eL_flood_123 {a : Int} {l0 l2 l3 l4 l5 l6 l7 l8 l9 l10 l11 l12 : Option VV} {v0 : VV} {S : MM} : rn xL_flood (123, [l0, some (vI a), l2, l3, l4, l5, l6, l7, l8, l9, l10, l11, l12], [v0], S) = rn xL_flood (124, [l0, some (vI a), l2, l3, l4, l5, l6, l7, l8, l9, l10, l11, l12], [vI a, v0], S) := rn_step dL_flood_123 rfl rfl
set_option maxRecDepth 100000 in
theorem eL_flood_124 {a : Int} {l0 l1 l3 l4 l5 l6 l7 l8 l9 l10 l11 l12 : Option VV} {v0 v1 : VV} {S : MM} : rn xL_flood (124, [l0, l1, some (vI a), l3, l4, l5, l6, l7, l8, l9, l10, l11, l12], [v0, v1], S) = rn xL_flood (125, [l0, l1, some (vI a), l3, l4, l5, l6, l7, l8, l9, l10, l11, l12], [vI a, v0, v1], S) := rn_step dL_flood_124 rfl rfl
set_option maxRecDepth 100000 in
theorem eL_flood_125 {a : Int} {l0 l1 l2 l4 l5 l6 l7 l8 l9 l10 l11 l12 : Option VV} {v0 v1 v2 : VV} {S : MM} : rn xL_flood (125, [l0, l1, l2, some (vI a), l4, l5, l6, l7, l8, l9, l10, l11, l12], [v0, v1, v2], S) = rn xL_flood (126, [l0, l1, l2, some (vI a), l4, l5, l6, l7, l8, l9, l10, l11, l12], [vI a, v0, v1, v2], S) := rn_step dL_flood_125 rfl rfl
set_option maxRecDepth 100000 in
theorem eL_flood_126 {a0 : Int} {a1 : Int} {a2 : Int} {l0 l1 l2 l3 l4 l5 l6 l7 l8 l9 l10 l11 l12 : Option VV} {S : MM} : rn xL_flood (126, [l0, l1, l2, l3, l4, l5, l6, l7, l8, l9, l10, l11, l12], [vI a2, vI a1, vI a0, vR 0], S) = (fX8_flood [vR 0, vI a0, vI a1, vI a2] S).bind (fun q => rn xL_flood (129, [l0, l1, l2, l3, l4, l5, l6, l7, l8, l9, l10, l11, l12], q.1.toList ++ [], q.2)) := q_callV (n := 3) (as := [vI a0, vI a1, vI a2]) (rest := []) dL_flood_126 rfl rfl rfl rfl kd0
set_option maxRecDepth 100000 in
theorem eL_flood_129 {a : Int} {l0 l1 l2 l3 l4 l6 l7 l8 l9 l10 l11 l12 : Option VV} {v0 : VV} {S : MM} : rn xL_flood (129, [l0, l1, l2, l3, l4, some (vI a), l6, l7, l8, l9, l10, l11, l12], [v0], S) = rn xL_flood (131, [l0, l1, l2, l3, l4, some (vI a), l6, l7, l8, l9, l10, l11, l12], [vI a, v0], S) := rn_step dL_flood_129 rfl rfl
set_option maxRecDepth 100000 in
theorem eL_flood_131 {a b : Int} {l0 l1 l2 l3 l4 l5 l6 l7 l8 l9 l10 l11 l12 : Option VV} (h : -2147483648 ≤ a ∧ a ≤ 2147483647) (h1 : -2147483648 ≤ b ∧ b ≤ 2147483647) {S : MM} : rn xL_flood (131, [l0, l1, l2, l3, l4, l5, l6, l7, l8, l9, l10, l11, l12], [vI b, vI a], S) = if a = b then rn xL_flood (134, [l0, l1, l2, l3, l4, l5, l6, l7, l8, l9, l10, l11, l12], [], S) else rn xL_flood (169, [l0, l1, l2, l3, l4, l5, l6, l7, l8, l9, l10, l11, l12], [], S) := q_icmp_ne dL_flood_131 (by decide) rfl h h1
set_option maxRecDepth 100000 in
theorem eL_flood_134 {a : Option Nat} {l1 l2 l3 l4 l5 l6 l7 l8 l9 l10 l11 l12 : Option VV} {S : MM} : rn xL_flood (134, [some (.inr (.inl a)), l1, l2, l3, l4, l5, l6, l7, l8, l9, l10, l11, l12], [], S) = rn xL_flood (135, [some (.inr (.inl a)), l1, l2, l3, l4, l5, l6, l7, l8, l9, l10, l11, l12], [.inr (.inl a)], S) := rn_step dL_flood_134 rfl rfl
set_option maxRecDepth 100000 in
theorem eL_flood_135 {l0 l1 l2 l3 l4 l5 l6 l7 l8 l9 l10 l11 l12 : Option VV} {v0 : VV} {S : MM} : rn xL_flood (135, [l0, l1, l2, l3, l4, l5, l6, l7, l8, l9, l10, l11, l12], [v0], S) = rn xL_flood (136, [l0, l1, l2, l3, l4, l5, l6, l7, l8, l9, l10, l11, l12], [vI 0, v0], S) := rn_step dL_flood_135 rfl rfl
set_option maxRecDepth 100000 in
theorem eL_flood_136 {a0 : Int} {l0 l1 l2 l3 l4 l5 l6 l7 l8 l9 l10 l11 l12 : Option VV} {S : MM} : rn xL_flood (136, [l0, l1, l2, l3, l4, l5, l6, l7, l8, l9, l10, l11, l12], [vI a0, vR 0], S) = (fX8_count [vR 0, vI a0] S).bind (fun q => rn xL_flood (139, [l0, l1, l2, l3, l4, l5, l6, l7, l8, l9, l10, l11, l12], q.1.toList ++ [], q.2)) := q_callV (n := 1) (as := [vI a0]) (rest := []) dL_flood_136 rfl rfl rfl rfl kd0
set_option maxRecDepth 100000 in
theorem eL_flood_139 {a : Int} {l0 l1 l2 l3 l4 l5 l6 l7 l8 l10 l11 l12 : Option VV} {v0 : VV} {S : MM} : rn xL_flood (139, [l0, l1, l2, l3, l4, l5, l6, l7, l8, some (vI a), l10, l11, l12], [v0], S) = rn xL_flood (141, [l0, l1, l2, l3, l4, l5, l6, l7, l8, some (vI a), l10, l11, l12], [vI a, v0], S) := rn_step dL_flood_139 rfl rfl
set_option maxRecDepth 100000 in
theorem eL_flood_141 {a : Int} {l0 l1 l2 l3 l4 l6 l7 l8 l9 l10 l11 l12 : Option VV} {v0 v1 : VV} {S : MM} : rn xL_flood (141, [l0, l1, l2, l3, l4, some (vI a), l6, l7, l8, l9, l10, l11, l12], [v0, v1], S) = rn xL_flood (143, [l0, l1, l2, l3, l4, some (vI a), l6, l7, l8, l9, l10, l11, l12], [vI a, v0, v1], S) := rn_step dL_flood_141 rfl rfl
set_option maxRecDepth 100000 in
theorem eL_flood_143 {a b : Int} {l0 l1 l2 l3 l4 l5 l6 l7 l8 l9 l10 l11 l12 : Option VV} {v2 : VV} {S : MM} : rn xL_flood (143, [l0, l1, l2, l3, l4, l5, l6, l7, l8, l9, l10, l11, l12], [vI b, vI a, v2], S) = rn xL_flood (144, [l0, l1, l2, l3, l4, l5, l6, l7, l8, l9, l10, l11, l12], [vI (a - b), v2], S) := rn_step dL_flood_143 rfl rfl
set_option maxRecDepth 100000 in
theorem eL_flood_144 {a b : Int} {l0 l1 l2 l3 l4 l5 l6 l7 l8 l9 l10 l11 l12 : Option VV} (h : -2147483648 ≤ a ∧ a ≤ 2147483647) (h1 : -2147483648 ≤ b ∧ b ≤ 2147483647) {S : MM} : rn xL_flood (144, [l0, l1, l2, l3, l4, l5, l6, l7, l8, l9, l10, l11, l12], [vI b, vI a], S) = if a = b then rn xL_flood (147, [l0, l1, l2, l3, l4, l5, l6, l7, l8, l9, l10, l11, l12], [], S) else rn xL_flood (169, [l0, l1, l2, l3, l4, l5, l6, l7, l8, l9, l10, l11, l12], [], S) := q_icmp_ne dL_flood_144 (by decide) rfl h h1
set_option maxRecDepth 100000 in
theorem eL_flood_147 {a : Option Nat} {l1 l2 l3 l4 l5 l6 l7 l8 l9 l10 l11 l12 : Option VV} {S : MM} : rn xL_flood (147, [some (.inr (.inl a)), l1, l2, l3, l4, l5, l6, l7, l8, l9, l10, l11, l12], [], S) = rn xL_flood (148, [some (.inr (.inl a)), l1, l2, l3, l4, l5, l6, l7, l8, l9, l10, l11, l12], [.inr (.inl a)], S) := rn_step dL_flood_147 rfl rfl
set_option maxRecDepth 100000 in
theorem eL_flood_148 {l0 l1 l2 l3 l4 l5 l6 l7 l8 l9 l10 l11 l12 : Option VV} {v0 : VV} {S : MM} : rn xL_flood (148, [l0, l1, l2, l3, l4, l5, l6, l7, l8, l9, l10, l11, l12], [v0], S) = rn xL_flood (149, [l0, l1, l2, l3, l4, l5, l6, l7, l8, l9, l10, l11, l12], [vI 1, v0], S) := rn_step dL_flood_148 rfl rfl
set_option maxRecDepth 100000 in
theorem eL_flood_149 {a0 : Int} {l0 l1 l2 l3 l4 l5 l6 l7 l8 l9 l10 l11 l12 : Option VV} {S : MM} : rn xL_flood (149, [l0, l1, l2, l3, l4, l5, l6, l7, l8, l9, l10, l11, l12], [vI a0, vR 0], S) = (fX8_count [vR 0, vI a0] S).bind (fun q => rn xL_flood (152, [l0, l1, l2, l3, l4, l5, l6, l7, l8, l9, l10, l11, l12], q.1.toList ++ [], q.2)) := q_callV (n := 1) (as := [vI a0]) (rest := []) dL_flood_149 rfl rfl rfl rfl kd0
set_option maxRecDepth 100000 in
theorem eL_flood_152 {a : Int} {l0 l1 l2 l3 l4 l5 l6 l7 l9 l10 l11 l12 : Option VV} {v0 : VV} {S : MM} : rn xL_flood (152, [l0, l1, l2, l3, l4, l5, l6, l7, some (vI a), l9, l10, l11, l12], [v0], S) = rn xL_flood (154, [l0, l1, l2, l3, l4, l5, l6, l7, some (vI a), l9, l10, l11, l12], [vI a, v0], S) := rn_step dL_flood_152 rfl rfl
set_option maxRecDepth 100000 in
theorem eL_flood_154 {l0 l1 l2 l3 l4 l5 l6 l7 l8 l9 l10 l11 l12 : Option VV} {v0 v1 : VV} {S : MM} : rn xL_flood (154, [l0, l1, l2, l3, l4, l5, l6, l7, l8, l9, l10, l11, l12], [v0, v1], S) = rn xL_flood (155, [l0, l1, l2, l3, l4, l5, l6, l7, l8, l9, l10, l11, l12], [vI 4, v0, v1], S) := rn_step dL_flood_154 rfl rfl
set_option maxRecDepth 100000 in
theorem eL_flood_155 {a b : Int} {l0 l1 l2 l3 l4 l5 l6 l7 l8 l9 l10 l11 l12 : Option VV} {v2 : VV} (h : -2147483648 ≤ a ∧ a ≤ 2147483647) (h1 : -2147483648 ≤ b ∧ b ≤ 2147483647) {S : MM} : rn xL_flood (155, [l0, l1, l2, l3, l4, l5, l6, l7, l8, l9, l10, l11, l12], [vI b, vI a, v2], S) = if a < b then rn xL_flood (158, [l0, l1, l2, l3, l4, l5, l6, l7, l8, l9, l10, l11, l12], [v2], S) else rn xL_flood (165, [l0, l1, l2, l3, l4, l5, l6, l7, l8, l9, l10, l11, l12], [v2], S) := q_icmp_ge dL_flood_155 (by decide) rfl h h1
set_option maxRecDepth 100000 in
theorem eL_flood_158 {a : Int} {l0 l1 l2 l3 l4 l5 l6 l7 l9 l10 l11 l12 : Option VV} {v0 : VV} {S : MM} : rn xL_flood (158, [l0, l1, l2, l3, l4, l5, l6, l7, some (vI a), l9, l10, l11, l12], [v0], S) = rn xL_flood (160, [l0, l1, l2, l3, l4, l5, l6, l7, some (vI a), l9, l10, l11, l12], [vI a, v0], S) := rn_step dL_flood_158 rfl rfl
set_option maxRecDepth 100000 in
theorem eL_flood_160 {l0 l1 l2 l3 l4 l5 l6 l7 l8 l9 l10 l11 l12 : Option VV} {v0 v1 : VV} {S : MM} : rn xL_flood (160, [l0, l1, l2, l3, l4, l5, l6, l7, l8, l9, l10, l11, l12], [v0, v1], S) = rn xL_flood (161, [l0, l1, l2, l3, l4, l5, l6, l7, l8, l9, l10, l11, l12], [vI 1, v0, v1], S) := rn_step dL_flood_160 rfl rfl
set_option maxRecDepth 100000 in
theorem eL_flood_161 {a b : Int} {l0 l1 l2 l3 l4 l5 l6 l7 l8 l9 l10 l11 l12 : Option VV} {v2 : VV} {S : MM} : rn xL_flood (161, [l0, l1, l2, l3, l4, l5, l6, l7, l8, l9, l10, l11, l12], [vI b, vI a, v2], S) = rn xL_flood (162, [l0, l1, l2, l3, l4, l5, l6, l7, l8, l9, l10, l11, l12], [vI (a + b), v2], S) := rn_step dL_flood_161 rfl rfl
set_option maxRecDepth 100000 in
theorem eL_flood_162 {l0 l1 l2 l3 l4 l5 l6 l7 l8 l9 l10 l11 l12 : Option VV} {v0 v1 : VV} {S : MM} : rn xL_flood (162, [l0, l1, l2, l3, l4, l5, l6, l7, l8, l9, l10, l11, l12], [v0, v1], S) = rn xL_flood (166, [l0, l1, l2, l3, l4, l5, l6, l7, l8, l9, l10, l11, l12], [v0, v1], S) := rn_step dL_flood_162 rfl rfl
set_option maxRecDepth 100000 in
theorem eL_flood_165 {l0 l1 l2 l3 l4 l5 l6 l7 l8 l9 l10 l11 l12 : Option VV} {v0 : VV} {S : MM} : rn xL_flood (165, [l0, l1, l2, l3, l4, l5, l6, l7, l8, l9, l10, l11, l12], [v0], S) = rn xL_flood (166, [l0, l1, l2, l3, l4, l5, l6, l7, l8, l9, l10, l11, l12], [vI 4, v0], S) := rn_step dL_flood_165 rfl rfl
set_option maxRecDepth 100000 in
theorem eL_flood_166 {a b : Int} {l0 l1 l2 l3 l4 l5 l6 l7 l8 l9 l10 l11 l12 : Option VV} (h : -2147483648 ≤ a ∧ a ≤ 2147483647) (h1 : -2147483648 ≤ b ∧ b ≤ 2147483647) {S : MM} : rn xL_flood (166, [l0, l1, l2, l3, l4, l5, l6, l7, l8, l9, l10, l11, l12], [vI b, vI a], S) = if a = b then rn xL_flood (171, [l0, l1, l2, l3, l4, l5, l6, l7, l8, l9, l10, l11, l12], [], S) else rn xL_flood (169, [l0, l1, l2, l3, l4, l5, l6, l7, l8, l9, l10, l11, l12], [], S) := q_icmp_eq dL_flood_166 (by decide) rfl h h1
set_option maxRecDepth 100000 in
theorem eL_flood_169 {l0 l1 l2 l3 l4 l5 l6 l7 l8 l9 l10 l11 l12 : Option VV} {S : MM} : rn xL_flood (169, [l0, l1, l2, l3, l4, l5, l6, l7, l8, l9, l10, l11, l12], [], S) = rn xL_flood (170, [l0, l1, l2, l3, l4, l5, l6, l7, l8, l9, l10, l11, l12], [vI 0], S) := rn_step dL_flood_169 rfl rfl
set_option maxRecDepth 100000 in
theorem eL_flood_170 {z : Int} {l0 l1 l2 l3 l4 l5 l6 l7 l8 l9 l10 l11 l12 : Option VV} (hz : z = 0 ∨ z = 1) {S : MM} : rn xL_flood (170, [l0, l1, l2, l3, l4, l5, l6, l7, l8, l9, l10, l11, l12], [vI z], S) = some (some (vI z), S) := q_retZ dL_flood_170 rfl hz
set_option maxRecDepth 100000 in
theorem eL_flood_171 {l0 l1 l2 l3 l4 l5 l6 l7 l8 l9 l10 l11 l12 : Option VV} {S : MM} : rn xL_flood (171, [l0, l1, l2, l3, l4, l5, l6, l7, l8, l9, l10, l11, l12], [], S) = rn xL_flood (172, [l0, l1, l2, l3, l4, l5, l6, l7, l8, l9, l10, l11, l12], [vI 0], S) := rn_step dL_flood_171 rfl rfl
set_option maxRecDepth 100000 in
theorem eL_flood_172 {a : Int} {w : Int} {l0 l1 l2 l3 l4 l5 l6 l7 l8 l10 l11 l12 : Option VV} {S : MM} : rn xL_flood (172, [l0, l1, l2, l3, l4, l5, l6, l7, l8, some (vI w), l10, l11, l12], [vI a], S) = rn xL_flood (174, [l0, l1, l2, l3, l4, l5, l6, l7, l8, some (vI w), some (vI a), l11, l12], [], S) := rn_step dL_flood_172 rfl rfl
set_option maxRecDepth 100000 in
theorem eL_flood_174 {a : Int} {l0 l1 l2 l3 l4 l5 l6 l7 l8 l9 l11 l12 : Option VV} {S : MM} : rn xL_flood (174, [l0, l1, l2, l3, l4, l5, l6, l7, l8, l9, some (vI a), l11, l12], [], S) = rn xL_flood (176, [l0, l1, l2, l3, l4, l5, l6, l7, l8, l9, some (vI a), l11, l12], [vI a], S) := rn_step dL_flood_174 rfl rfl
set_option maxRecDepth 100000 in
theorem eL_flood_176 {l0 l1 l2 l3 l4 l5 l6 l7 l8 l9 l10 l11 l12 : Option VV} {v0 : VV} {S : MM} : rn xL_flood (176, [l0, l1, l2, l3, l4, l5, l6, l7, l8, l9, l10, l11, l12], [v0], S) = rn xL_flood (177, [l0, l1, l2, l3, l4, l5, l6, l7, l8, l9, l10, l11, l12], [vI 3, v0], S) := rn_step dL_flood_176 rfl rfl
set_option maxRecDepth 100000 in
theorem eL_flood_177 {a b : Int} {l0 l1 l2 l3 l4 l5 l6 l7 l8 l9 l10 l11 l12 : Option VV} (h : -2147483648 ≤ a ∧ a ≤ 2147483647) (h1 : -2147483648 ≤ b ∧ b ≤ 2147483647) {S : MM} : rn xL_flood (177, [l0, l1, l2, l3, l4, l5, l6, l7, l8, l9, l10, l11, l12], [vI b, vI a], S) = if a < b then rn xL_flood (180, [l0, l1, l2, l3, l4, l5, l6, l7, l8, l9, l10, l11, l12], [], S) else rn xL_flood (309, [l0, l1, l2, l3, l4, l5, l6, l7, l8, l9, l10, l11, l12], [], S) := q_icmp_ge dL_flood_177 (by decide) rfl h h1
set_option maxRecDepth 100000 in
theorem eL_flood_180 {a : Int} {l0 l2 l3 l4 l5 l6 l7 l8 l9 l10 l11 l12 : Option VV} {S : MM} : rn xL_flood (180, [l0, some (vI a), l2, l3, l4, l5, l6, l7, l8, l9, l10, l11, l12], [], S) = rn xL_flood (181, [l0, some (vI a), l2, l3, l4, l5, l6, l7, l8, l9, l10, l11, l12], [vI a], S) := rn_step dL_flood_180 rfl rfl
set_option maxRecDepth 100000 in
theorem eL_flood_181 {l0 l1 l2 l3 l4 l5 l6 l7 l8 l9 l10 l11 l12 : Option VV} {v0 : VV} {S : MM} : rn xL_flood (181, [l0, l1, l2, l3, l4, l5, l6, l7, l8, l9, l10, l11, l12], [v0], S) = rn xL_flood (183, [l0, l1, l2, l3, l4, l5, l6, l7, l8, l9, l10, l11, l12], [vI (-6), v0], S) := rn_step dL_flood_181 rfl rfl
set_option maxRecDepth 100000 in
theorem eL_flood_183 {a b : Int} {l0 l1 l2 l3 l4 l5 l6 l7 l8 l9 l10 l11 l12 : Option VV} (h : -2147483648 ≤ a ∧ a ≤ 2147483647) (h1 : -2147483648 ≤ b ∧ b ≤ 2147483647) {S : MM} : rn xL_flood (183, [l0, l1, l2, l3, l4, l5, l6, l7, l8, l9, l10, l11, l12], [vI b, vI a], S) = if a = b then rn xL_flood (192, [l0, l1, l2, l3, l4, l5, l6, l7, l8, l9, l10, l11, l12], [], S) else rn xL_flood (186, [l0, l1, l2, l3, l4, l5, l6, l7, l8, l9, l10, l11, l12], [], S) := q_icmp_eq dL_flood_183 (by decide) rfl h h1
set_option maxRecDepth 100000 in
theorem eL_flood_186 {a : Int} {l0 l2 l3 l4 l5 l6 l7 l8 l9 l10 l11 l12 : Option VV} {S : MM} : rn xL_flood (186, [l0, some (vI a), l2, l3, l4, l5, l6, l7, l8, l9, l10, l11, l12], [], S) = rn xL_flood (187, [l0, some (vI a), l2, l3, l4, l5, l6, l7, l8, l9, l10, l11, l12], [vI a], S) := rn_step dL_flood_186 rfl rfl
set_option maxRecDepth 100000 in
theorem eL_flood_187 {a : Int} {l0 l1 l2 l3 l4 l5 l6 l7 l8 l9 l11 l12 : Option VV} {v0 : VV} {S : MM} : rn xL_flood (187, [l0, l1, l2, l3, l4, l5, l6, l7, l8, l9, some (vI a), l11, l12], [v0], S) = rn xL_flood (189, [l0, l1, l2, l3, l4, l5, l6, l7, l8, l9, some (vI a), l11, l12], [vI a, v0], S) := rn_step dL_flood_187 rfl rfl
set_option maxRecDepth 100000 in
theorem eL_flood_189 {a b : Int} {l0 l1 l2 l3 l4 l5 l6 l7 l8 l9 l10 l11 l12 : Option VV} (h : -2147483648 ≤ a ∧ a ≤ 2147483647) (h1 : -2147483648 ≤ b ∧ b ≤ 2147483647) {S : MM} : rn xL_flood (189, [l0, l1, l2, l3, l4, l5, l6, l7, l8, l9, l10, l11, l12], [vI b, vI a], S) = if a = b then rn xL_flood (192, [l0, l1, l2, l3, l4, l5, l6, l7, l8, l9, l10, l11, l12], [], S) else rn xL_flood (214, [l0, l1, l2, l3, l4, l5, l6, l7, l8, l9, l10, l11, l12], [], S) := q_icmp_ne dL_flood_189 (by decide) rfl h h1
set_option maxRecDepth 100000 in
theorem eL_flood_192 {a : Option Nat} {l0 l1 l2 l3 l5 l6 l7 l8 l9 l10 l11 l12 : Option VV} {S : MM} : rn xL_flood (192, [l0, l1, l2, l3, some (.inr (.inl a)), l5, l6, l7, l8, l9, l10, l11, l12], [], S) = rn xL_flood (194, [l0, l1, l2, l3, some (.inr (.inl a)), l5, l6, l7, l8, l9, l10, l11, l12], [.inr (.inl a)], S) := rn_step dL_flood_192 rfl rfl
set_option maxRecDepth 100000 in
theorem eL_flood_194 {a : Int} {l0 l1 l2 l3 l4 l5 l6 l7 l8 l9 l11 l12 : Option VV} {v0 : VV} {S : MM} : rn xL_flood (194, [l0, l1, l2, l3, l4, l5, l6, l7, l8, l9, some (vI a), l11, l12], [v0], S) = rn xL_flood (196, [l0, l1, l2, l3, l4, l5, l6, l7, l8, l9, some (vI a), l11, l12], [vI a, v0], S) := rn_step dL_flood_194 rfl rfl
set_option maxRecDepth 100000 in
theorem eL_flood_196 {i : Nat} {j : Int} {l0 l1 l2 l3 l4 l5 l6 l7 l8 l9 l10 l11 l12 : Option VV} (h : kd i = 10) (h0 : 0 ≤ j) (h1 : j < alen i) {S : MM} : rn xL_flood (196, [l0, l1, l2, l3, l4, l5, l6, l7, l8, l9, l10, l11, l12], [vI j, vR i], S) = rn xL_flood (197, [l0, l1, l2, l3, l4, l5, l6, l7, l8, l9, l10, l11, l12], [vI (S i j.toNat)], S) := q_iald dL_flood_196 h h0 h1
set_option maxRecDepth 100000 in
theorem eL_flood_196z {j : Int} {l0 l1 l2 l3 l4 l5 l6 l7 l8 l9 l10 l11 l12 : Option VV} {S : MM} (h : S 604 3 = 3) (h0 : 0 ≤ j) (h1 : j < 3) : rn xL_flood (196, [l0, l1, l2, l3, l4, l5, l6, l7, l8, l9, l10, l11, l12], [vI j, vR 606], S) = rn xL_flood (197, [l0, l1, l2, l3, l4, l5, l6, l7, l8, l9, l10, l11, l12], [vI (S 606 j.toNat)], S) := q_iald5 dL_flood_196 h h0 h1
set_option maxRecDepth 100000 in
theorem eL_flood_196x {j : Int} {l0 l1 l2 l3 l4 l5 l6 l7 l8 l9 l10 l11 l12 : Option VV} {S : MM} (h0 : 0 ≤ j) (h1 : j < S 604 0) : rn xL_flood (196, [l0, l1, l2, l3, l4, l5, l6, l7, l8, l9, l10, l11, l12], [vI j, vR 602], S) = rn xL_flood (197, [l0, l1, l2, l3, l4, l5, l6, l7, l8, l9, l10, l11, l12], [vI (S 602 j.toNat)], S) := q_ialdX dL_flood_196 h0 h1
set_option maxRecDepth 100000 in
theorem eL_flood_196y {j : Int} {l0 l1 l2 l3 l4 l5 l6 l7 l8 l9 l10 l11 l12 : Option VV} {S : MM} (h0 : 0 ≤ j) (h1 : j < S 604 1) : rn xL_flood (196, [l0, l1, l2, l3, l4, l5, l6, l7, l8, l9, l10, l11, l12], [vI j, vR 603], S) = rn xL_flood (197, [l0, l1, l2, l3, l4, l5, l6, l7, l8, l9, l10, l11, l12], [vI (S 603 j.toNat)], S) := q_ialdY dL_flood_196 h0 h1
set_option maxRecDepth 100000 in
theorem eL_flood_197 {a : Int} {l0 l1 l3 l4 l5 l6 l7 l8 l9 l10 l11 l12 : Option VV} {v0 : VV} {S : MM} : rn xL_flood (197, [l0, l1, some (vI a), l3, l4, l5, l6, l7, l8, l9, l10, l11, l12], [v0], S) = rn xL_flood (198, [l0, l1, some (vI a), l3, l4, l5, l6, l7, l8, l9, l10, l11, l12], [vI a, v0], S) := rn_step dL_flood_197 rfl rfl
set_option maxRecDepth 100000 in
theorem eL_flood_198 {a b : Int} {l0 l1 l2 l3 l4 l5 l6 l7 l8 l9 l10 l11 l12 : Option VV} (h : -2147483648 ≤ a ∧ a ≤ 2147483647) (h1 : -2147483648 ≤ b ∧ b ≤ 2147483647) {S : MM} : rn xL_flood (198, [l0, l1, l2, l3, l4, l5, l6, l7, l8, l9, l10, l11, l12], [vI b, vI a], S) = if a < b then rn xL_flood (214, [l0, l1, l2, l3, l4, l5, l6, l7, l8, l9, l10, l11, l12], [], S) else rn xL_flood (201, [l0, l1, l2, l3, l4, l5, l6, l7, l8, l9, l10, l11, l12], [], S) := q_icmp_lt dL_flood_198 (by decide) rfl h h1
set_option maxRecDepth 100000 in
theorem eL_flood_201 {a : Option Nat} {l0 l1 l2 l3 l5 l6 l7 l8 l9 l10 l11 l12 : Option VV} {S : MM} : rn xL_flood (201, [l0, l1, l2, l3, some (.inr (.inl a)), l5, l6, l7, l8, l9, l10, l11, l12], [], S) = rn xL_flood (203, [l0, l1, l2, l3, some (.inr (.inl a)), l5, l6, l7, l8, l9, l10, l11, l12], [.inr (.inl a)], S) := rn_step dL_flood_201 rfl rfl
set_option maxRecDepth 100000 in
theorem eL_flood_203 {a : Int} {l0 l1 l2 l3 l4 l5 l6 l7 l8 l9 l11 l12 : Option VV} {v0 : VV} {S : MM} : rn xL_flood (203, [l0, l1, l2, l3, l4, l5, l6, l7, l8, l9, some (vI a), l11, l12], [v0], S) = rn xL_flood (205, [l0, l1, l2, l3, l4, l5, l6, l7, l8, l9, some (vI a), l11, l12], [vI a, v0], S) := rn_step dL_flood_203 rfl rfl
set_option maxRecDepth 100000 in
theorem eL_flood_205 {i : Nat} {j : Int} {l0 l1 l2 l3 l4 l5 l6 l7 l8 l9 l10 l11 l12 : Option VV} (h : kd i = 10) (h0 : 0 ≤ j) (h1 : j < alen i) {S : MM} : rn xL_flood (205, [l0, l1, l2, l3, l4, l5, l6, l7, l8, l9, l10, l11, l12], [vI j, vR i], S) = rn xL_flood (206, [l0, l1, l2, l3, l4, l5, l6, l7, l8, l9, l10, l11, l12], [vI (S i j.toNat)], S) := q_iald dL_flood_205 h h0 h1
set_option maxRecDepth 100000 in
theorem eL_flood_205z {j : Int} {l0 l1 l2 l3 l4 l5 l6 l7 l8 l9 l10 l11 l12 : Option VV} {S : MM} (h : S 604 3 = 3) (h0 : 0 ≤ j) (h1 : j < 3) : rn xL_flood (205, [l0, l1, l2, l3, l4, l5, l6, l7, l8, l9, l10, l11, l12], [vI j, vR 606], S) = rn xL_flood (206, [l0, l1, l2, l3, l4, l5, l6, l7, l8, l9, l10, l11, l12], [vI (S 606 j.toNat)], S) := q_iald5 dL_flood_205 h h0 h1
set_option maxRecDepth 100000 in
theorem eL_flood_205x {j : Int} {l0 l1 l2 l3 l4 l5 l6 l7 l8 l9 l10 l11 l12 : Option VV} {S : MM} (h0 : 0 ≤ j) (h1 : j < S 604 0) : rn xL_flood (205, [l0, l1, l2, l3, l4, l5, l6, l7, l8, l9, l10, l11, l12], [vI j, vR 602], S) = rn xL_flood (206, [l0, l1, l2, l3, l4, l5, l6, l7, l8, l9, l10, l11, l12], [vI (S 602 j.toNat)], S) := q_ialdX dL_flood_205 h0 h1
set_option maxRecDepth 100000 in
theorem eL_flood_205y {j : Int} {l0 l1 l2 l3 l4 l5 l6 l7 l8 l9 l10 l11 l12 : Option VV} {S : MM} (h0 : 0 ≤ j) (h1 : j < S 604 1) : rn xL_flood (205, [l0, l1, l2, l3, l4, l5, l6, l7, l8, l9, l10, l11, l12], [vI j, vR 603], S) = rn xL_flood (206, [l0, l1, l2, l3, l4, l5, l6, l7, l8, l9, l10, l11, l12], [vI (S 603 j.toNat)], S) := q_ialdY dL_flood_205 h0 h1
set_option maxRecDepth 100000 in
theorem eL_flood_206 {a : Int} {l0 l1 l2 l4 l5 l6 l7 l8 l9 l10 l11 l12 : Option VV} {v0 : VV} {S : MM} : rn xL_flood (206, [l0, l1, l2, some (vI a), l4, l5, l6, l7, l8, l9, l10, l11, l12], [v0], S) = rn xL_flood (207, [l0, l1, l2, some (vI a), l4, l5, l6, l7, l8, l9, l10, l11, l12], [vI a, v0], S) := rn_step dL_flood_206 rfl rfl
set_option maxRecDepth 100000 in
theorem eL_flood_207 {a b : Int} {l0 l1 l2 l3 l4 l5 l6 l7 l8 l9 l10 l11 l12 : Option VV} (h : -2147483648 ≤ a ∧ a ≤ 2147483647) (h1 : -2147483648 ≤ b ∧ b ≤ 2147483647) {S : MM} : rn xL_flood (207, [l0, l1, l2, l3, l4, l5, l6, l7, l8, l9, l10, l11, l12], [vI b, vI a], S) = if b < a then rn xL_flood (214, [l0, l1, l2, l3, l4, l5, l6, l7, l8, l9, l10, l11, l12], [], S) else rn xL_flood (210, [l0, l1, l2, l3, l4, l5, l6, l7, l8, l9, l10, l11, l12], [], S) := q_icmp_gt dL_flood_207 (by decide) rfl h h1
set_option maxRecDepth 100000 in
theorem eL_flood_210 {l0 l1 l2 l3 l4 l5 l6 l7 l8 l9 l10 l11 l12 : Option VV} {S : MM} : rn xL_flood (210, [l0, l1, l2, l3, l4, l5, l6, l7, l8, l9, l10, l11, l12], [], S) = rn xL_flood (211, [l0, l1, l2, l3, l4, l5, l6, l7, l8, l9, l10, l11, l12], [vI 1], S) := rn_step dL_flood_210 rfl rfl
set_option maxRecDepth 100000 in
theorem eL_flood_211 {l0 l1 l2 l3 l4 l5 l6 l7 l8 l9 l10 l11 l12 : Option VV} {v0 : VV} {S : MM} : rn xL_flood (211, [l0, l1, l2, l3, l4, l5, l6, l7, l8, l9, l10, l11, l12], [v0], S) = rn xL_flood (215, [l0, l1, l2, l3, l4, l5, l6, l7, l8, l9, l10, l11, l12], [v0], S) := rn_step dL_flood_211 rfl rfl
set_option maxRecDepth 100000 in
theorem eL_flood_214 {l0 l1 l2 l3 l4 l5 l6 l7 l8 l9 l10 l11 l12 : Option VV} {S : MM} : rn xL_flood (214, [l0, l1, l2, l3, l4, l5, l6, l7, l8, l9, l10, l11, l12], [], S) = rn xL_flood (215, [l0, l1, l2, l3, l4, l5, l6, l7, l8, l9, l10, l11, l12], [vI 0], S) := rn_step dL_flood_214 rfl rfl
set_option maxRecDepth 100000 in
theorem eL_flood_215 {a : Int} {w : Int} {l0 l1 l2 l3 l4 l5 l6 l7 l8 l9 l11 l12 : Option VV} {S : MM} : rn xL_flood (215, [l0, l1, l2, l3, l4, l5, l6, l7, l8, l9, some (vI w), l11, l12], [vI a], S) = rn xL_flood (217, [l0, l1, l2, l3, l4, l5, l6, l7, l8, l9, some (vI w), some (vI a), l12], [], S) := rn_step dL_flood_215 rfl rfl
set_option maxRecDepth 100000 in
theorem eL_flood_217 {a : Int} {l0 l1 l2 l3 l4 l5 l6 l7 l8 l9 l10 l12 : Option VV} {S : MM} : rn xL_flood (217, [l0, l1, l2, l3, l4, l5, l6, l7, l8, l9, l10, some (vI a), l12], [], S) = rn xL_flood (219, [l0, l1, l2, l3, l4, l5, l6, l7, l8, l9, l10, some (vI a), l12], [vI a], S) := rn_step dL_flood_217 rfl rfl
set_option maxRecDepth 100000 in
theorem eL_flood_219 {a : Int} {l0 l1 l2 l3 l4 l5 l6 l7 l8 l9 l10 l11 l12 : Option VV} (h : -2147483648 ≤ a ∧ a ≤ 2147483647) {S : MM} : rn xL_flood (219, [l0, l1, l2, l3, l4, l5, l6, l7, l8, l9, l10, l11, l12], [vI a], S) = if a = 0 then rn xL_flood (230, [l0, l1, l2, l3, l4, l5, l6, l7, l8, l9, l10, l11, l12], [], S) else rn xL_flood (222, [l0, l1, l2, l3, l4, l5, l6, l7, l8, l9, l10, l11, l12], [], S) := q_if_eq dL_flood_219 (by decide) rfl h
set_option maxRecDepth 100000 in
theorem eL_flood_222 {a : Int} {l0 l1 l2 l3 l4 l5 l7 l8 l9 l10 l11 l12 : Option VV} {S : MM} : rn xL_flood (222, [l0, l1, l2, l3, l4, l5, some (vI a), l7, l8, l9, l10, l11, l12], [], S) = rn xL_flood (224, [l0, l1, l2, l3, l4, l5, some (vI a), l7, l8, l9, l10, l11, l12], [vI a], S) := rn_step dL_flood_222 rfl rfl
set_option maxRecDepth 100000 in
theorem eL_flood_224 {a : Int} {l0 l1 l2 l3 l4 l5 l6 l7 l8 l9 l10 l11 l12 : Option VV} (h : -2147483648 ≤ a ∧ a ≤ 2147483647) {S : MM} : rn xL_flood (224, [l0, l1, l2, l3, l4, l5, l6, l7, l8, l9, l10, l11, l12], [vI a], S) = if a = 0 then rn xL_flood (227, [l0, l1, l2, l3, l4, l5, l6, l7, l8, l9, l10, l11, l12], [], S) else rn xL_flood (230, [l0, l1, l2, l3, l4, l5, l6, l7, l8, l9, l10, l11, l12], [], S) := q_if_ne dL_flood_224 (by decide) rfl h
set_option maxRecDepth 100000 in
theorem eL_flood_227 {a : Int} {w : Int} {l0 l1 l2 l3 l4 l5 l8 l9 l10 l11 l12 : Option VV} {S : MM} : rn xL_flood (227, [l0, l1, l2, l3, l4, l5, some (vI w), some (vI a), l8, l9, l10, l11, l12], [], S) = rn xL_flood (230, [l0, l1, l2, l3, l4, l5, some (vI w), some (vI (a + 1)), l8, l9, l10, l11, l12], [], S) := rn_step dL_flood_227 rfl rfl
set_option maxRecDepth 100000 in
theorem eL_flood_230 {a : Int} {l0 l1 l2 l3 l4 l5 l7 l8 l9 l10 l11 l12 : Option VV} {S : MM} : rn xL_flood (230, [l0, l1, l2, l3, l4, l5, some (vI a), l7, l8, l9, l10, l11, l12], [], S) = rn xL_flood (232, [l0, l1, l2, l3, l4, l5, some (vI a), l7, l8, l9, l10, l11, l12], [vI a], S) := rn_step dL_flood_230 rfl rfl
set_option maxRecDepth 100000 in
theorem eL_flood_232 {a : Int} {l0 l1 l2 l3 l4 l5 l6 l7 l8 l9 l10 l11 l12 : Option VV} (h : -2147483648 ≤ a ∧ a ≤ 2147483647) {S : MM} : rn xL_flood (232, [l0, l1, l2, l3, l4, l5, l6, l7, l8, l9, l10, l11, l12], [vI a], S) = if a < 0 then rn xL_flood (235, [l0, l1, l2, l3, l4, l5, l6, l7, l8, l9, l10, l11, l12], [], S) else rn xL_flood (238, [l0, l1, l2, l3, l4, l5, l6, l7, l8, l9, l10, l11, l12], [], S) := q_if_ge dL_flood_232 (by decide) rfl h
set_option maxRecDepth 100000 in
theorem eL_flood_235 {l0 l1 l2 l3 l4 l5 l6 l7 l8 l9 l10 l11 l12 : Option VV} {S : MM} : rn xL_flood (235, [l0, l1, l2, l3, l4, l5, l6, l7, l8, l9, l10, l11, l12], [], S) = rn xL_flood (303, [l0, l1, l2, l3, l4, l5, l6, l7, l8, l9, l10, l11, l12], [], S) := rn_step dL_flood_235 rfl rfl
set_option maxRecDepth 100000 in
theorem eL_flood_238 {a : Option Nat} {l0 l1 l2 l3 l5 l6 l7 l8 l9 l10 l11 l12 : Option VV} {S : MM} : rn xL_flood (238, [l0, l1, l2, l3, some (.inr (.inl a)), l5, l6, l7, l8, l9, l10, l11, l12], [], S) = rn xL_flood (240, [l0, l1, l2, l3, some (.inr (.inl a)), l5, l6, l7, l8, l9, l10, l11, l12], [.inr (.inl a)], S) := rn_step dL_flood_238 rfl rfl
set_option maxRecDepth 100000 in
theorem eL_flood_240 {a : Int} {l0 l1 l2 l3 l4 l5 l6 l7 l8 l9 l11 l12 : Option VV} {v0 : VV} {S : MM} : rn xL_flood (240, [l0, l1, l2, l3, l4, l5, l6, l7, l8, l9, some (vI a), l11, l12], [v0], S) = rn xL_flood (242, [l0, l1, l2, l3, l4, l5, l6, l7, l8, l9, some (vI a), l11, l12], [vI a, v0], S) := rn_step dL_flood_240 rfl rfl
set_option maxRecDepth 100000 in
theorem eL_flood_242 {i : Nat} {j : Int} {l0 l1 l2 l3 l4 l5 l6 l7 l8 l9 l10 l11 l12 : Option VV} (h : kd i = 10) (h0 : 0 ≤ j) (h1 : j < alen i) {S : MM} : rn xL_flood (242, [l0, l1, l2, l3, l4, l5, l6, l7, l8, l9, l10, l11, l12], [vI j, vR i], S) = rn xL_flood (243, [l0, l1, l2, l3, l4, l5, l6, l7, l8, l9, l10, l11, l12], [vI (S i j.toNat)], S) := q_iald dL_flood_242 h h0 h1
set_option maxRecDepth 100000 in
theorem eL_flood_242z {j : Int} {l0 l1 l2 l3 l4 l5 l6 l7 l8 l9 l10 l11 l12 : Option VV} {S : MM} (h : S 604 3 = 3) (h0 : 0 ≤ j) (h1 : j < 3) : rn xL_flood (242, [l0, l1, l2, l3, l4, l5, l6, l7, l8, l9, l10, l11, l12], [vI j, vR 606], S) = rn xL_flood (243, [l0, l1, l2, l3, l4, l5, l6, l7, l8, l9, l10, l11, l12], [vI (S 606 j.toNat)], S) := q_iald5 dL_flood_242 h h0 h1
set_option maxRecDepth 100000 in
theorem eL_flood_242x {j : Int} {l0 l1 l2 l3 l4 l5 l6 l7 l8 l9 l10 l11 l12 : Option VV} {S : MM} (h0 : 0 ≤ j) (h1 : j < S 604 0) : rn xL_flood (242, [l0, l1, l2, l3, l4, l5, l6, l7, l8, l9, l10, l11, l12], [vI j, vR 602], S) = rn xL_flood (243, [l0, l1, l2, l3, l4, l5, l6, l7, l8, l9, l10, l11, l12], [vI (S 602 j.toNat)], S) := q_ialdX dL_flood_242 h0 h1
set_option maxRecDepth 100000 in
theorem eL_flood_242y {j : Int} {l0 l1 l2 l3 l4 l5 l6 l7 l8 l9 l10 l11 l12 : Option VV} {S : MM} (h0 : 0 ≤ j) (h1 : j < S 604 1) : rn xL_flood (242, [l0, l1, l2, l3, l4, l5, l6, l7, l8, l9, l10, l11, l12], [vI j, vR 603], S) = rn xL_flood (243, [l0, l1, l2, l3, l4, l5, l6, l7, l8, l9, l10, l11, l12], [vI (S 603 j.toNat)], S) := q_ialdY dL_flood_242 h0 h1
set_option maxRecDepth 100000 in
theorem eL_flood_243 {a : Int} {l0 l1 l2 l3 l4 l5 l6 l7 l8 l9 l10 l11 l12 : Option VV} (h : -2147483648 ≤ a ∧ a ≤ 2147483647) {S : MM} : rn xL_flood (243, [l0, l1, l2, l3, l4, l5, l6, l7, l8, l9, l10, l11, l12], [vI a], S) = if a < 0 then rn xL_flood (246, [l0, l1, l2, l3, l4, l5, l6, l7, l8, l9, l10, l11, l12], [], S) else rn xL_flood (256, [l0, l1, l2, l3, l4, l5, l6, l7, l8, l9, l10, l11, l12], [], S) := q_if_ge dL_flood_243 (by decide) rfl h
set_option maxRecDepth 100000 in
theorem eL_flood_246 {a : Option Nat} {l1 l2 l3 l4 l5 l6 l7 l8 l9 l10 l11 l12 : Option VV} {S : MM} : rn xL_flood (246, [some (.inr (.inl a)), l1, l2, l3, l4, l5, l6, l7, l8, l9, l10, l11, l12], [], S) = rn xL_flood (247, [some (.inr (.inl a)), l1, l2, l3, l4, l5, l6, l7, l8, l9, l10, l11, l12], [.inr (.inl a)], S) := rn_step dL_flood_246 rfl rfl
set_option maxRecDepth 100000 in
theorem eL_flood_247 {a : Int} {l0 l1 l2 l3 l4 l5 l6 l7 l8 l9 l11 l12 : Option VV} {v0 : VV} {S : MM} : rn xL_flood (247, [l0, l1, l2, l3, l4, l5, l6, l7, l8, l9, some (vI a), l11, l12], [v0], S) = rn xL_flood (249, [l0, l1, l2, l3, l4, l5, l6, l7, l8, l9, some (vI a), l11, l12], [vI a, v0], S) := rn_step dL_flood_247 rfl rfl
set_option maxRecDepth 100000 in
theorem eL_flood_249 {l0 l1 l2 l3 l4 l5 l6 l7 l8 l9 l10 l11 l12 : Option VV} {v0 v1 : VV} {S : MM} : rn xL_flood (249, [l0, l1, l2, l3, l4, l5, l6, l7, l8, l9, l10, l11, l12], [v0, v1], S) = rn xL_flood (250, [l0, l1, l2, l3, l4, l5, l6, l7, l8, l9, l10, l11, l12], [vI 0, v0, v1], S) := rn_step dL_flood_249 rfl rfl
set_option maxRecDepth 100000 in
theorem eL_flood_250 {a0 : Int} {a1 : Int} {l0 l1 l2 l3 l4 l5 l6 l7 l8 l9 l10 l11 l12 : Option VV} {S : MM} : rn xL_flood (250, [l0, l1, l2, l3, l4, l5, l6, l7, l8, l9, l10, l11, l12], [vI a1, vI a0, vR 0], S) = (fX8_ofWalker [vR 0, vI a0, vI a1] S).bind (fun q => rn xL_flood (253, [l0, l1, l2, l3, l4, l5, l6, l7, l8, l9, l10, l11, l12], q.1.toList ++ [], q.2)) := q_callV (n := 2) (as := [vI a0, vI a1]) (rest := []) dL_flood_250 rfl rfl rfl rfl kd0
set_option maxRecDepth 100000 in
theorem eL_flood_253 {l0 l1 l2 l3 l4 l5 l6 l7 l8 l9 l10 l11 l12 : Option VV} {v0 : VV} {S : MM} : rn xL_flood (253, [l0, l1, l2, l3, l4, l5, l6, l7, l8, l9, l10, l11, l12], [v0], S) = rn xL_flood (267, [l0, l1, l2, l3, l4, l5, l6, l7, l8, l9, l10, l11, l12], [v0], S) := rn_step dL_flood_253 rfl rfl
set_option maxRecDepth 100000 in
theorem eL_flood_256 {a : Option Nat} {l1 l2 l3 l4 l5 l6 l7 l8 l9 l10 l11 l12 : Option VV} {S : MM} : rn xL_flood (256, [some (.inr (.inl a)), l1, l2, l3, l4, l5, l6, l7, l8, l9, l10, l11, l12], [], S) = rn xL_flood (257, [some (.inr (.inl a)), l1, l2, l3, l4, l5, l6, l7, l8, l9, l10, l11, l12], [.inr (.inl a)], S) := rn_step dL_flood_256 rfl rfl
set_option maxRecDepth 100000 in
theorem eL_flood_257 {a : Int} {l0 l1 l2 l3 l4 l5 l6 l7 l8 l9 l11 l12 : Option VV} {v0 : VV} {S : MM} : rn xL_flood (257, [l0, l1, l2, l3, l4, l5, l6, l7, l8, l9, some (vI a), l11, l12], [v0], S) = rn xL_flood (259, [l0, l1, l2, l3, l4, l5, l6, l7, l8, l9, some (vI a), l11, l12], [vI a, v0], S) := rn_step dL_flood_257 rfl rfl
set_option maxRecDepth 100000 in
theorem eL_flood_259 {a : Option Nat} {l0 l1 l2 l3 l5 l6 l7 l8 l9 l10 l11 l12 : Option VV} {v0 v1 : VV} {S : MM} : rn xL_flood (259, [l0, l1, l2, l3, some (.inr (.inl a)), l5, l6, l7, l8, l9, l10, l11, l12], [v0, v1], S) = rn xL_flood (261, [l0, l1, l2, l3, some (.inr (.inl a)), l5, l6, l7, l8, l9, l10, l11, l12], [.inr (.inl a), v0, v1], S) := rn_step dL_flood_259 rfl rfl
set_option maxRecDepth 100000 in
theorem eL_flood_261 {a : Int} {l0 l1 l2 l3 l4 l5 l6 l7 l8 l9 l11 l12 : Option VV} {v0 v1 v2 : VV} {S : MM} : rn xL_flood (261, [l0, l1, l2, l3, l4, l5, l6, l7, l8, l9, some (vI a), l11, l12], [v0, v1, v2], S) = rn xL_flood (263, [l0, l1, l2, l3, l4, l5, l6, l7, l8, l9, some (vI a), l11, l12], [vI a, v0, v1, v2], S) := rn_step dL_flood_261 rfl rfl
set_option maxRecDepth 100000 in
theorem eL_flood_263 {i : Nat} {j : Int} {l0 l1 l2 l3 l4 l5 l6 l7 l8 l9 l10 l11 l12 : Option VV} {v2 v3 : VV} (h : kd i = 10) (h0 : 0 ≤ j) (h1 : j < alen i) {S : MM} : rn xL_flood (263, [l0, l1, l2, l3, l4, l5, l6, l7, l8, l9, l10, l11, l12], [vI j, vR i, v2, v3], S) = rn xL_flood (264, [l0, l1, l2, l3, l4, l5, l6, l7, l8, l9, l10, l11, l12], [vI (S i j.toNat), v2, v3], S) := q_iald dL_flood_263 h h0 h1
set_option maxRecDepth 100000 in
theorem eL_flood_263z {j : Int} {l0 l1 l2 l3 l4 l5 l6 l7 l8 l9 l10 l11 l12 : Option VV} {v2 v3 : VV} {S : MM} (h : S 604 3 = 3) (h0 : 0 ≤ j) (h1 : j < 3) : rn xL_flood (263, [l0, l1, l2, l3, l4, l5, l6, l7, l8, l9, l10, l11, l12], [vI j, vR 606, v2, v3], S) = rn xL_flood (264, [l0, l1, l2, l3, l4, l5, l6, l7, l8, l9, l10, l11, l12], [vI (S 606 j.toNat), v2, v3], S) := q_iald5 dL_flood_263 h h0 h1
set_option maxRecDepth 100000 in
theorem eL_flood_263x {j : Int} {l0 l1 l2 l3 l4 l5 l6 l7 l8 l9 l10 l11 l12 : Option VV} {v2 v3 : VV} {S : MM} (h0 : 0 ≤ j) (h1 : j < S 604 0) : rn xL_flood (263, [l0, l1, l2, l3, l4, l5, l6, l7, l8, l9, l10, l11, l12], [vI j, vR 602, v2, v3], S) = rn xL_flood (264, [l0, l1, l2, l3, l4, l5, l6, l7, l8, l9, l10, l11, l12], [vI (S 602 j.toNat), v2, v3], S) := q_ialdX dL_flood_263 h0 h1
set_option maxRecDepth 100000 in
theorem eL_flood_263y {j : Int} {l0 l1 l2 l3 l4 l5 l6 l7 l8 l9 l10 l11 l12 : Option VV} {v2 v3 : VV} {S : MM} (h0 : 0 ≤ j) (h1 : j < S 604 1) : rn xL_flood (263, [l0, l1, l2, l3, l4, l5, l6, l7, l8, l9, l10, l11, l12], [vI j, vR 603, v2, v3], S) = rn xL_flood (264, [l0, l1, l2, l3, l4, l5, l6, l7, l8, l9, l10, l11, l12], [vI (S 603 j.toNat), v2, v3], S) := q_ialdY dL_flood_263 h0 h1
set_option maxRecDepth 100000 in
theorem eL_flood_264 {a0 : Option Nat} {a1 : Int} {a2 : Int} {l0 l1 l2 l3 l4 l5 l6 l7 l8 l9 l10 l11 l12 : Option VV} {S : MM} : rn xL_flood (264, [l0, l1, l2, l3, l4, l5, l6, l7, l8, l9, l10, l11, l12], [vI a2, vI a1, .inr (.inl a0)], S) = (fL_from [.inr (.inl a0), vI a1, vI a2] S).bind (fun q => rn xL_flood (267, [l0, l1, l2, l3, l4, l5, l6, l7, l8, l9, l10, l11, l12], q.1.toList ++ [], q.2)) := q_callS (n := 3) (as := [.inr (.inl a0), vI a1, vI a2]) (rest := []) dL_flood_264 rfl rfl rfl rfl
set_option maxRecDepth 100000 in
theorem eL_flood_267 {a : Int} {w : Int} {l0 l1 l2 l3 l4 l5 l6 l7 l8 l9 l10 l12 : Option VV} {S : MM} : rn xL_flood (267, [l0, l1, l2, l3, l4, l5, l6, l7, l8, l9, l10, some (vI w), l12], [vI a], S) = rn xL_flood (269, [l0, l1, l2, l3, l4, l5, l6, l7, l8, l9, l10, some (vI w), some (vI a)], [], S) := rn_step dL_flood_267 rfl rfl
set_option maxRecDepth 100000 in
theorem eL_flood_269 {a : Option Nat} {l1 l2 l3 l4 l5 l6 l7 l8 l9 l10 l11 l12 : Option VV} {S : MM} : rn xL_flood (269, [some (.inr (.inl a)), l1, l2, l3, l4, l5, l6, l7, l8, l9, l10, l11, l12], [], S) = rn xL_flood (270, [some (.inr (.inl a)), l1, l2, l3, l4, l5, l6, l7, l8, l9, l10, l11, l12], [.inr (.inl a)], S) := rn_step dL_flood_269 rfl rfl
set_option maxRecDepth 100000 in
theorem eL_flood_270 {a : Int} {l0 l1 l2 l3 l4 l5 l6 l7 l8 l9 l11 l12 : Option VV} {v0 : VV} {S : MM} : rn xL_flood (270, [l0, l1, l2, l3, l4, l5, l6, l7, l8, l9, some (vI a), l11, l12], [v0], S) = rn xL_flood (272, [l0, l1, l2, l3, l4, l5, l6, l7, l8, l9, some (vI a), l11, l12], [vI a, v0], S) := rn_step dL_flood_270 rfl rfl
set_option maxRecDepth 100000 in
theorem eL_flood_272 {l0 l1 l2 l3 l4 l5 l6 l7 l8 l9 l10 l11 l12 : Option VV} {v0 v1 : VV} {S : MM} : rn xL_flood (272, [l0, l1, l2, l3, l4, l5, l6, l7, l8, l9, l10, l11, l12], [v0, v1], S) = rn xL_flood (273, [l0, l1, l2, l3, l4, l5, l6, l7, l8, l9, l10, l11, l12], [vI 1, v0, v1], S) := rn_step dL_flood_272 rfl rfl
set_option maxRecDepth 100000 in
theorem eL_flood_273 {a0 : Int} {a1 : Int} {l0 l1 l2 l3 l4 l5 l6 l7 l8 l9 l10 l11 l12 : Option VV} {S : MM} : rn xL_flood (273, [l0, l1, l2, l3, l4, l5, l6, l7, l8, l9, l10, l11, l12], [vI a1, vI a0, vR 0], S) = (fX8_ofWalker [vR 0, vI a0, vI a1] S).bind (fun q => rn xL_flood (276, [l0, l1, l2, l3, l4, l5, l6, l7, l8, l9, l10, l11, l12], q.1.toList ++ [], q.2)) := q_callV (n := 2) (as := [vI a0, vI a1]) (rest := []) dL_flood_273 rfl rfl rfl rfl kd0
set_option maxRecDepth 100000 in
theorem eL_flood_276 {a : Int} {l0 l1 l2 l3 l4 l5 l6 l7 l8 l9 l10 l11 : Option VV} {v0 : VV} {S : MM} : rn xL_flood (276, [l0, l1, l2, l3, l4, l5, l6, l7, l8, l9, l10, l11, some (vI a)], [v0], S) = rn xL_flood (278, [l0, l1, l2, l3, l4, l5, l6, l7, l8, l9, l10, l11, some (vI a)], [vI a, v0], S) := rn_step dL_flood_276 rfl rfl
set_option maxRecDepth 100000 in
theorem eL_flood_278 {a b : Int} {l0 l1 l2 l3 l4 l5 l6 l7 l8 l9 l10 l11 l12 : Option VV} (h : -2147483648 ≤ a ∧ a ≤ 2147483647) (h1 : -2147483648 ≤ b ∧ b ≤ 2147483647) {S : MM} : rn xL_flood (278, [l0, l1, l2, l3, l4, l5, l6, l7, l8, l9, l10, l11, l12], [vI b, vI a], S) = if a = b then rn xL_flood (281, [l0, l1, l2, l3, l4, l5, l6, l7, l8, l9, l10, l11, l12], [], S) else rn xL_flood (301, [l0, l1, l2, l3, l4, l5, l6, l7, l8, l9, l10, l11, l12], [], S) := q_icmp_ne dL_flood_278 (by decide) rfl h h1
set_option maxRecDepth 100000 in
theorem eL_flood_281 {a : Int} {l0 l1 l2 l3 l4 l5 l6 l7 l8 l9 l10 l12 : Option VV} {S : MM} : rn xL_flood (281, [l0, l1, l2, l3, l4, l5, l6, l7, l8, l9, l10, some (vI a), l12], [], S) = rn xL_flood (283, [l0, l1, l2, l3, l4, l5, l6, l7, l8, l9, l10, some (vI a), l12], [vI a], S) := rn_step dL_flood_281 rfl rfl
set_option maxRecDepth 100000 in
theorem eL_flood_283 {a : Int} {l0 l1 l2 l3 l4 l5 l6 l7 l8 l9 l10 l11 l12 : Option VV} (h : -2147483648 ≤ a ∧ a ≤ 2147483647) {S : MM} : rn xL_flood (283, [l0, l1, l2, l3, l4, l5, l6, l7, l8, l9, l10, l11, l12], [vI a], S) = if a = 0 then rn xL_flood (286, [l0, l1, l2, l3, l4, l5, l6, l7, l8, l9, l10, l11, l12], [], S) else rn xL_flood (303, [l0, l1, l2, l3, l4, l5, l6, l7, l8, l9, l10, l11, l12], [], S) := q_if_ne dL_flood_283 (by decide) rfl h
set_option maxRecDepth 100000 in
theorem eL_flood_286 {a : Option Nat} {l1 l2 l3 l4 l5 l6 l7 l8 l9 l10 l11 l12 : Option VV} {S : MM} : rn xL_flood (286, [some (.inr (.inl a)), l1, l2, l3, l4, l5, l6, l7, l8, l9, l10, l11, l12], [], S) = rn xL_flood (287, [some (.inr (.inl a)), l1, l2, l3, l4, l5, l6, l7, l8, l9, l10, l11, l12], [.inr (.inl a)], S) := rn_step dL_flood_286 rfl rfl
set_option maxRecDepth 100000 in
theorem eL_flood_287 {a : Int} {l0 l1 l2 l3 l4 l5 l6 l7 l8 l9 l11 l12 : Option VV} {v0 : VV} {S : MM} : rn xL_flood (287, [l0, l1, l2, l3, l4, l5, l6, l7, l8, l9, some (vI a), l11, l12], [v0], S) = rn xL_flood (289, [l0, l1, l2, l3, l4, l5, l6, l7, l8, l9, some (vI a), l11, l12], [vI a, v0], S) := rn_step dL_flood_287 rfl rfl
set_option maxRecDepth 100000 in
theorem eL_flood_289 {l0 l1 l2 l3 l4 l5 l6 l7 l8 l9 l10 l11 l12 : Option VV} {v0 v1 : VV} {S : MM} : rn xL_flood (289, [l0, l1, l2, l3, l4, l5, l6, l7, l8, l9, l10, l11, l12], [v0, v1], S) = rn xL_flood (290, [l0, l1, l2, l3, l4, l5, l6, l7, l8, l9, l10, l11, l12], [vI 2, v0, v1], S) := rn_step dL_flood_289 rfl rfl
set_option maxRecDepth 100000 in
theorem eL_flood_290 {a0 : Int} {a1 : Int} {l0 l1 l2 l3 l4 l5 l6 l7 l8 l9 l10 l11 l12 : Option VV} {S : MM} : rn xL_flood (290, [l0, l1, l2, l3, l4, l5, l6, l7, l8, l9, l10, l11, l12], [vI a1, vI a0, vR 0], S) = (fX8_ofWalker [vR 0, vI a0, vI a1] S).bind (fun q => rn xL_flood (293, [l0, l1, l2, l3, l4, l5, l6, l7, l8, l9, l10, l11, l12], q.1.toList ++ [], q.2)) := q_callV (n := 2) (as := [vI a0, vI a1]) (rest := []) dL_flood_290 rfl rfl rfl rfl kd0
set_option maxRecDepth 100000 in
theorem eL_flood_293 {a : Option Nat} {l0 l1 l2 l3 l5 l6 l7 l8 l9 l10 l11 l12 : Option VV} {v0 : VV} {S : MM} : rn xL_flood (293, [l0, l1, l2, l3, some (.inr (.inl a)), l5, l6, l7, l8, l9, l10, l11, l12], [v0], S) = rn xL_flood (295, [l0, l1, l2, l3, some (.inr (.inl a)), l5, l6, l7, l8, l9, l10, l11, l12], [.inr (.inl a), v0], S) := rn_step dL_flood_293 rfl rfl
set_option maxRecDepth 100000 in
theorem eL_flood_295 {a : Int} {l0 l1 l2 l3 l4 l5 l6 l7 l8 l9 l11 l12 : Option VV} {v0 v1 : VV} {S : MM} : rn xL_flood (295, [l0, l1, l2, l3, l4, l5, l6, l7, l8, l9, some (vI a), l11, l12], [v0, v1], S) = rn xL_flood (297, [l0, l1, l2, l3, l4, l5, l6, l7, l8, l9, some (vI a), l11, l12], [vI a, v0, v1], S) := rn_step dL_flood_295 rfl rfl
set_option maxRecDepth 100000 in
theorem eL_flood_297 {i : Nat} {j : Int} {l0 l1 l2 l3 l4 l5 l6 l7 l8 l9 l10 l11 l12 : Option VV} {v2 : VV} (h : kd i = 10) (h0 : 0 ≤ j) (h1 : j < alen i) {S : MM} : rn xL_flood (297, [l0, l1, l2, l3, l4, l5, l6, l7, l8, l9, l10, l11, l12], [vI j, vR i, v2], S) = rn xL_flood (298, [l0, l1, l2, l3, l4, l5, l6, l7, l8, l9, l10, l11, l12], [vI (S i j.toNat), v2], S) := q_iald dL_flood_297 h h0 h1
set_option maxRecDepth 100000 in
theorem eL_flood_297z {j : Int} {l0 l1 l2 l3 l4 l5 l6 l7 l8 l9 l10 l11 l12 : Option VV} {v2 : VV} {S : MM} (h : S 604 3 = 3) (h0 : 0 ≤ j) (h1 : j < 3) : rn xL_flood (297, [l0, l1, l2, l3, l4, l5, l6, l7, l8, l9, l10, l11, l12], [vI j, vR 606, v2], S) = rn xL_flood (298, [l0, l1, l2, l3, l4, l5, l6, l7, l8, l9, l10, l11, l12], [vI (S 606 j.toNat), v2], S) := q_iald5 dL_flood_297 h h0 h1
set_option maxRecDepth 100000 in
theorem eL_flood_297x {j : Int} {l0 l1 l2 l3 l4 l5 l6 l7 l8 l9 l10 l11 l12 : Option VV} {v2 : VV} {S : MM} (h0 : 0 ≤ j) (h1 : j < S 604 0) : rn xL_flood (297, [l0, l1, l2, l3, l4, l5, l6, l7, l8, l9, l10, l11, l12], [vI j, vR 602, v2], S) = rn xL_flood (298, [l0, l1, l2, l3, l4, l5, l6, l7, l8, l9, l10, l11, l12], [vI (S 602 j.toNat), v2], S) := q_ialdX dL_flood_297 h0 h1
set_option maxRecDepth 100000 in
theorem eL_flood_297y {j : Int} {l0 l1 l2 l3 l4 l5 l6 l7 l8 l9 l10 l11 l12 : Option VV} {v2 : VV} {S : MM} (h0 : 0 ≤ j) (h1 : j < S 604 1) : rn xL_flood (297, [l0, l1, l2, l3, l4, l5, l6, l7, l8, l9, l10, l11, l12], [vI j, vR 603, v2], S) = rn xL_flood (298, [l0, l1, l2, l3, l4, l5, l6, l7, l8, l9, l10, l11, l12], [vI (S 603 j.toNat), v2], S) := q_ialdY dL_flood_297 h0 h1
set_option maxRecDepth 100000 in
theorem eL_flood_298 {a b : Int} {l0 l1 l2 l3 l4 l5 l6 l7 l8 l9 l10 l11 l12 : Option VV} (h : -2147483648 ≤ a ∧ a ≤ 2147483647) (h1 : -2147483648 ≤ b ∧ b ≤ 2147483647) {S : MM} : rn xL_flood (298, [l0, l1, l2, l3, l4, l5, l6, l7, l8, l9, l10, l11, l12], [vI b, vI a], S) = if a = b then rn xL_flood (303, [l0, l1, l2, l3, l4, l5, l6, l7, l8, l9, l10, l11, l12], [], S) else rn xL_flood (301, [l0, l1, l2, l3, l4, l5, l6, l7, l8, l9, l10, l11, l12], [], S) := q_icmp_eq dL_flood_298 (by decide) rfl h h1
set_option maxRecDepth 100000 in
theorem eL_flood_301 {l0 l1 l2 l3 l4 l5 l6 l7 l8 l9 l10 l11 l12 : Option VV} {S : MM} : rn xL_flood (301, [l0, l1, l2, l3, l4, l5, l6, l7, l8, l9, l10, l11, l12], [], S) = rn xL_flood (302, [l0, l1, l2, l3, l4, l5, l6, l7, l8, l9, l10, l11, l12], [vI 0], S) := rn_step dL_flood_301 rfl rfl
set_option maxRecDepth 100000 in
theorem eL_flood_302 {z : Int} {l0 l1 l2 l3 l4 l5 l6 l7 l8 l9 l10 l11 l12 : Option VV} (hz : z = 0 ∨ z = 1) {S : MM} : rn xL_flood (302, [l0, l1, l2, l3, l4, l5, l6, l7, l8, l9, l10, l11, l12], [vI z], S) = some (some (vI z), S) := q_retZ dL_flood_302 rfl hz
set_option maxRecDepth 100000 in
theorem eL_flood_303 {a : Int} {w : Int} {l0 l1 l2 l3 l4 l5 l6 l7 l8 l11 l12 : Option VV} {S : MM} : rn xL_flood (303, [l0, l1, l2, l3, l4, l5, l6, l7, l8, some (vI w), some (vI a), l11, l12], [], S) = rn xL_flood (306, [l0, l1, l2, l3, l4, l5, l6, l7, l8, some (vI w), some (vI (a + 1)), l11, l12], [], S) := rn_step dL_flood_303 rfl rfl
set_option maxRecDepth 100000 in
theorem eL_flood_306 {l0 l1 l2 l3 l4 l5 l6 l7 l8 l9 l10 l11 l12 : Option VV} {S : MM} : rn xL_flood (306, [l0, l1, l2, l3, l4, l5, l6, l7, l8, l9, l10, l11, l12], [], S) = rn xL_flood (174, [l0, l1, l2, l3, l4, l5, l6, l7, l8, l9, l10, l11, l12], [], S) := rn_step dL_flood_306 rfl rfl
set_option maxRecDepth 100000 in
theorem eL_flood_309 {a : Option Nat} {l1 l2 l3 l4 l5 l6 l7 l8 l9 l10 l11 l12 : Option VV} {S : MM} : rn xL_flood (309, [some (.inr (.inl a)), l1, l2, l3, l4, l5, l6, l7, l8, l9, l10, l11, l12], [], S) = rn xL_flood (310, [some (.inr (.inl a)), l1, l2, l3, l4, l5, l6, l7, l8, l9, l10, l11, l12], [.inr (.inl a)], S) := rn_step dL_flood_309 rfl rfl
set_option maxRecDepth 100000 in
theorem eL_flood_310 {l0 l1 l2 l3 l4 l5 l6 l7 l8 l9 l10 l11 l12 : Option VV} {v0 : VV} {S : MM} : rn xL_flood (310, [l0, l1, l2, l3, l4, l5, l6, l7, l8, l9, l10, l11, l12], [v0], S) = rn xL_flood (312, [l0, l1, l2, l3, l4, l5, l6, l7, l8, l9, l10, l11, l12], [vI 7, v0], S) := rn_step dL_flood_310 rfl rfl
set_option maxRecDepth 100000 in
theorem eL_flood_312 {a0 : Int} {l0 l1 l2 l3 l4 l5 l6 l7 l8 l9 l10 l11 l12 : Option VV} {S : MM} : rn xL_flood (312, [l0, l1, l2, l3, l4, l5, l6, l7, l8, l9, l10, l11, l12], [vI a0, vR 0], S) = (fX8_ofRun [vR 0, vI a0] S).bind (fun q => rn xL_flood (315, [l0, l1, l2, l3, l4, l5, l6, l7, l8, l9, l10, l11, l12], q.1.toList ++ [], q.2)) := q_callV (n := 1) (as := [vI a0]) (rest := []) dL_flood_312 rfl rfl rfl rfl kd0
set_option maxRecDepth 100000 in
theorem eL_flood_315 {a : Int} {l0 l1 l2 l3 l4 l5 l6 l8 l9 l10 l11 l12 : Option VV} {v0 : VV} {S : MM} : rn xL_flood (315, [l0, l1, l2, l3, l4, l5, l6, some (vI a), l8, l9, l10, l11, l12], [v0], S) = rn xL_flood (317, [l0, l1, l2, l3, l4, l5, l6, some (vI a), l8, l9, l10, l11, l12], [vI a, v0], S) := rn_step dL_flood_315 rfl rfl
set_option maxRecDepth 100000 in
theorem eL_flood_317 {a b : Int} {l0 l1 l2 l3 l4 l5 l6 l7 l8 l9 l10 l11 l12 : Option VV} (h : -2147483648 ≤ a ∧ a ≤ 2147483647) (h1 : -2147483648 ≤ b ∧ b ≤ 2147483647) {S : MM} : rn xL_flood (317, [l0, l1, l2, l3, l4, l5, l6, l7, l8, l9, l10, l11, l12], [vI b, vI a], S) = if a = b then rn xL_flood (320, [l0, l1, l2, l3, l4, l5, l6, l7, l8, l9, l10, l11, l12], [], S) else rn xL_flood (339, [l0, l1, l2, l3, l4, l5, l6, l7, l8, l9, l10, l11, l12], [], S) := q_icmp_ne dL_flood_317 (by decide) rfl h h1
set_option maxRecDepth 100000 in
theorem eL_flood_320 {a : Int} {l0 l1 l2 l3 l4 l5 l7 l8 l9 l10 l11 l12 : Option VV} {S : MM} : rn xL_flood (320, [l0, l1, l2, l3, l4, l5, some (vI a), l7, l8, l9, l10, l11, l12], [], S) = rn xL_flood (322, [l0, l1, l2, l3, l4, l5, some (vI a), l7, l8, l9, l10, l11, l12], [vI a], S) := rn_step dL_flood_320 rfl rfl
set_option maxRecDepth 100000 in
theorem eL_flood_322 {l0 l1 l2 l3 l4 l5 l6 l7 l8 l9 l10 l11 l12 : Option VV} {v0 : VV} {S : MM} : rn xL_flood (322, [l0, l1, l2, l3, l4, l5, l6, l7, l8, l9, l10, l11, l12], [v0], S) = rn xL_flood (323, [l0, l1, l2, l3, l4, l5, l6, l7, l8, l9, l10, l11, l12], [vI 1, v0], S) := rn_step dL_flood_322 rfl rfl
set_option maxRecDepth 100000 in
theorem eL_flood_323 {a b : Int} {l0 l1 l2 l3 l4 l5 l6 l7 l8 l9 l10 l11 l12 : Option VV} (h : -2147483648 ≤ a ∧ a ≤ 2147483647) (h1 : -2147483648 ≤ b ∧ b ≤ 2147483647) {S : MM} : rn xL_flood (323, [l0, l1, l2, l3, l4, l5, l6, l7, l8, l9, l10, l11, l12], [vI b, vI a], S) = if a = b then rn xL_flood (326, [l0, l1, l2, l3, l4, l5, l6, l7, l8, l9, l10, l11, l12], [], S) else rn xL_flood (335, [l0, l1, l2, l3, l4, l5, l6, l7, l8, l9, l10, l11, l12], [], S) := q_icmp_ne dL_flood_323 (by decide) rfl h h1
set_option maxRecDepth 100000 in
theorem eL_flood_326 {a : Option Nat} {l1 l2 l3 l4 l5 l6 l7 l8 l9 l10 l11 l12 : Option VV} {S : MM} : rn xL_flood (326, [some (.inr (.inl a)), l1, l2, l3, l4, l5, l6, l7, l8, l9, l10, l11, l12], [], S) = rn xL_flood (327, [some (.inr (.inl a)), l1, l2, l3, l4, l5, l6, l7, l8, l9, l10, l11, l12], [.inr (.inl a)], S) := rn_step dL_flood_326 rfl rfl
set_option maxRecDepth 100000 in
theorem eL_flood_327 {l0 l1 l2 l3 l4 l5 l6 l7 l8 l9 l10 l11 l12 : Option VV} {v0 : VV} {S : MM} : rn xL_flood (327, [l0, l1, l2, l3, l4, l5, l6, l7, l8, l9, l10, l11, l12], [v0], S) = rn xL_flood (328, [l0, l1, l2, l3, l4, l5, l6, l7, l8, l9, l10, l11, l12], [vI 0, v0], S) := rn_step dL_flood_327 rfl rfl
set_option maxRecDepth 100000 in
theorem eL_flood_328 {a0 : Int} {l0 l1 l2 l3 l4 l5 l6 l7 l8 l9 l10 l11 l12 : Option VV} {S : MM} : rn xL_flood (328, [l0, l1, l2, l3, l4, l5, l6, l7, l8, l9, l10, l11, l12], [vI a0, vR 0], S) = (fX8_ofRun [vR 0, vI a0] S).bind (fun q => rn xL_flood (331, [l0, l1, l2, l3, l4, l5, l6, l7, l8, l9, l10, l11, l12], q.1.toList ++ [], q.2)) := q_callV (n := 1) (as := [vI a0]) (rest := []) dL_flood_328 rfl rfl rfl rfl kd0
set_option maxRecDepth 100000 in
theorem eL_flood_331 {l0 l1 l2 l3 l4 l5 l6 l7 l8 l9 l10 l11 l12 : Option VV} {v0 : VV} {S : MM} : rn xL_flood (331, [l0, l1, l2, l3, l4, l5, l6, l7, l8, l9, l10, l11, l12], [v0], S) = rn xL_flood (332, [l0, l1, l2, l3, l4, l5, l6, l7, l8, l9, l10, l11, l12], [vI 1, v0], S) := rn_step dL_flood_331 rfl rfl
set_option maxRecDepth 100000 in
theorem eL_flood_332 {a b : Int} {l0 l1 l2 l3 l4 l5 l6 l7 l8 l9 l10 l11 l12 : Option VV} (h : -2147483648 ≤ a ∧ a ≤ 2147483647) (h1 : -2147483648 ≤ b ∧ b ≤ 2147483647) {S : MM} : rn xL_flood (332, [l0, l1, l2, l3, l4, l5, l6, l7, l8, l9, l10, l11, l12], [vI b, vI a], S) = if a = b then rn xL_flood (335, [l0, l1, l2, l3, l4, l5, l6, l7, l8, l9, l10, l11, l12], [], S) else rn xL_flood (339, [l0, l1, l2, l3, l4, l5, l6, l7, l8, l9, l10, l11, l12], [], S) := q_icmp_ne dL_flood_332 (by decide) rfl h h1
set_option maxRecDepth 100000 in
theorem eL_flood_335 {l0 l1 l2 l3 l4 l5 l6 l7 l8 l9 l10 l11 l12 : Option VV} {S : MM} : rn xL_flood (335, [l0, l1, l2, l3, l4, l5, l6, l7, l8, l9, l10, l11, l12], [], S) = rn xL_flood (336, [l0, l1, l2, l3, l4, l5, l6, l7, l8, l9, l10, l11, l12], [vI 1], S) := rn_step dL_flood_335 rfl rfl
set_option maxRecDepth 100000 in
theorem eL_flood_336 {l0 l1 l2 l3 l4 l5 l6 l7 l8 l9 l10 l11 l12 : Option VV} {v0 : VV} {S : MM} : rn xL_flood (336, [l0, l1, l2, l3, l4, l5, l6, l7, l8, l9, l10, l11, l12], [v0], S) = rn xL_flood (340, [l0, l1, l2, l3, l4, l5, l6, l7, l8, l9, l10, l11, l12], [v0], S) := rn_step dL_flood_336 rfl rfl
set_option maxRecDepth 100000 in
theorem eL_flood_339 {l0 l1 l2 l3 l4 l5 l6 l7 l8 l9 l10 l11 l12 : Option VV} {S : MM} : rn xL_flood (339, [l0, l1, l2, l3, l4, l5, l6, l7, l8, l9, l10, l11, l12], [], S) = rn xL_flood (340, [l0, l1, l2, l3, l4, l5, l6, l7, l8, l9, l10, l11, l12], [vI 0], S) := rn_step dL_flood_339 rfl rfl
set_option maxRecDepth 100000 in
theorem eL_flood_340 {z : Int} {l0 l1 l2 l3 l4 l5 l6 l7 l8 l9 l10 l11 l12 : Option VV} (hz : z = 0 ∨ z = 1) {S : MM} : rn xL_flood (340, [l0, l1, l2, l3, l4, l5, l6, l7, l8, l9, l10, l11, l12], [vI z], S) = some (some (vI z), S) := q_retZ dL_flood_340 rfl hz

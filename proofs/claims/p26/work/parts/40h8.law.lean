/-! the law's own methods -/
noncomputable def qlL_law : List CE := [(1, 12, 0, 2, (kp fcN)), (1, 18, 0, 2, (kp fL_refused)), (1, 22, 0, 2, (kp fL_up)), (0, 26, 8, 3, (kp fX8_set)), (0, 29, 8, 4, (kp fX8_stone)), (1, 33, 0, 5, fL_act), (1, 37, 0, 1, (kp fL_sound)), (1, 41, 0, 3, (kp fL_comes)), (1, 45, 0, 2, (kp fL_back))]
noncomputable def xL_law : XX := (cL_law, fcF fclL, mcF qlL_law, 2)
set_option maxRecDepth 100000 in
theorem clL_law_0 (bnd : Int) (hd : bnd ≤ 1000) : Call1g "LeapStonesLaw" xL_law 8 room_1 593 17886 0 bnd (1, 12, 0, 2, (kp fcN)) := call_norm (fun cells slots h1 h2 => call_S (con_kp conN_cell) cwL_cell (lw_gl _ [375, 376, 20] (by decide +kernel) (by decide +kernel)) ⟨by decide, by decide, by decide +kernel⟩ ⟨rfl, rfl⟩ ⟨by decide, by decide⟩ ⟨h1, h2⟩) ⟨by show _ ≤ 600000; omega, by show _ ≤ 7302250; omega⟩
set_option maxRecDepth 100000 in
theorem clL_law_1 (bnd : Int) (hd : bnd ≤ 1000) : Call1g "LeapStonesLaw" xL_law 8 room_1 593 17886 0 bnd (1, 18, 0, 2, (kp fL_refused)) := call_norm (fun cells slots h1 h2 => call_S (con_kp conL_refused) cwL_refused (lw_gl _ [876, 877, 20] (by decide +kernel) (by decide +kernel)) ⟨by decide, by decide, by decide +kernel⟩ ⟨rfl, rfl⟩ ⟨by decide, by decide⟩ ⟨h1, h2⟩) ⟨by show _ ≤ 600000; omega, by show _ ≤ 7302250; omega⟩
set_option maxRecDepth 100000 in
theorem clL_law_2 (bnd : Int) (hd : bnd ≤ 1000) : Call1g "LeapStonesLaw" xL_law 8 room_1 593 17886 0 bnd (1, 22, 0, 2, (kp fL_up)) := call_norm (fun cells slots h1 h2 => call_S (con_kp conL_up) cwL_up (lw_gl _ [379, 380, 20] (by decide +kernel) (by decide +kernel)) ⟨by decide, by decide, by decide +kernel⟩ ⟨rfl, rfl⟩ ⟨by decide, by decide⟩ ⟨h1, h2⟩) ⟨by show _ ≤ 600000; omega, by show _ ≤ 7302250; omega⟩
set_option maxRecDepth 100000 in
theorem clL_law_3 (bnd : Int) (hd : bnd ≤ 1000) : Call1g "LeapStonesLaw" xL_law 8 room_1 593 17886 0 bnd (0, 26, 8, 3, (kp fX8_set)) := call_norm (fun cells slots h1 h2 => call_V (con_kp conX8_set) cwX8_set (lw_gl _ [246, 247, 248, 21] (by decide +kernel) (by decide +kernel)) (by decide) rfl ⟨by decide, by decide, by decide +kernel⟩ ⟨rfl, rfl⟩ ⟨by decide, by decide⟩ ⟨h1, h2⟩) ⟨by show _ ≤ 600000; omega, by show _ ≤ 7302250; omega⟩
set_option maxRecDepth 100000 in
theorem clL_law_4 (bnd : Int) (hd : bnd ≤ 1000) : Call1g "LeapStonesLaw" xL_law 8 room_1 593 17886 0 bnd (0, 29, 8, 4, (kp fX8_stone)) := call_norm (fun cells slots h1 h2 => call_V (con_kp conX8_stone) cwX8_stone (lw_gl _ [334, 335, 336, 21] (by decide +kernel) (by decide +kernel)) (by decide) rfl ⟨by decide, by decide, by decide +kernel⟩ ⟨rfl, rfl⟩ ⟨by decide, by decide⟩ ⟨h1, h2⟩) ⟨by show _ ≤ 600000; omega, by show _ ≤ 7302250; omega⟩
set_option maxRecDepth 100000 in
theorem clL_law_5 (bnd : Int) (hd : bnd ≤ 1000) : Call1g "LeapStonesLaw" xL_law 8 room_1 593 17886 0 bnd (1, 33, 0, 5, fL_act) := call_cost monoL_act conGL_act cwL_act (lw_gl _ [383, 384, 20] (by decide +kernel) (by decide +kernel)) ⟨by decide, by decide, by decide +kernel⟩ ⟨by decide, by decide⟩ ⟨by show _ ≤ 600000; omega, by show _ ≤ 7302250; omega⟩
set_option maxRecDepth 100000 in
theorem clL_law_6 (bnd : Int) (hd : bnd ≤ 1000) : Call1g "LeapStonesLaw" xL_law 8 room_1 593 17886 0 bnd (1, 37, 0, 1, (kp fL_sound)) := call_norm (fun cells slots h1 h2 => call_S (con_kp conL_sound) cwL_sound (lw_gl _ [795, 796, 20] (by decide +kernel) (by decide +kernel)) ⟨by decide, by decide, by decide +kernel⟩ ⟨rfl, rfl⟩ ⟨by decide, by decide⟩ ⟨h1, h2⟩) ⟨by show _ ≤ 600000; omega, by show _ ≤ 7302250; omega⟩
set_option maxRecDepth 100000 in
theorem clL_law_7 (bnd : Int) (hd : bnd ≤ 1000) : Call1g "LeapStonesLaw" xL_law 8 room_1 593 17886 0 bnd (1, 41, 0, 3, (kp fL_comes)) := call_norm (fun cells slots h1 h2 => call_S (con_kp conL_comes) cwL_comes (lw_gl _ [798, 799, 20] (by decide +kernel) (by decide +kernel)) ⟨by decide, by decide, by decide +kernel⟩ ⟨rfl, rfl⟩ ⟨by decide, by decide⟩ ⟨h1, h2⟩) ⟨by show _ ≤ 600000; omega, by show _ ≤ 7302250; omega⟩
set_option maxRecDepth 100000 in
theorem clL_law_8 (bnd : Int) (hd : bnd ≤ 1000) : Call1g "LeapStonesLaw" xL_law 8 room_1 593 17886 0 bnd (1, 45, 0, 2, (kp fL_back)) := call_norm (fun cells slots h1 h2 => call_S (con_kp conL_back) cwL_back (lw_gl _ [862, 863, 20] (by decide +kernel) (by decide +kernel)) ⟨by decide, by decide, by decide +kernel⟩ ⟨rfl, rfl⟩ ⟨by decide, by decide⟩ ⟨h1, h2⟩) ⟨by show _ ≤ 600000; omega, by show _ ≤ 7302250; omega⟩
theorem callsGL_law (bnd : Int) (hd : bnd ≤ 1000) : ∀ q ∈ qlL_law, Call1g "LeapStonesLaw" xL_law 8 room_1 593 17886 0 bnd q := List.forall_mem_cons.mpr ⟨clL_law_0 bnd hd, List.forall_mem_cons.mpr ⟨clL_law_1 bnd hd, List.forall_mem_cons.mpr ⟨clL_law_2 bnd hd, List.forall_mem_cons.mpr ⟨clL_law_3 bnd hd, List.forall_mem_cons.mpr ⟨clL_law_4 bnd hd, List.forall_mem_cons.mpr ⟨clL_law_5 bnd hd, List.forall_mem_cons.mpr ⟨clL_law_6 bnd hd, List.forall_mem_cons.mpr ⟨clL_law_7 bnd hd, List.forall_mem_cons.mpr ⟨clL_law_8 bnd hd, fun _ h => absurd h List.not_mem_nil⟩⟩⟩⟩⟩⟩⟩⟩⟩
theorem msL_law : ∀ q ∈ qlL_law, Mono q.2.2.2.2 := List.forall_mem_cons.mpr ⟨mono_kp _, List.forall_mem_cons.mpr ⟨mono_kp _, List.forall_mem_cons.mpr ⟨mono_kp _, List.forall_mem_cons.mpr ⟨mono_kp _, List.forall_mem_cons.mpr ⟨mono_kp _, List.forall_mem_cons.mpr ⟨monoL_act, List.forall_mem_cons.mpr ⟨mono_kp _, List.forall_mem_cons.mpr ⟨mono_kp _, List.forall_mem_cons.mpr ⟨mono_kp _, fun _ h => absurd h List.not_mem_nil⟩⟩⟩⟩⟩⟩⟩⟩⟩
theorem dL_law_0 : decode cL_law 0 = .ok (.new 9, 3) := by decide +kernel
theorem dL_law_3 : decode cL_law 3 = .ok (.dup, 1) := by decide +kernel
theorem dL_law_4 : decode cL_law 4 = .ok (.invokespecial 11, 3) := by decide +kernel
theorem dL_law_7 : decode cL_law 7 = .ok (.astore_n 1, 1) := by decide +kernel
theorem dL_law_8 : decode cL_law 8 = .ok (.iconst 0, 1) := by decide +kernel
theorem dL_law_9 : decode cL_law 9 = .ok (.istore_n 2, 1) := by decide +kernel
theorem dL_law_10 : decode cL_law 10 = .ok (.aload_n 1, 1) := by decide +kernel
theorem dL_law_11 : decode cL_law 11 = .ok (.aload_n 0, 1) := by decide +kernel
theorem dL_law_12 : decode cL_law 12 = .ok (.iload_n 2, 1) := by decide +kernel
theorem dL_law_13 : decode cL_law 13 = .ok (.iinc 2 1, 3) := by decide +kernel
theorem dL_law_16 : decode cL_law 16 = .ok (.invokestatic 12, 3) := by decide +kernel
theorem dL_law_19 : decode cL_law 19 = .ok (.invokestatic 18, 3) := by decide +kernel
theorem dL_law_22 : decode cL_law 22 = .ok (.ifCond .ne 5, 3) := by decide +kernel
theorem dL_law_25 : decode cL_law 25 = .ok (.iconst 0, 1) := by decide +kernel
theorem dL_law_26 : decode cL_law 26 = .ok (.ireturn, 1) := by decide +kernel
theorem dL_law_27 : decode cL_law 27 = .ok (.aload_n 0, 1) := by decide +kernel
theorem dL_law_28 : decode cL_law 28 = .ok (.iload_n 2, 1) := by decide +kernel
theorem dL_law_29 : decode cL_law 29 = .ok (.iinc 2 1, 3) := by decide +kernel
theorem dL_law_32 : decode cL_law 32 = .ok (.invokestatic 12, 3) := by decide +kernel
theorem dL_law_35 : decode cL_law 35 = .ok (.istore_n 3, 1) := by decide +kernel
theorem dL_law_36 : decode cL_law 36 = .ok (.iload_n 3, 1) := by decide +kernel
theorem dL_law_37 : decode cL_law 37 = .ok (.iconst 3, 1) := by decide +kernel
theorem dL_law_38 : decode cL_law 38 = .ok (.invokestatic 22, 3) := by decide +kernel
theorem dL_law_41 : decode cL_law 41 = .ok (.ifCond .ne 9, 3) := by decide +kernel
theorem dL_law_44 : decode cL_law 44 = .ok (.sipush 300, 3) := by decide +kernel
theorem dL_law_47 : decode cL_law 47 = .ok (.goto 5, 3) := by decide +kernel
theorem dL_law_50 : decode cL_law 50 = .ok (.bipush 40, 2) := by decide +kernel
theorem dL_law_52 : decode cL_law 52 = .ok (.istore 4, 2) := by decide +kernel
theorem dL_law_54 : decode cL_law 54 = .ok (.aload_n 1, 1) := by decide +kernel
theorem dL_law_55 : decode cL_law 55 = .ok (.iconst 2, 1) := by decide +kernel
theorem dL_law_56 : decode cL_law 56 = .ok (.iload_n 3, 1) := by decide +kernel
theorem dL_law_57 : decode cL_law 57 = .ok (.iconst 2, 1) := by decide +kernel
theorem dL_law_58 : decode cL_law 58 = .ok (.ishr, 1) := by decide +kernel
theorem dL_law_59 : decode cL_law 59 = .ok (.iconst 3, 1) := by decide +kernel
theorem dL_law_60 : decode cL_law 60 = .ok (.invokestatic 22, 3) := by decide +kernel
theorem dL_law_63 : decode cL_law 63 = .ok (.invokevirtual 26, 3) := by decide +kernel
theorem dL_law_66 : decode cL_law 66 = .ok (.iconst 1, 1) := by decide +kernel
theorem dL_law_67 : decode cL_law 67 = .ok (.if_icmp .ne 19, 3) := by decide +kernel
theorem dL_law_70 : decode cL_law 70 = .ok (.aload_n 1, 1) := by decide +kernel
theorem dL_law_71 : decode cL_law 71 = .ok (.iconst 3, 1) := by decide +kernel
theorem dL_law_72 : decode cL_law 72 = .ok (.iload_n 3, 1) := by decide +kernel
theorem dL_law_73 : decode cL_law 73 = .ok (.iconst 4, 1) := by decide +kernel
theorem dL_law_74 : decode cL_law 74 = .ok (.ishr, 1) := by decide +kernel
theorem dL_law_75 : decode cL_law 75 = .ok (.bipush 6, 2) := by decide +kernel
theorem dL_law_77 : decode cL_law 77 = .ok (.invokestatic 22, 3) := by decide +kernel
theorem dL_law_80 : decode cL_law 80 = .ok (.invokevirtual 26, 3) := by decide +kernel
theorem dL_law_83 : decode cL_law 83 = .ok (.ifCond .eq 5, 3) := by decide +kernel
theorem dL_law_86 : decode cL_law 86 = .ok (.iconst 0, 1) := by decide +kernel
theorem dL_law_87 : decode cL_law 87 = .ok (.ireturn, 1) := by decide +kernel
theorem dL_law_88 : decode cL_law 88 = .ok (.iload_n 3, 1) := by decide +kernel
theorem dL_law_89 : decode cL_law 89 = .ok (.bipush 7, 2) := by decide +kernel
theorem dL_law_91 : decode cL_law 91 = .ok (.ishr, 1) := by decide +kernel
theorem dL_law_92 : decode cL_law 92 = .ok (.iconst 2, 1) := by decide +kernel
theorem dL_law_93 : decode cL_law 93 = .ok (.invokestatic 22, 3) := by decide +kernel
theorem dL_law_96 : decode cL_law 96 = .ok (.ifCond .ne 45, 3) := by decide +kernel
theorem dL_law_99 : decode cL_law 99 = .ok (.aload_n 1, 1) := by decide +kernel
theorem dL_law_100 : decode cL_law 100 = .ok (.iconst 0, 1) := by decide +kernel
theorem dL_law_101 : decode cL_law 101 = .ok (.iload_n 3, 1) := by decide +kernel
theorem dL_law_102 : decode cL_law 102 = .ok (.bipush 8, 2) := by decide +kernel
theorem dL_law_104 : decode cL_law 104 = .ok (.ishr, 1) := by decide +kernel
theorem dL_law_105 : decode cL_law 105 = .ok (.bipush 10, 2) := by decide +kernel
theorem dL_law_107 : decode cL_law 107 = .ok (.invokestatic 22, 3) := by decide +kernel
theorem dL_law_110 : decode cL_law 110 = .ok (.invokevirtual 26, 3) := by decide +kernel
theorem dL_law_113 : decode cL_law 113 = .ok (.ifCond .ne 26, 3) := by decide +kernel
theorem dL_law_116 : decode cL_law 116 = .ok (.aload_n 1, 1) := by decide +kernel
theorem dL_law_117 : decode cL_law 117 = .ok (.iconst 1, 1) := by decide +kernel
theorem dL_law_118 : decode cL_law 118 = .ok (.bipush 20, 2) := by decide +kernel
theorem dL_law_120 : decode cL_law 120 = .ok (.iload_n 3, 1) := by decide +kernel
theorem dL_law_121 : decode cL_law 121 = .ok (.bipush 12, 2) := by decide +kernel
theorem dL_law_123 : decode cL_law 123 = .ok (.ishr, 1) := by decide +kernel
theorem dL_law_124 : decode cL_law 124 = .ok (.bipush 60, 2) := by decide +kernel
theorem dL_law_126 : decode cL_law 126 = .ok (.invokestatic 22, 3) := by decide +kernel
theorem dL_law_129 : decode cL_law 129 = .ok (.iadd, 1) := by decide +kernel
theorem dL_law_130 : decode cL_law 130 = .ok (.invokevirtual 26, 3) := by decide +kernel
theorem dL_law_133 : decode cL_law 133 = .ok (.sipush 299, 3) := by decide +kernel
theorem dL_law_136 : decode cL_law 136 = .ok (.if_icmp .eq 5, 3) := by decide +kernel
theorem dL_law_139 : decode cL_law 139 = .ok (.iconst 0, 1) := by decide +kernel
theorem dL_law_140 : decode cL_law 140 = .ok (.ireturn, 1) := by decide +kernel
theorem dL_law_141 : decode cL_law 141 = .ok (.iconst 0, 1) := by decide +kernel
theorem dL_law_142 : decode cL_law 142 = .ok (.istore 5, 2) := by decide +kernel
theorem dL_law_144 : decode cL_law 144 = .ok (.iload 5, 2) := by decide +kernel
theorem dL_law_146 : decode cL_law 146 = .ok (.iconst 3, 1) := by decide +kernel
theorem dL_law_147 : decode cL_law 147 = .ok (.if_icmp .ge 77, 3) := by decide +kernel
theorem dL_law_150 : decode cL_law 150 = .ok (.iconst 0, 1) := by decide +kernel
theorem dL_law_151 : decode cL_law 151 = .ok (.istore 6, 2) := by decide +kernel
theorem dL_law_153 : decode cL_law 153 = .ok (.iload 6, 2) := by decide +kernel
theorem dL_law_155 : decode cL_law 155 = .ok (.iconst 4, 1) := by decide +kernel
theorem dL_law_156 : decode cL_law 156 = .ok (.if_icmp .ge 62, 3) := by decide +kernel
theorem dL_law_159 : decode cL_law 159 = .ok (.aload_n 0, 1) := by decide +kernel
theorem dL_law_160 : decode cL_law 160 = .ok (.iload_n 2, 1) := by decide +kernel
theorem dL_law_161 : decode cL_law 161 = .ok (.iinc 2 1, 3) := by decide +kernel
theorem dL_law_164 : decode cL_law 164 = .ok (.invokestatic 12, 3) := by decide +kernel
theorem dL_law_167 : decode cL_law 167 = .ok (.istore 7, 2) := by decide +kernel
theorem dL_law_169 : decode cL_law 169 = .ok (.aload_n 1, 1) := by decide +kernel
theorem dL_law_170 : decode cL_law 170 = .ok (.iload 5, 2) := by decide +kernel
theorem dL_law_172 : decode cL_law 172 = .ok (.iload 7, 2) := by decide +kernel
theorem dL_law_174 : decode cL_law 174 = .ok (.iload 4, 2) := by decide +kernel
theorem dL_law_176 : decode cL_law 176 = .ok (.invokestatic 22, 3) := by decide +kernel
theorem dL_law_179 : decode cL_law 179 = .ok (.iconst 1, 1) := by decide +kernel
theorem dL_law_180 : decode cL_law 180 = .ok (.iload 7, 2) := by decide +kernel
theorem dL_law_182 : decode cL_law 182 = .ok (.bipush 10, 2) := by decide +kernel
theorem dL_law_184 : decode cL_law 184 = .ok (.ishr, 1) := by decide +kernel
theorem dL_law_185 : decode cL_law 185 = .ok (.bipush 9, 2) := by decide +kernel
theorem dL_law_187 : decode cL_law 187 = .ok (.invokestatic 22, 3) := by decide +kernel
theorem dL_law_190 : decode cL_law 190 = .ok (.iadd, 1) := by decide +kernel
theorem dL_law_191 : decode cL_law 191 = .ok (.invokevirtual 29, 3) := by decide +kernel
theorem dL_law_194 : decode cL_law 194 = .ok (.pop, 1) := by decide +kernel
theorem dL_law_195 : decode cL_law 195 = .ok (.aload_n 1, 1) := by decide +kernel
theorem dL_law_196 : decode cL_law 196 = .ok (.iload 5, 2) := by decide +kernel
theorem dL_law_198 : decode cL_law 198 = .ok (.iload 7, 2) := by decide +kernel
theorem dL_law_200 : decode cL_law 200 = .ok (.iconst 4, 1) := by decide +kernel
theorem dL_law_201 : decode cL_law 201 = .ok (.ishr, 1) := by decide +kernel
theorem dL_law_202 : decode cL_law 202 = .ok (.bipush 12, 2) := by decide +kernel
theorem dL_law_204 : decode cL_law 204 = .ok (.invokestatic 22, 3) := by decide +kernel
theorem dL_law_207 : decode cL_law 207 = .ok (.iconst 1, 1) := by decide +kernel
theorem dL_law_208 : decode cL_law 208 = .ok (.invokevirtual 29, 3) := by decide +kernel
theorem dL_law_211 : decode cL_law 211 = .ok (.pop, 1) := by decide +kernel
theorem dL_law_212 : decode cL_law 212 = .ok (.iinc 6 1, 3) := by decide +kernel
theorem dL_law_215 : decode cL_law 215 = .ok (.goto (-62), 3) := by decide +kernel
theorem dL_law_218 : decode cL_law 218 = .ok (.iinc 5 1, 3) := by decide +kernel
theorem dL_law_221 : decode cL_law 221 = .ok (.goto (-77), 3) := by decide +kernel
theorem dL_law_224 : decode cL_law 224 = .ok (.iconst 0, 1) := by decide +kernel
theorem dL_law_225 : decode cL_law 225 = .ok (.istore 5, 2) := by decide +kernel
theorem dL_law_227 : decode cL_law 227 = .ok (.iload 5, 2) := by decide +kernel
theorem dL_law_229 : decode cL_law 229 = .ok (.bipush 36, 2) := by decide +kernel
theorem dL_law_231 : decode cL_law 231 = .ok (.if_icmp .ge 81, 3) := by decide +kernel
theorem dL_law_234 : decode cL_law 234 = .ok (.aload_n 0, 1) := by decide +kernel
theorem dL_law_235 : decode cL_law 235 = .ok (.iload_n 2, 1) := by decide +kernel
theorem dL_law_236 : decode cL_law 236 = .ok (.iinc 2 1, 3) := by decide +kernel
theorem dL_law_239 : decode cL_law 239 = .ok (.invokestatic 12, 3) := by decide +kernel
theorem dL_law_242 : decode cL_law 242 = .ok (.istore_n 3, 1) := by decide +kernel
theorem dL_law_243 : decode cL_law 243 = .ok (.aload_n 1, 1) := by decide +kernel
theorem dL_law_244 : decode cL_law 244 = .ok (.iload 4, 2) := by decide +kernel
theorem dL_law_246 : decode cL_law 246 = .ok (.iload_n 3, 1) := by decide +kernel
theorem dL_law_247 : decode cL_law 247 = .ok (.aload_n 0, 1) := by decide +kernel
theorem dL_law_248 : decode cL_law 248 = .ok (.iload_n 2, 1) := by decide +kernel
theorem dL_law_249 : decode cL_law 249 = .ok (.invokestatic 12, 3) := by decide +kernel
theorem dL_law_252 : decode cL_law 252 = .ok (.aload_n 0, 1) := by decide +kernel
theorem dL_law_253 : decode cL_law 253 = .ok (.iload_n 2, 1) := by decide +kernel
theorem dL_law_254 : decode cL_law 254 = .ok (.iinc 2 1, 3) := by decide +kernel
theorem dL_law_257 : decode cL_law 257 = .ok (.iconst 1, 1) := by decide +kernel
theorem dL_law_258 : decode cL_law 258 = .ok (.iadd, 1) := by decide +kernel
theorem dL_law_259 : decode cL_law 259 = .ok (.invokestatic 12, 3) := by decide +kernel
theorem dL_law_262 : decode cL_law 262 = .ok (.invokestatic 33, 3) := by decide +kernel
theorem dL_law_265 : decode cL_law 265 = .ok (.ifCond .eq 10, 3) := by decide +kernel
theorem dL_law_268 : decode cL_law 268 = .ok (.aload_n 1, 1) := by decide +kernel
theorem dL_law_269 : decode cL_law 269 = .ok (.invokestatic 37, 3) := by decide +kernel
theorem dL_law_272 : decode cL_law 272 = .ok (.ifCond .ne 5, 3) := by decide +kernel
theorem dL_law_275 : decode cL_law 275 = .ok (.iconst 0, 1) := by decide +kernel
theorem dL_law_276 : decode cL_law 276 = .ok (.ireturn, 1) := by decide +kernel
theorem dL_law_277 : decode cL_law 277 = .ok (.iload 5, 2) := by decide +kernel
theorem dL_law_279 : decode cL_law 279 = .ok (.bipush 12, 2) := by decide +kernel
theorem dL_law_281 : decode cL_law 281 = .ok (.irem, 1) := by decide +kernel
theorem dL_law_282 : decode cL_law 282 = .ok (.bipush 11, 2) := by decide +kernel
theorem dL_law_284 : decode cL_law 284 = .ok (.if_icmp .ne 22, 3) := by decide +kernel
theorem dL_law_287 : decode cL_law 287 = .ok (.aload_n 1, 1) := by decide +kernel
theorem dL_law_288 : decode cL_law 288 = .ok (.iload 4, 2) := by decide +kernel
theorem dL_law_290 : decode cL_law 290 = .ok (.aload_n 0, 1) := by decide +kernel
theorem dL_law_291 : decode cL_law 291 = .ok (.iload_n 2, 1) := by decide +kernel
theorem dL_law_292 : decode cL_law 292 = .ok (.iinc 2 1, 3) := by decide +kernel
theorem dL_law_295 : decode cL_law 295 = .ok (.invokestatic 12, 3) := by decide +kernel
theorem dL_law_298 : decode cL_law 298 = .ok (.invokestatic 41, 3) := by decide +kernel
theorem dL_law_301 : decode cL_law 301 = .ok (.ifCond .ne 5, 3) := by decide +kernel
theorem dL_law_304 : decode cL_law 304 = .ok (.iconst 0, 1) := by decide +kernel
theorem dL_law_305 : decode cL_law 305 = .ok (.ireturn, 1) := by decide +kernel
theorem dL_law_306 : decode cL_law 306 = .ok (.iinc 5 1, 3) := by decide +kernel
theorem dL_law_309 : decode cL_law 309 = .ok (.goto (-82), 3) := by decide +kernel
theorem dL_law_312 : decode cL_law 312 = .ok (.aload_n 1, 1) := by decide +kernel
theorem dL_law_313 : decode cL_law 313 = .ok (.aload_n 0, 1) := by decide +kernel
theorem dL_law_314 : decode cL_law 314 = .ok (.iload_n 2, 1) := by decide +kernel
theorem dL_law_315 : decode cL_law 315 = .ok (.iinc 2 1, 3) := by decide +kernel
theorem dL_law_318 : decode cL_law 318 = .ok (.invokestatic 12, 3) := by decide +kernel
theorem dL_law_321 : decode cL_law 321 = .ok (.invokestatic 45, 3) := by decide +kernel
theorem dL_law_324 : decode cL_law 324 = .ok (.ifCond .eq 14, 3) := by decide +kernel
theorem dL_law_327 : decode cL_law 327 = .ok (.aload_n 1, 1) := by decide +kernel
theorem dL_law_328 : decode cL_law 328 = .ok (.invokestatic 37, 3) := by decide +kernel
theorem dL_law_331 : decode cL_law 331 = .ok (.ifCond .eq 7, 3) := by decide +kernel
theorem dL_law_334 : decode cL_law 334 = .ok (.iconst 1, 1) := by decide +kernel
theorem dL_law_335 : decode cL_law 335 = .ok (.goto 4, 3) := by decide +kernel
theorem dL_law_338 : decode cL_law 338 = .ok (.iconst 0, 1) := by decide +kernel
theorem dL_law_339 : decode cL_law 339 = .ok (.ireturn, 1) := by decide +kernel
set_option maxRecDepth 100000 in
theorem eL_law_8 {l0 l1 l2 l3 l4 l5 l6 l7 : Option VV} {S : MM} : rn xL_law (8, [l0, l1, l2, l3, l4, l5, l6, l7], [], S) = rn xL_law (9, [l0, l1, l2, l3, l4, l5, l6, l7], [vI 0], S) := rn_step dL_law_8 rfl rfl
set_option maxRecDepth 100000 in
theorem eL_law_9 {a : Int} {w : Option Nat} {l0 l2 l3 l4 l5 l6 l7 : Option VV} {S : MM} : rn xL_law (9, [l0, some (.inr (.inl w)), l2, l3, l4, l5, l6, l7], [vI a], S) = rn xL_law (10, [l0, some (.inr (.inl w)), some (vI a), l3, l4, l5, l6, l7], [], S) := rn_step dL_law_9 rfl rfl
set_option maxRecDepth 100000 in
theorem eL_law_10 {a : Option Nat} {l0 l2 l3 l4 l5 l6 l7 : Option VV} {S : MM} : rn xL_law (10, [l0, some (.inr (.inl a)), l2, l3, l4, l5, l6, l7], [], S) = rn xL_law (11, [l0, some (.inr (.inl a)), l2, l3, l4, l5, l6, l7], [.inr (.inl a)], S) := rn_step dL_law_10 rfl rfl
set_option maxRecDepth 100000 in
theorem eL_law_11 {a : Option Nat} {l1 l2 l3 l4 l5 l6 l7 : Option VV} {v0 : VV} {S : MM} : rn xL_law (11, [some (.inr (.inl a)), l1, l2, l3, l4, l5, l6, l7], [v0], S) = rn xL_law (12, [some (.inr (.inl a)), l1, l2, l3, l4, l5, l6, l7], [.inr (.inl a), v0], S) := rn_step dL_law_11 rfl rfl
set_option maxRecDepth 100000 in
theorem eL_law_12 {a : Int} {l0 l1 l3 l4 l5 l6 l7 : Option VV} {v0 v1 : VV} {S : MM} : rn xL_law (12, [l0, l1, some (vI a), l3, l4, l5, l6, l7], [v0, v1], S) = rn xL_law (13, [l0, l1, some (vI a), l3, l4, l5, l6, l7], [vI a, v0, v1], S) := rn_step dL_law_12 rfl rfl
set_option maxRecDepth 100000 in
theorem eL_law_13 {a : Int} {w : Option Nat} {l0 l3 l4 l5 l6 l7 : Option VV} {v0 v1 v2 : VV} {S : MM} : rn xL_law (13, [l0, some (.inr (.inl w)), some (vI a), l3, l4, l5, l6, l7], [v0, v1, v2], S) = rn xL_law (16, [l0, some (.inr (.inl w)), some (vI (a + 1)), l3, l4, l5, l6, l7], [v0, v1, v2], S) := rn_step dL_law_13 rfl rfl
set_option maxRecDepth 100000 in
theorem eL_law_16 {a0 : Option Nat} {a1 : Int} {l0 l1 l2 l3 l4 l5 l6 l7 : Option VV} {v2 : VV} {S : MM} : rn xL_law (16, [l0, l1, l2, l3, l4, l5, l6, l7], [vI a1, .inr (.inl a0), v2], S) = ((kp fcN) [.inr (.inl a0), vI a1] S).bind (fun q => rn xL_law (19, [l0, l1, l2, l3, l4, l5, l6, l7], q.1.toList ++ [v2], q.2)) := q_callS (n := 2) (as := [.inr (.inl a0), vI a1]) (rest := [v2]) dL_law_16 rfl rfl rfl rfl
set_option maxRecDepth 100000 in
theorem eL_law_19 {a0 : Option Nat} {a1 : Int} {l0 l1 l2 l3 l4 l5 l6 l7 : Option VV} {S : MM} : rn xL_law (19, [l0, l1, l2, l3, l4, l5, l6, l7], [vI a1, .inr (.inl a0)], S) = ((kp fL_refused) [.inr (.inl a0), vI a1] S).bind (fun q => rn xL_law (22, [l0, l1, l2, l3, l4, l5, l6, l7], q.1.toList ++ [], q.2)) := q_callS (n := 2) (as := [.inr (.inl a0), vI a1]) (rest := []) dL_law_19 rfl rfl rfl rfl
set_option maxRecDepth 100000 in
theorem eL_law_22 {a : Int} {l0 l1 l2 l3 l4 l5 l6 l7 : Option VV} (h : -2147483648 ≤ a ∧ a ≤ 2147483647) {S : MM} : rn xL_law (22, [l0, l1, l2, l3, l4, l5, l6, l7], [vI a], S) = if a = 0 then rn xL_law (25, [l0, l1, l2, l3, l4, l5, l6, l7], [], S) else rn xL_law (27, [l0, l1, l2, l3, l4, l5, l6, l7], [], S) := q_if_ne dL_law_22 (by decide) rfl h
set_option maxRecDepth 100000 in
theorem eL_law_25 {l0 l1 l2 l3 l4 l5 l6 l7 : Option VV} {S : MM} : rn xL_law (25, [l0, l1, l2, l3, l4, l5, l6, l7], [], S) = rn xL_law (26, [l0, l1, l2, l3, l4, l5, l6, l7], [vI 0], S) := rn_step dL_law_25 rfl rfl
set_option maxRecDepth 100000 in
theorem eL_law_26 {z : Int} {l0 l1 l2 l3 l4 l5 l6 l7 : Option VV} (hz : z = 0 ∨ z = 1) {S : MM} : rn xL_law (26, [l0, l1, l2, l3, l4, l5, l6, l7], [vI z], S) = some (some (vI z), S) := q_retZ dL_law_26 rfl hz
set_option maxRecDepth 100000 in
theorem eL_law_27 {a : Option Nat} {l1 l2 l3 l4 l5 l6 l7 : Option VV} {S : MM} : rn xL_law (27, [some (.inr (.inl a)), l1, l2, l3, l4, l5, l6, l7], [], S) = rn xL_law (28, [some (.inr (.inl a)), l1, l2, l3, l4, l5, l6, l7], [.inr (.inl a)], S) := rn_step dL_law_27 rfl rfl
set_option maxRecDepth 100000 in
theorem eL_law_28 {a : Int} {l0 l1 l3 l4 l5 l6 l7 : Option VV} {v0 : VV} {S : MM} : rn xL_law (28, [l0, l1, some (vI a), l3, l4, l5, l6, l7], [v0], S) = rn xL_law (29, [l0, l1, some (vI a), l3, l4, l5, l6, l7], [vI a, v0], S) := rn_step dL_law_28 rfl rfl
set_option maxRecDepth 100000 in
theorem eL_law_29 {a : Int} {w : Option Nat} {l0 l3 l4 l5 l6 l7 : Option VV} {v0 v1 : VV} {S : MM} : rn xL_law (29, [l0, some (.inr (.inl w)), some (vI a), l3, l4, l5, l6, l7], [v0, v1], S) = rn xL_law (32, [l0, some (.inr (.inl w)), some (vI (a + 1)), l3, l4, l5, l6, l7], [v0, v1], S) := rn_step dL_law_29 rfl rfl
set_option maxRecDepth 100000 in
theorem eL_law_32 {a0 : Option Nat} {a1 : Int} {l0 l1 l2 l3 l4 l5 l6 l7 : Option VV} {S : MM} : rn xL_law (32, [l0, l1, l2, l3, l4, l5, l6, l7], [vI a1, .inr (.inl a0)], S) = ((kp fcN) [.inr (.inl a0), vI a1] S).bind (fun q => rn xL_law (35, [l0, l1, l2, l3, l4, l5, l6, l7], q.1.toList ++ [], q.2)) := q_callS (n := 2) (as := [.inr (.inl a0), vI a1]) (rest := []) dL_law_32 rfl rfl rfl rfl
set_option maxRecDepth 100000 in
theorem eL_law_35 {a : Int} {w : Int} {l0 l1 l3 l4 l5 l6 l7 : Option VV} {S : MM} : rn xL_law (35, [l0, l1, some (vI w), l3, l4, l5, l6, l7], [vI a], S) = rn xL_law (36, [l0, l1, some (vI w), some (vI a), l4, l5, l6, l7], [], S) := rn_step dL_law_35 rfl rfl
set_option maxRecDepth 100000 in
theorem eL_law_36 {a : Int} {l0 l1 l2 l4 l5 l6 l7 : Option VV} {S : MM} : rn xL_law (36, [l0, l1, l2, some (vI a), l4, l5, l6, l7], [], S) = rn xL_law (37, [l0, l1, l2, some (vI a), l4, l5, l6, l7], [vI a], S) := rn_step dL_law_36 rfl rfl
set_option maxRecDepth 100000 in
theorem eL_law_37 {l0 l1 l2 l3 l4 l5 l6 l7 : Option VV} {v0 : VV} {S : MM} : rn xL_law (37, [l0, l1, l2, l3, l4, l5, l6, l7], [v0], S) = rn xL_law (38, [l0, l1, l2, l3, l4, l5, l6, l7], [vI 3, v0], S) := rn_step dL_law_37 rfl rfl
set_option maxRecDepth 100000 in
theorem eL_law_38 {a0 : Int} {a1 : Int} {l0 l1 l2 l3 l4 l5 l6 l7 : Option VV} {S : MM} : rn xL_law (38, [l0, l1, l2, l3, l4, l5, l6, l7], [vI a1, vI a0], S) = ((kp fL_up) [vI a0, vI a1] S).bind (fun q => rn xL_law (41, [l0, l1, l2, l3, l4, l5, l6, l7], q.1.toList ++ [], q.2)) := q_callS (n := 2) (as := [vI a0, vI a1]) (rest := []) dL_law_38 rfl rfl rfl rfl
set_option maxRecDepth 100000 in
theorem eL_law_41 {a : Int} {l0 l1 l2 l3 l4 l5 l6 l7 : Option VV} (h : -2147483648 ≤ a ∧ a ≤ 2147483647) {S : MM} : rn xL_law (41, [l0, l1, l2, l3, l4, l5, l6, l7], [vI a], S) = if a = 0 then rn xL_law (44, [l0, l1, l2, l3, l4, l5, l6, l7], [], S) else rn xL_law (50, [l0, l1, l2, l3, l4, l5, l6, l7], [], S) := q_if_ne dL_law_41 (by decide) rfl h
set_option maxRecDepth 100000 in
theorem eL_law_44 {l0 l1 l2 l3 l4 l5 l6 l7 : Option VV} {S : MM} : rn xL_law (44, [l0, l1, l2, l3, l4, l5, l6, l7], [], S) = rn xL_law (47, [l0, l1, l2, l3, l4, l5, l6, l7], [vI 300], S) := rn_step dL_law_44 rfl rfl
set_option maxRecDepth 100000 in
theorem eL_law_47 {l0 l1 l2 l3 l4 l5 l6 l7 : Option VV} {v0 : VV} {S : MM} : rn xL_law (47, [l0, l1, l2, l3, l4, l5, l6, l7], [v0], S) = rn xL_law (52, [l0, l1, l2, l3, l4, l5, l6, l7], [v0], S) := rn_step dL_law_47 rfl rfl
set_option maxRecDepth 100000 in
theorem eL_law_50 {l0 l1 l2 l3 l4 l5 l6 l7 : Option VV} {S : MM} : rn xL_law (50, [l0, l1, l2, l3, l4, l5, l6, l7], [], S) = rn xL_law (52, [l0, l1, l2, l3, l4, l5, l6, l7], [vI 40], S) := rn_step dL_law_50 rfl rfl
set_option maxRecDepth 100000 in
theorem eL_law_52 {a : Int} {w : Int} {l0 l1 l2 l4 l5 l6 l7 : Option VV} {S : MM} : rn xL_law (52, [l0, l1, l2, some (vI w), l4, l5, l6, l7], [vI a], S) = rn xL_law (54, [l0, l1, l2, some (vI w), some (vI a), l5, l6, l7], [], S) := rn_step dL_law_52 rfl rfl
set_option maxRecDepth 100000 in
theorem eL_law_54 {a : Option Nat} {l0 l2 l3 l4 l5 l6 l7 : Option VV} {S : MM} : rn xL_law (54, [l0, some (.inr (.inl a)), l2, l3, l4, l5, l6, l7], [], S) = rn xL_law (55, [l0, some (.inr (.inl a)), l2, l3, l4, l5, l6, l7], [.inr (.inl a)], S) := rn_step dL_law_54 rfl rfl
set_option maxRecDepth 100000 in
theorem eL_law_55 {l0 l1 l2 l3 l4 l5 l6 l7 : Option VV} {v0 : VV} {S : MM} : rn xL_law (55, [l0, l1, l2, l3, l4, l5, l6, l7], [v0], S) = rn xL_law (56, [l0, l1, l2, l3, l4, l5, l6, l7], [vI 2, v0], S) := rn_step dL_law_55 rfl rfl
set_option maxRecDepth 100000 in
theorem eL_law_56 {a : Int} {l0 l1 l2 l4 l5 l6 l7 : Option VV} {v0 v1 : VV} {S : MM} : rn xL_law (56, [l0, l1, l2, some (vI a), l4, l5, l6, l7], [v0, v1], S) = rn xL_law (57, [l0, l1, l2, some (vI a), l4, l5, l6, l7], [vI a, v0, v1], S) := rn_step dL_law_56 rfl rfl
set_option maxRecDepth 100000 in
theorem eL_law_57 {l0 l1 l2 l3 l4 l5 l6 l7 : Option VV} {v0 v1 v2 : VV} {S : MM} : rn xL_law (57, [l0, l1, l2, l3, l4, l5, l6, l7], [v0, v1, v2], S) = rn xL_law (58, [l0, l1, l2, l3, l4, l5, l6, l7], [vI 2, v0, v1, v2], S) := rn_step dL_law_57 rfl rfl
set_option maxRecDepth 100000 in
theorem eL_law_58 {a : Int} {l0 l1 l2 l3 l4 l5 l6 l7 : Option VV} {v2 v3 : VV} (h : -2147483648 ≤ a ∧ a ≤ 2147483647) {S : MM} : rn xL_law (58, [l0, l1, l2, l3, l4, l5, l6, l7], [vI 2, vI a, v2, v3], S) = rn xL_law (59, [l0, l1, l2, l3, l4, l5, l6, l7], [vI (a / 4), v2, v3], S) := q_ishrK dL_law_58 ⟨by decide, by decide⟩ rfl h
set_option maxRecDepth 100000 in
theorem eL_law_59 {l0 l1 l2 l3 l4 l5 l6 l7 : Option VV} {v0 v1 v2 : VV} {S : MM} : rn xL_law (59, [l0, l1, l2, l3, l4, l5, l6, l7], [v0, v1, v2], S) = rn xL_law (60, [l0, l1, l2, l3, l4, l5, l6, l7], [vI 3, v0, v1, v2], S) := rn_step dL_law_59 rfl rfl
set_option maxRecDepth 100000 in
theorem eL_law_60 {a0 : Int} {a1 : Int} {l0 l1 l2 l3 l4 l5 l6 l7 : Option VV} {v2 v3 : VV} {S : MM} : rn xL_law (60, [l0, l1, l2, l3, l4, l5, l6, l7], [vI a1, vI a0, v2, v3], S) = ((kp fL_up) [vI a0, vI a1] S).bind (fun q => rn xL_law (63, [l0, l1, l2, l3, l4, l5, l6, l7], q.1.toList ++ [v2, v3], q.2)) := q_callS (n := 2) (as := [vI a0, vI a1]) (rest := [v2, v3]) dL_law_60 rfl rfl rfl rfl
set_option maxRecDepth 100000 in
theorem eL_law_63 {a0 : Int} {a1 : Int} {l0 l1 l2 l3 l4 l5 l6 l7 : Option VV} {S : MM} : rn xL_law (63, [l0, l1, l2, l3, l4, l5, l6, l7], [vI a1, vI a0, vR 0], S) = ((kp fX8_set) [vR 0, vI a0, vI a1] S).bind (fun q => rn xL_law (66, [l0, l1, l2, l3, l4, l5, l6, l7], q.1.toList ++ [], q.2)) := q_callV (n := 2) (as := [vI a0, vI a1]) (rest := []) dL_law_63 rfl rfl rfl rfl kd0
set_option maxRecDepth 100000 in
theorem eL_law_66 {l0 l1 l2 l3 l4 l5 l6 l7 : Option VV} {v0 : VV} {S : MM} : rn xL_law (66, [l0, l1, l2, l3, l4, l5, l6, l7], [v0], S) = rn xL_law (67, [l0, l1, l2, l3, l4, l5, l6, l7], [vI 1, v0], S) := rn_step dL_law_66 rfl rfl
set_option maxRecDepth 100000 in
theorem eL_law_67 {a b : Int} {l0 l1 l2 l3 l4 l5 l6 l7 : Option VV} (h : -2147483648 ≤ a ∧ a ≤ 2147483647) (h1 : -2147483648 ≤ b ∧ b ≤ 2147483647) {S : MM} : rn xL_law (67, [l0, l1, l2, l3, l4, l5, l6, l7], [vI b, vI a], S) = if a = b then rn xL_law (70, [l0, l1, l2, l3, l4, l5, l6, l7], [], S) else rn xL_law (86, [l0, l1, l2, l3, l4, l5, l6, l7], [], S) := q_icmp_ne dL_law_67 (by decide) rfl h h1
set_option maxRecDepth 100000 in
theorem eL_law_70 {a : Option Nat} {l0 l2 l3 l4 l5 l6 l7 : Option VV} {S : MM} : rn xL_law (70, [l0, some (.inr (.inl a)), l2, l3, l4, l5, l6, l7], [], S) = rn xL_law (71, [l0, some (.inr (.inl a)), l2, l3, l4, l5, l6, l7], [.inr (.inl a)], S) := rn_step dL_law_70 rfl rfl
set_option maxRecDepth 100000 in
theorem eL_law_71 {l0 l1 l2 l3 l4 l5 l6 l7 : Option VV} {v0 : VV} {S : MM} : rn xL_law (71, [l0, l1, l2, l3, l4, l5, l6, l7], [v0], S) = rn xL_law (72, [l0, l1, l2, l3, l4, l5, l6, l7], [vI 3, v0], S) := rn_step dL_law_71 rfl rfl
set_option maxRecDepth 100000 in
theorem eL_law_72 {a : Int} {l0 l1 l2 l4 l5 l6 l7 : Option VV} {v0 v1 : VV} {S : MM} : rn xL_law (72, [l0, l1, l2, some (vI a), l4, l5, l6, l7], [v0, v1], S) = rn xL_law (73, [l0, l1, l2, some (vI a), l4, l5, l6, l7], [vI a, v0, v1], S) := rn_step dL_law_72 rfl rfl
set_option maxRecDepth 100000 in
theorem eL_law_73 {l0 l1 l2 l3 l4 l5 l6 l7 : Option VV} {v0 v1 v2 : VV} {S : MM} : rn xL_law (73, [l0, l1, l2, l3, l4, l5, l6, l7], [v0, v1, v2], S) = rn xL_law (74, [l0, l1, l2, l3, l4, l5, l6, l7], [vI 4, v0, v1, v2], S) := rn_step dL_law_73 rfl rfl
set_option maxRecDepth 100000 in
theorem eL_law_74 {a : Int} {l0 l1 l2 l3 l4 l5 l6 l7 : Option VV} {v2 v3 : VV} (h : -2147483648 ≤ a ∧ a ≤ 2147483647) {S : MM} : rn xL_law (74, [l0, l1, l2, l3, l4, l5, l6, l7], [vI 4, vI a, v2, v3], S) = rn xL_law (75, [l0, l1, l2, l3, l4, l5, l6, l7], [vI (a / 16), v2, v3], S) := q_ishrK dL_law_74 ⟨by decide, by decide⟩ rfl h
set_option maxRecDepth 100000 in
theorem eL_law_75 {l0 l1 l2 l3 l4 l5 l6 l7 : Option VV} {v0 v1 v2 : VV} {S : MM} : rn xL_law (75, [l0, l1, l2, l3, l4, l5, l6, l7], [v0, v1, v2], S) = rn xL_law (77, [l0, l1, l2, l3, l4, l5, l6, l7], [vI 6, v0, v1, v2], S) := rn_step dL_law_75 rfl rfl
set_option maxRecDepth 100000 in
theorem eL_law_77 {a0 : Int} {a1 : Int} {l0 l1 l2 l3 l4 l5 l6 l7 : Option VV} {v2 v3 : VV} {S : MM} : rn xL_law (77, [l0, l1, l2, l3, l4, l5, l6, l7], [vI a1, vI a0, v2, v3], S) = ((kp fL_up) [vI a0, vI a1] S).bind (fun q => rn xL_law (80, [l0, l1, l2, l3, l4, l5, l6, l7], q.1.toList ++ [v2, v3], q.2)) := q_callS (n := 2) (as := [vI a0, vI a1]) (rest := [v2, v3]) dL_law_77 rfl rfl rfl rfl
set_option maxRecDepth 100000 in
theorem eL_law_80 {a0 : Int} {a1 : Int} {l0 l1 l2 l3 l4 l5 l6 l7 : Option VV} {S : MM} : rn xL_law (80, [l0, l1, l2, l3, l4, l5, l6, l7], [vI a1, vI a0, vR 0], S) = ((kp fX8_set) [vR 0, vI a0, vI a1] S).bind (fun q => rn xL_law (83, [l0, l1, l2, l3, l4, l5, l6, l7], q.1.toList ++ [], q.2)) := q_callV (n := 2) (as := [vI a0, vI a1]) (rest := []) dL_law_80 rfl rfl rfl rfl kd0
set_option maxRecDepth 100000 in
theorem eL_law_83 {a : Int} {l0 l1 l2 l3 l4 l5 l6 l7 : Option VV} (h : -2147483648 ≤ a ∧ a ≤ 2147483647) {S : MM} : rn xL_law (83, [l0, l1, l2, l3, l4, l5, l6, l7], [vI a], S) = if a = 0 then rn xL_law (88, [l0, l1, l2, l3, l4, l5, l6, l7], [], S) else rn xL_law (86, [l0, l1, l2, l3, l4, l5, l6, l7], [], S) := q_if_eq dL_law_83 (by decide) rfl h
set_option maxRecDepth 100000 in
theorem eL_law_86 {l0 l1 l2 l3 l4 l5 l6 l7 : Option VV} {S : MM} : rn xL_law (86, [l0, l1, l2, l3, l4, l5, l6, l7], [], S) = rn xL_law (87, [l0, l1, l2, l3, l4, l5, l6, l7], [vI 0], S) := rn_step dL_law_86 rfl rfl
set_option maxRecDepth 100000 in
theorem eL_law_87 {z : Int} {l0 l1 l2 l3 l4 l5 l6 l7 : Option VV} (hz : z = 0 ∨ z = 1) {S : MM} : rn xL_law (87, [l0, l1, l2, l3, l4, l5, l6, l7], [vI z], S) = some (some (vI z), S) := q_retZ dL_law_87 rfl hz
set_option maxRecDepth 100000 in
theorem eL_law_88 {a : Int} {l0 l1 l2 l4 l5 l6 l7 : Option VV} {S : MM} : rn xL_law (88, [l0, l1, l2, some (vI a), l4, l5, l6, l7], [], S) = rn xL_law (89, [l0, l1, l2, some (vI a), l4, l5, l6, l7], [vI a], S) := rn_step dL_law_88 rfl rfl
set_option maxRecDepth 100000 in
theorem eL_law_89 {l0 l1 l2 l3 l4 l5 l6 l7 : Option VV} {v0 : VV} {S : MM} : rn xL_law (89, [l0, l1, l2, l3, l4, l5, l6, l7], [v0], S) = rn xL_law (91, [l0, l1, l2, l3, l4, l5, l6, l7], [vI 7, v0], S) := rn_step dL_law_89 rfl rfl
set_option maxRecDepth 100000 in
theorem eL_law_91 {a : Int} {l0 l1 l2 l3 l4 l5 l6 l7 : Option VV} (h : -2147483648 ≤ a ∧ a ≤ 2147483647) {S : MM} : rn xL_law (91, [l0, l1, l2, l3, l4, l5, l6, l7], [vI 7, vI a], S) = rn xL_law (92, [l0, l1, l2, l3, l4, l5, l6, l7], [vI (a / 128)], S) := q_ishrK dL_law_91 ⟨by decide, by decide⟩ rfl h
set_option maxRecDepth 100000 in
theorem eL_law_92 {l0 l1 l2 l3 l4 l5 l6 l7 : Option VV} {v0 : VV} {S : MM} : rn xL_law (92, [l0, l1, l2, l3, l4, l5, l6, l7], [v0], S) = rn xL_law (93, [l0, l1, l2, l3, l4, l5, l6, l7], [vI 2, v0], S) := rn_step dL_law_92 rfl rfl
set_option maxRecDepth 100000 in
theorem eL_law_93 {a0 : Int} {a1 : Int} {l0 l1 l2 l3 l4 l5 l6 l7 : Option VV} {S : MM} : rn xL_law (93, [l0, l1, l2, l3, l4, l5, l6, l7], [vI a1, vI a0], S) = ((kp fL_up) [vI a0, vI a1] S).bind (fun q => rn xL_law (96, [l0, l1, l2, l3, l4, l5, l6, l7], q.1.toList ++ [], q.2)) := q_callS (n := 2) (as := [vI a0, vI a1]) (rest := []) dL_law_93 rfl rfl rfl rfl
set_option maxRecDepth 100000 in
theorem eL_law_96 {a : Int} {l0 l1 l2 l3 l4 l5 l6 l7 : Option VV} (h : -2147483648 ≤ a ∧ a ≤ 2147483647) {S : MM} : rn xL_law (96, [l0, l1, l2, l3, l4, l5, l6, l7], [vI a], S) = if a = 0 then rn xL_law (99, [l0, l1, l2, l3, l4, l5, l6, l7], [], S) else rn xL_law (141, [l0, l1, l2, l3, l4, l5, l6, l7], [], S) := q_if_ne dL_law_96 (by decide) rfl h
set_option maxRecDepth 100000 in
theorem eL_law_99 {a : Option Nat} {l0 l2 l3 l4 l5 l6 l7 : Option VV} {S : MM} : rn xL_law (99, [l0, some (.inr (.inl a)), l2, l3, l4, l5, l6, l7], [], S) = rn xL_law (100, [l0, some (.inr (.inl a)), l2, l3, l4, l5, l6, l7], [.inr (.inl a)], S) := rn_step dL_law_99 rfl rfl
set_option maxRecDepth 100000 in
theorem eL_law_100 {l0 l1 l2 l3 l4 l5 l6 l7 : Option VV} {v0 : VV} {S : MM} : rn xL_law (100, [l0, l1, l2, l3, l4, l5, l6, l7], [v0], S) = rn xL_law (101, [l0, l1, l2, l3, l4, l5, l6, l7], [vI 0, v0], S) := rn_step dL_law_100 rfl rfl
set_option maxRecDepth 100000 in
theorem eL_law_101 {a : Int} {l0 l1 l2 l4 l5 l6 l7 : Option VV} {v0 v1 : VV} {S : MM} : rn xL_law (101, [l0, l1, l2, some (vI a), l4, l5, l6, l7], [v0, v1], S) = rn xL_law (102, [l0, l1, l2, some (vI a), l4, l5, l6, l7], [vI a, v0, v1], S) := rn_step dL_law_101 rfl rfl
set_option maxRecDepth 100000 in
theorem eL_law_102 {l0 l1 l2 l3 l4 l5 l6 l7 : Option VV} {v0 v1 v2 : VV} {S : MM} : rn xL_law (102, [l0, l1, l2, l3, l4, l5, l6, l7], [v0, v1, v2], S) = rn xL_law (104, [l0, l1, l2, l3, l4, l5, l6, l7], [vI 8, v0, v1, v2], S) := rn_step dL_law_102 rfl rfl
set_option maxRecDepth 100000 in
theorem eL_law_104 {a : Int} {l0 l1 l2 l3 l4 l5 l6 l7 : Option VV} {v2 v3 : VV} (h : -2147483648 ≤ a ∧ a ≤ 2147483647) {S : MM} : rn xL_law (104, [l0, l1, l2, l3, l4, l5, l6, l7], [vI 8, vI a, v2, v3], S) = rn xL_law (105, [l0, l1, l2, l3, l4, l5, l6, l7], [vI (a / 256), v2, v3], S) := q_ishrK dL_law_104 ⟨by decide, by decide⟩ rfl h
set_option maxRecDepth 100000 in
theorem eL_law_105 {l0 l1 l2 l3 l4 l5 l6 l7 : Option VV} {v0 v1 v2 : VV} {S : MM} : rn xL_law (105, [l0, l1, l2, l3, l4, l5, l6, l7], [v0, v1, v2], S) = rn xL_law (107, [l0, l1, l2, l3, l4, l5, l6, l7], [vI 10, v0, v1, v2], S) := rn_step dL_law_105 rfl rfl
set_option maxRecDepth 100000 in
theorem eL_law_107 {a0 : Int} {a1 : Int} {l0 l1 l2 l3 l4 l5 l6 l7 : Option VV} {v2 v3 : VV} {S : MM} : rn xL_law (107, [l0, l1, l2, l3, l4, l5, l6, l7], [vI a1, vI a0, v2, v3], S) = ((kp fL_up) [vI a0, vI a1] S).bind (fun q => rn xL_law (110, [l0, l1, l2, l3, l4, l5, l6, l7], q.1.toList ++ [v2, v3], q.2)) := q_callS (n := 2) (as := [vI a0, vI a1]) (rest := [v2, v3]) dL_law_107 rfl rfl rfl rfl
set_option maxRecDepth 100000 in
theorem eL_law_110 {a0 : Int} {a1 : Int} {l0 l1 l2 l3 l4 l5 l6 l7 : Option VV} {S : MM} : rn xL_law (110, [l0, l1, l2, l3, l4, l5, l6, l7], [vI a1, vI a0, vR 0], S) = ((kp fX8_set) [vR 0, vI a0, vI a1] S).bind (fun q => rn xL_law (113, [l0, l1, l2, l3, l4, l5, l6, l7], q.1.toList ++ [], q.2)) := q_callV (n := 2) (as := [vI a0, vI a1]) (rest := []) dL_law_110 rfl rfl rfl rfl kd0
set_option maxRecDepth 100000 in
theorem eL_law_113 {a : Int} {l0 l1 l2 l3 l4 l5 l6 l7 : Option VV} (h : -2147483648 ≤ a ∧ a ≤ 2147483647) {S : MM} : rn xL_law (113, [l0, l1, l2, l3, l4, l5, l6, l7], [vI a], S) = if a = 0 then rn xL_law (116, [l0, l1, l2, l3, l4, l5, l6, l7], [], S) else rn xL_law (139, [l0, l1, l2, l3, l4, l5, l6, l7], [], S) := q_if_ne dL_law_113 (by decide) rfl h
set_option maxRecDepth 100000 in
theorem eL_law_116 {a : Option Nat} {l0 l2 l3 l4 l5 l6 l7 : Option VV} {S : MM} : rn xL_law (116, [l0, some (.inr (.inl a)), l2, l3, l4, l5, l6, l7], [], S) = rn xL_law (117, [l0, some (.inr (.inl a)), l2, l3, l4, l5, l6, l7], [.inr (.inl a)], S) := rn_step dL_law_116 rfl rfl
set_option maxRecDepth 100000 in
theorem eL_law_117 {l0 l1 l2 l3 l4 l5 l6 l7 : Option VV} {v0 : VV} {S : MM} : rn xL_law (117, [l0, l1, l2, l3, l4, l5, l6, l7], [v0], S) = rn xL_law (118, [l0, l1, l2, l3, l4, l5, l6, l7], [vI 1, v0], S) := rn_step dL_law_117 rfl rfl
set_option maxRecDepth 100000 in
theorem eL_law_118 {l0 l1 l2 l3 l4 l5 l6 l7 : Option VV} {v0 v1 : VV} {S : MM} : rn xL_law (118, [l0, l1, l2, l3, l4, l5, l6, l7], [v0, v1], S) = rn xL_law (120, [l0, l1, l2, l3, l4, l5, l6, l7], [vI 20, v0, v1], S) := rn_step dL_law_118 rfl rfl
set_option maxRecDepth 100000 in
theorem eL_law_120 {a : Int} {l0 l1 l2 l4 l5 l6 l7 : Option VV} {v0 v1 v2 : VV} {S : MM} : rn xL_law (120, [l0, l1, l2, some (vI a), l4, l5, l6, l7], [v0, v1, v2], S) = rn xL_law (121, [l0, l1, l2, some (vI a), l4, l5, l6, l7], [vI a, v0, v1, v2], S) := rn_step dL_law_120 rfl rfl
set_option maxRecDepth 100000 in
theorem eL_law_121 {l0 l1 l2 l3 l4 l5 l6 l7 : Option VV} {v0 v1 v2 v3 : VV} {S : MM} : rn xL_law (121, [l0, l1, l2, l3, l4, l5, l6, l7], [v0, v1, v2, v3], S) = rn xL_law (123, [l0, l1, l2, l3, l4, l5, l6, l7], [vI 12, v0, v1, v2, v3], S) := rn_step dL_law_121 rfl rfl
set_option maxRecDepth 100000 in
theorem eL_law_123 {a : Int} {l0 l1 l2 l3 l4 l5 l6 l7 : Option VV} {v2 v3 v4 : VV} (h : -2147483648 ≤ a ∧ a ≤ 2147483647) {S : MM} : rn xL_law (123, [l0, l1, l2, l3, l4, l5, l6, l7], [vI 12, vI a, v2, v3, v4], S) = rn xL_law (124, [l0, l1, l2, l3, l4, l5, l6, l7], [vI (a / 4096), v2, v3, v4], S) := q_ishrK dL_law_123 ⟨by decide, by decide⟩ rfl h
set_option maxRecDepth 100000 in
theorem eL_law_124 {l0 l1 l2 l3 l4 l5 l6 l7 : Option VV} {v0 v1 v2 v3 : VV} {S : MM} : rn xL_law (124, [l0, l1, l2, l3, l4, l5, l6, l7], [v0, v1, v2, v3], S) = rn xL_law (126, [l0, l1, l2, l3, l4, l5, l6, l7], [vI 60, v0, v1, v2, v3], S) := rn_step dL_law_124 rfl rfl
set_option maxRecDepth 100000 in
theorem eL_law_126 {a0 : Int} {a1 : Int} {l0 l1 l2 l3 l4 l5 l6 l7 : Option VV} {v2 v3 v4 : VV} {S : MM} : rn xL_law (126, [l0, l1, l2, l3, l4, l5, l6, l7], [vI a1, vI a0, v2, v3, v4], S) = ((kp fL_up) [vI a0, vI a1] S).bind (fun q => rn xL_law (129, [l0, l1, l2, l3, l4, l5, l6, l7], q.1.toList ++ [v2, v3, v4], q.2)) := q_callS (n := 2) (as := [vI a0, vI a1]) (rest := [v2, v3, v4]) dL_law_126 rfl rfl rfl rfl
set_option maxRecDepth 100000 in
theorem eL_law_129 {a b : Int} {l0 l1 l2 l3 l4 l5 l6 l7 : Option VV} {v2 v3 : VV} {S : MM} : rn xL_law (129, [l0, l1, l2, l3, l4, l5, l6, l7], [vI b, vI a, v2, v3], S) = rn xL_law (130, [l0, l1, l2, l3, l4, l5, l6, l7], [vI (a + b), v2, v3], S) := rn_step dL_law_129 rfl rfl
set_option maxRecDepth 100000 in
theorem eL_law_130 {a0 : Int} {a1 : Int} {l0 l1 l2 l3 l4 l5 l6 l7 : Option VV} {S : MM} : rn xL_law (130, [l0, l1, l2, l3, l4, l5, l6, l7], [vI a1, vI a0, vR 0], S) = ((kp fX8_set) [vR 0, vI a0, vI a1] S).bind (fun q => rn xL_law (133, [l0, l1, l2, l3, l4, l5, l6, l7], q.1.toList ++ [], q.2)) := q_callV (n := 2) (as := [vI a0, vI a1]) (rest := []) dL_law_130 rfl rfl rfl rfl kd0
set_option maxRecDepth 100000 in
theorem eL_law_133 {l0 l1 l2 l3 l4 l5 l6 l7 : Option VV} {v0 : VV} {S : MM} : rn xL_law (133, [l0, l1, l2, l3, l4, l5, l6, l7], [v0], S) = rn xL_law (136, [l0, l1, l2, l3, l4, l5, l6, l7], [vI 299, v0], S) := rn_step dL_law_133 rfl rfl
set_option maxRecDepth 100000 in
theorem eL_law_136 {a b : Int} {l0 l1 l2 l3 l4 l5 l6 l7 : Option VV} (h : -2147483648 ≤ a ∧ a ≤ 2147483647) (h1 : -2147483648 ≤ b ∧ b ≤ 2147483647) {S : MM} : rn xL_law (136, [l0, l1, l2, l3, l4, l5, l6, l7], [vI b, vI a], S) = if a = b then rn xL_law (141, [l0, l1, l2, l3, l4, l5, l6, l7], [], S) else rn xL_law (139, [l0, l1, l2, l3, l4, l5, l6, l7], [], S) := q_icmp_eq dL_law_136 (by decide) rfl h h1
set_option maxRecDepth 100000 in
theorem eL_law_139 {l0 l1 l2 l3 l4 l5 l6 l7 : Option VV} {S : MM} : rn xL_law (139, [l0, l1, l2, l3, l4, l5, l6, l7], [], S) = rn xL_law (140, [l0, l1, l2, l3, l4, l5, l6, l7], [vI 0], S) := rn_step dL_law_139 rfl rfl
set_option maxRecDepth 100000 in
theorem eL_law_140 {z : Int} {l0 l1 l2 l3 l4 l5 l6 l7 : Option VV} (hz : z = 0 ∨ z = 1) {S : MM} : rn xL_law (140, [l0, l1, l2, l3, l4, l5, l6, l7], [vI z], S) = some (some (vI z), S) := q_retZ dL_law_140 rfl hz
set_option maxRecDepth 100000 in
theorem eL_law_141 {l0 l1 l2 l3 l4 l5 l6 l7 : Option VV} {S : MM} : rn xL_law (141, [l0, l1, l2, l3, l4, l5, l6, l7], [], S) = rn xL_law (142, [l0, l1, l2, l3, l4, l5, l6, l7], [vI 0], S) := rn_step dL_law_141 rfl rfl
set_option maxRecDepth 100000 in
theorem eL_law_142 {a : Int} {w : Int} {l0 l1 l2 l3 l5 l6 l7 : Option VV} {S : MM} : rn xL_law (142, [l0, l1, l2, l3, some (vI w), l5, l6, l7], [vI a], S) = rn xL_law (144, [l0, l1, l2, l3, some (vI w), some (vI a), l6, l7], [], S) := rn_step dL_law_142 rfl rfl
set_option maxRecDepth 100000 in
theorem eL_law_144 {a : Int} {l0 l1 l2 l3 l4 l6 l7 : Option VV} {S : MM} : rn xL_law (144, [l0, l1, l2, l3, l4, some (vI a), l6, l7], [], S) = rn xL_law (146, [l0, l1, l2, l3, l4, some (vI a), l6, l7], [vI a], S) := rn_step dL_law_144 rfl rfl
set_option maxRecDepth 100000 in
theorem eL_law_146 {l0 l1 l2 l3 l4 l5 l6 l7 : Option VV} {v0 : VV} {S : MM} : rn xL_law (146, [l0, l1, l2, l3, l4, l5, l6, l7], [v0], S) = rn xL_law (147, [l0, l1, l2, l3, l4, l5, l6, l7], [vI 3, v0], S) := rn_step dL_law_146 rfl rfl
set_option maxRecDepth 100000 in
theorem eL_law_147 {a b : Int} {l0 l1 l2 l3 l4 l5 l6 l7 : Option VV} (h : -2147483648 ≤ a ∧ a ≤ 2147483647) (h1 : -2147483648 ≤ b ∧ b ≤ 2147483647) {S : MM} : rn xL_law (147, [l0, l1, l2, l3, l4, l5, l6, l7], [vI b, vI a], S) = if a < b then rn xL_law (150, [l0, l1, l2, l3, l4, l5, l6, l7], [], S) else rn xL_law (224, [l0, l1, l2, l3, l4, l5, l6, l7], [], S) := q_icmp_ge dL_law_147 (by decide) rfl h h1
set_option maxRecDepth 100000 in
theorem eL_law_150 {l0 l1 l2 l3 l4 l5 l6 l7 : Option VV} {S : MM} : rn xL_law (150, [l0, l1, l2, l3, l4, l5, l6, l7], [], S) = rn xL_law (151, [l0, l1, l2, l3, l4, l5, l6, l7], [vI 0], S) := rn_step dL_law_150 rfl rfl
set_option maxRecDepth 100000 in
theorem eL_law_151 {a : Int} {w : Int} {l0 l1 l2 l3 l4 l6 l7 : Option VV} {S : MM} : rn xL_law (151, [l0, l1, l2, l3, l4, some (vI w), l6, l7], [vI a], S) = rn xL_law (153, [l0, l1, l2, l3, l4, some (vI w), some (vI a), l7], [], S) := rn_step dL_law_151 rfl rfl
set_option maxRecDepth 100000 in
theorem eL_law_153 {a : Int} {l0 l1 l2 l3 l4 l5 l7 : Option VV} {S : MM} : rn xL_law (153, [l0, l1, l2, l3, l4, l5, some (vI a), l7], [], S) = rn xL_law (155, [l0, l1, l2, l3, l4, l5, some (vI a), l7], [vI a], S) := rn_step dL_law_153 rfl rfl
set_option maxRecDepth 100000 in
theorem eL_law_155 {l0 l1 l2 l3 l4 l5 l6 l7 : Option VV} {v0 : VV} {S : MM} : rn xL_law (155, [l0, l1, l2, l3, l4, l5, l6, l7], [v0], S) = rn xL_law (156, [l0, l1, l2, l3, l4, l5, l6, l7], [vI 4, v0], S) := rn_step dL_law_155 rfl rfl
set_option maxRecDepth 100000 in
theorem eL_law_156 {a b : Int} {l0 l1 l2 l3 l4 l5 l6 l7 : Option VV} (h : -2147483648 ≤ a ∧ a ≤ 2147483647) (h1 : -2147483648 ≤ b ∧ b ≤ 2147483647) {S : MM} : rn xL_law (156, [l0, l1, l2, l3, l4, l5, l6, l7], [vI b, vI a], S) = if a < b then rn xL_law (159, [l0, l1, l2, l3, l4, l5, l6, l7], [], S) else rn xL_law (218, [l0, l1, l2, l3, l4, l5, l6, l7], [], S) := q_icmp_ge dL_law_156 (by decide) rfl h h1
set_option maxRecDepth 100000 in
theorem eL_law_159 {a : Option Nat} {l1 l2 l3 l4 l5 l6 l7 : Option VV} {S : MM} : rn xL_law (159, [some (.inr (.inl a)), l1, l2, l3, l4, l5, l6, l7], [], S) = rn xL_law (160, [some (.inr (.inl a)), l1, l2, l3, l4, l5, l6, l7], [.inr (.inl a)], S) := rn_step dL_law_159 rfl rfl
set_option maxRecDepth 100000 in
theorem eL_law_160 {a : Int} {l0 l1 l3 l4 l5 l6 l7 : Option VV} {v0 : VV} {S : MM} : rn xL_law (160, [l0, l1, some (vI a), l3, l4, l5, l6, l7], [v0], S) = rn xL_law (161, [l0, l1, some (vI a), l3, l4, l5, l6, l7], [vI a, v0], S) := rn_step dL_law_160 rfl rfl
set_option maxRecDepth 100000 in
theorem eL_law_161 {a : Int} {w : Option Nat} {l0 l3 l4 l5 l6 l7 : Option VV} {v0 v1 : VV} {S : MM} : rn xL_law (161, [l0, some (.inr (.inl w)), some (vI a), l3, l4, l5, l6, l7], [v0, v1], S) = rn xL_law (164, [l0, some (.inr (.inl w)), some (vI (a + 1)), l3, l4, l5, l6, l7], [v0, v1], S) := rn_step dL_law_161 rfl rfl
set_option maxRecDepth 100000 in
theorem eL_law_164 {a0 : Option Nat} {a1 : Int} {l0 l1 l2 l3 l4 l5 l6 l7 : Option VV} {S : MM} : rn xL_law (164, [l0, l1, l2, l3, l4, l5, l6, l7], [vI a1, .inr (.inl a0)], S) = ((kp fcN) [.inr (.inl a0), vI a1] S).bind (fun q => rn xL_law (167, [l0, l1, l2, l3, l4, l5, l6, l7], q.1.toList ++ [], q.2)) := q_callS (n := 2) (as := [.inr (.inl a0), vI a1]) (rest := []) dL_law_164 rfl rfl rfl rfl
set_option maxRecDepth 100000 in
theorem eL_law_167 {a : Int} {w : Int} {l0 l1 l2 l3 l4 l5 l7 : Option VV} {S : MM} : rn xL_law (167, [l0, l1, l2, l3, l4, l5, some (vI w), l7], [vI a], S) = rn xL_law (169, [l0, l1, l2, l3, l4, l5, some (vI w), some (vI a)], [], S) := rn_step dL_law_167 rfl rfl
set_option maxRecDepth 100000 in
theorem eL_law_169 {a : Option Nat} {l0 l2 l3 l4 l5 l6 l7 : Option VV} {S : MM} : rn xL_law (169, [l0, some (.inr (.inl a)), l2, l3, l4, l5, l6, l7], [], S) = rn xL_law (170, [l0, some (.inr (.inl a)), l2, l3, l4, l5, l6, l7], [.inr (.inl a)], S) := rn_step dL_law_169 rfl rfl
set_option maxRecDepth 100000 in
theorem eL_law_170 {a : Int} {l0 l1 l2 l3 l4 l6 l7 : Option VV} {v0 : VV} {S : MM} : rn xL_law (170, [l0, l1, l2, l3, l4, some (vI a), l6, l7], [v0], S) = rn xL_law (172, [l0, l1, l2, l3, l4, some (vI a), l6, l7], [vI a, v0], S) := rn_step dL_law_170 rfl rfl
set_option maxRecDepth 100000 in
theorem eL_law_172 {a : Int} {l0 l1 l2 l3 l4 l5 l6 : Option VV} {v0 v1 : VV} {S : MM} : rn xL_law (172, [l0, l1, l2, l3, l4, l5, l6, some (vI a)], [v0, v1], S) = rn xL_law (174, [l0, l1, l2, l3, l4, l5, l6, some (vI a)], [vI a, v0, v1], S) := rn_step dL_law_172 rfl rfl
set_option maxRecDepth 100000 in
theorem eL_law_174 {a : Int} {l0 l1 l2 l3 l5 l6 l7 : Option VV} {v0 v1 v2 : VV} {S : MM} : rn xL_law (174, [l0, l1, l2, l3, some (vI a), l5, l6, l7], [v0, v1, v2], S) = rn xL_law (176, [l0, l1, l2, l3, some (vI a), l5, l6, l7], [vI a, v0, v1, v2], S) := rn_step dL_law_174 rfl rfl
set_option maxRecDepth 100000 in
theorem eL_law_176 {a0 : Int} {a1 : Int} {l0 l1 l2 l3 l4 l5 l6 l7 : Option VV} {v2 v3 : VV} {S : MM} : rn xL_law (176, [l0, l1, l2, l3, l4, l5, l6, l7], [vI a1, vI a0, v2, v3], S) = ((kp fL_up) [vI a0, vI a1] S).bind (fun q => rn xL_law (179, [l0, l1, l2, l3, l4, l5, l6, l7], q.1.toList ++ [v2, v3], q.2)) := q_callS (n := 2) (as := [vI a0, vI a1]) (rest := [v2, v3]) dL_law_176 rfl rfl rfl rfl
set_option maxRecDepth 100000 in
theorem eL_law_179 {l0 l1 l2 l3 l4 l5 l6 l7 : Option VV} {v0 v1 v2 : VV} {S : MM} : rn xL_law (179, [l0, l1, l2, l3, l4, l5, l6, l7], [v0, v1, v2], S) = rn xL_law (180, [l0, l1, l2, l3, l4, l5, l6, l7], [vI 1, v0, v1, v2], S) := rn_step dL_law_179 rfl rfl
set_option maxRecDepth 100000 in
theorem eL_law_180 {a : Int} {l0 l1 l2 l3 l4 l5 l6 : Option VV} {v0 v1 v2 v3 : VV} {S : MM} : rn xL_law (180, [l0, l1, l2, l3, l4, l5, l6, some (vI a)], [v0, v1, v2, v3], S) = rn xL_law (182, [l0, l1, l2, l3, l4, l5, l6, some (vI a)], [vI a, v0, v1, v2, v3], S) := rn_step dL_law_180 rfl rfl
set_option maxRecDepth 100000 in
theorem eL_law_182 {l0 l1 l2 l3 l4 l5 l6 l7 : Option VV} {v0 v1 v2 v3 v4 : VV} {S : MM} : rn xL_law (182, [l0, l1, l2, l3, l4, l5, l6, l7], [v0, v1, v2, v3, v4], S) = rn xL_law (184, [l0, l1, l2, l3, l4, l5, l6, l7], [vI 10, v0, v1, v2, v3, v4], S) := rn_step dL_law_182 rfl rfl
set_option maxRecDepth 100000 in
theorem eL_law_184 {a : Int} {l0 l1 l2 l3 l4 l5 l6 l7 : Option VV} {v2 v3 v4 v5 : VV} (h : -2147483648 ≤ a ∧ a ≤ 2147483647) {S : MM} : rn xL_law (184, [l0, l1, l2, l3, l4, l5, l6, l7], [vI 10, vI a, v2, v3, v4, v5], S) = rn xL_law (185, [l0, l1, l2, l3, l4, l5, l6, l7], [vI (a / 1024), v2, v3, v4, v5], S) := q_ishrK dL_law_184 ⟨by decide, by decide⟩ rfl h
set_option maxRecDepth 100000 in
theorem eL_law_185 {l0 l1 l2 l3 l4 l5 l6 l7 : Option VV} {v0 v1 v2 v3 v4 : VV} {S : MM} : rn xL_law (185, [l0, l1, l2, l3, l4, l5, l6, l7], [v0, v1, v2, v3, v4], S) = rn xL_law (187, [l0, l1, l2, l3, l4, l5, l6, l7], [vI 9, v0, v1, v2, v3, v4], S) := rn_step dL_law_185 rfl rfl
set_option maxRecDepth 100000 in
theorem eL_law_187 {a0 : Int} {a1 : Int} {l0 l1 l2 l3 l4 l5 l6 l7 : Option VV} {v2 v3 v4 v5 : VV} {S : MM} : rn xL_law (187, [l0, l1, l2, l3, l4, l5, l6, l7], [vI a1, vI a0, v2, v3, v4, v5], S) = ((kp fL_up) [vI a0, vI a1] S).bind (fun q => rn xL_law (190, [l0, l1, l2, l3, l4, l5, l6, l7], q.1.toList ++ [v2, v3, v4, v5], q.2)) := q_callS (n := 2) (as := [vI a0, vI a1]) (rest := [v2, v3, v4, v5]) dL_law_187 rfl rfl rfl rfl
set_option maxRecDepth 100000 in
theorem eL_law_190 {a b : Int} {l0 l1 l2 l3 l4 l5 l6 l7 : Option VV} {v2 v3 v4 : VV} {S : MM} : rn xL_law (190, [l0, l1, l2, l3, l4, l5, l6, l7], [vI b, vI a, v2, v3, v4], S) = rn xL_law (191, [l0, l1, l2, l3, l4, l5, l6, l7], [vI (a + b), v2, v3, v4], S) := rn_step dL_law_190 rfl rfl
set_option maxRecDepth 100000 in
theorem eL_law_191 {a0 : Int} {a1 : Int} {a2 : Int} {l0 l1 l2 l3 l4 l5 l6 l7 : Option VV} {S : MM} : rn xL_law (191, [l0, l1, l2, l3, l4, l5, l6, l7], [vI a2, vI a1, vI a0, vR 0], S) = ((kp fX8_stone) [vR 0, vI a0, vI a1, vI a2] S).bind (fun q => rn xL_law (194, [l0, l1, l2, l3, l4, l5, l6, l7], q.1.toList ++ [], q.2)) := q_callV (n := 3) (as := [vI a0, vI a1, vI a2]) (rest := []) dL_law_191 rfl rfl rfl rfl kd0
set_option maxRecDepth 100000 in
theorem eL_law_194 {a : Int} {l0 l1 l2 l3 l4 l5 l6 l7 : Option VV} {S : MM} : rn xL_law (194, [l0, l1, l2, l3, l4, l5, l6, l7], [vI a], S) = rn xL_law (195, [l0, l1, l2, l3, l4, l5, l6, l7], [], S) := rn_step dL_law_194 rfl rfl
set_option maxRecDepth 100000 in
theorem eL_law_195 {a : Option Nat} {l0 l2 l3 l4 l5 l6 l7 : Option VV} {S : MM} : rn xL_law (195, [l0, some (.inr (.inl a)), l2, l3, l4, l5, l6, l7], [], S) = rn xL_law (196, [l0, some (.inr (.inl a)), l2, l3, l4, l5, l6, l7], [.inr (.inl a)], S) := rn_step dL_law_195 rfl rfl
set_option maxRecDepth 100000 in
theorem eL_law_196 {a : Int} {l0 l1 l2 l3 l4 l6 l7 : Option VV} {v0 : VV} {S : MM} : rn xL_law (196, [l0, l1, l2, l3, l4, some (vI a), l6, l7], [v0], S) = rn xL_law (198, [l0, l1, l2, l3, l4, some (vI a), l6, l7], [vI a, v0], S) := rn_step dL_law_196 rfl rfl
set_option maxRecDepth 100000 in
theorem eL_law_198 {a : Int} {l0 l1 l2 l3 l4 l5 l6 : Option VV} {v0 v1 : VV} {S : MM} : rn xL_law (198, [l0, l1, l2, l3, l4, l5, l6, some (vI a)], [v0, v1], S) = rn xL_law (200, [l0, l1, l2, l3, l4, l5, l6, some (vI a)], [vI a, v0, v1], S) := rn_step dL_law_198 rfl rfl
set_option maxRecDepth 100000 in
theorem eL_law_200 {l0 l1 l2 l3 l4 l5 l6 l7 : Option VV} {v0 v1 v2 : VV} {S : MM} : rn xL_law (200, [l0, l1, l2, l3, l4, l5, l6, l7], [v0, v1, v2], S) = rn xL_law (201, [l0, l1, l2, l3, l4, l5, l6, l7], [vI 4, v0, v1, v2], S) := rn_step dL_law_200 rfl rfl
set_option maxRecDepth 100000 in
theorem eL_law_201 {a : Int} {l0 l1 l2 l3 l4 l5 l6 l7 : Option VV} {v2 v3 : VV} (h : -2147483648 ≤ a ∧ a ≤ 2147483647) {S : MM} : rn xL_law (201, [l0, l1, l2, l3, l4, l5, l6, l7], [vI 4, vI a, v2, v3], S) = rn xL_law (202, [l0, l1, l2, l3, l4, l5, l6, l7], [vI (a / 16), v2, v3], S) := q_ishrK dL_law_201 ⟨by decide, by decide⟩ rfl h
set_option maxRecDepth 100000 in
theorem eL_law_202 {l0 l1 l2 l3 l4 l5 l6 l7 : Option VV} {v0 v1 v2 : VV} {S : MM} : rn xL_law (202, [l0, l1, l2, l3, l4, l5, l6, l7], [v0, v1, v2], S) = rn xL_law (204, [l0, l1, l2, l3, l4, l5, l6, l7], [vI 12, v0, v1, v2], S) := rn_step dL_law_202 rfl rfl
set_option maxRecDepth 100000 in
theorem eL_law_204 {a0 : Int} {a1 : Int} {l0 l1 l2 l3 l4 l5 l6 l7 : Option VV} {v2 v3 : VV} {S : MM} : rn xL_law (204, [l0, l1, l2, l3, l4, l5, l6, l7], [vI a1, vI a0, v2, v3], S) = ((kp fL_up) [vI a0, vI a1] S).bind (fun q => rn xL_law (207, [l0, l1, l2, l3, l4, l5, l6, l7], q.1.toList ++ [v2, v3], q.2)) := q_callS (n := 2) (as := [vI a0, vI a1]) (rest := [v2, v3]) dL_law_204 rfl rfl rfl rfl
set_option maxRecDepth 100000 in
theorem eL_law_207 {l0 l1 l2 l3 l4 l5 l6 l7 : Option VV} {v0 v1 v2 : VV} {S : MM} : rn xL_law (207, [l0, l1, l2, l3, l4, l5, l6, l7], [v0, v1, v2], S) = rn xL_law (208, [l0, l1, l2, l3, l4, l5, l6, l7], [vI 1, v0, v1, v2], S) := rn_step dL_law_207 rfl rfl
set_option maxRecDepth 100000 in
theorem eL_law_208 {a0 : Int} {a1 : Int} {a2 : Int} {l0 l1 l2 l3 l4 l5 l6 l7 : Option VV} {S : MM} : rn xL_law (208, [l0, l1, l2, l3, l4, l5, l6, l7], [vI a2, vI a1, vI a0, vR 0], S) = ((kp fX8_stone) [vR 0, vI a0, vI a1, vI a2] S).bind (fun q => rn xL_law (211, [l0, l1, l2, l3, l4, l5, l6, l7], q.1.toList ++ [], q.2)) := q_callV (n := 3) (as := [vI a0, vI a1, vI a2]) (rest := []) dL_law_208 rfl rfl rfl rfl kd0
set_option maxRecDepth 100000 in
theorem eL_law_211 {a : Int} {l0 l1 l2 l3 l4 l5 l6 l7 : Option VV} {S : MM} : rn xL_law (211, [l0, l1, l2, l3, l4, l5, l6, l7], [vI a], S) = rn xL_law (212, [l0, l1, l2, l3, l4, l5, l6, l7], [], S) := rn_step dL_law_211 rfl rfl
set_option maxRecDepth 100000 in
theorem eL_law_212 {a : Int} {w : Int} {l0 l1 l2 l3 l4 l7 : Option VV} {S : MM} : rn xL_law (212, [l0, l1, l2, l3, l4, some (vI w), some (vI a), l7], [], S) = rn xL_law (215, [l0, l1, l2, l3, l4, some (vI w), some (vI (a + 1)), l7], [], S) := rn_step dL_law_212 rfl rfl
set_option maxRecDepth 100000 in
theorem eL_law_215 {l0 l1 l2 l3 l4 l5 l6 l7 : Option VV} {S : MM} : rn xL_law (215, [l0, l1, l2, l3, l4, l5, l6, l7], [], S) = rn xL_law (153, [l0, l1, l2, l3, l4, l5, l6, l7], [], S) := rn_step dL_law_215 rfl rfl
set_option maxRecDepth 100000 in
theorem eL_law_218 {a : Int} {w : Int} {l0 l1 l2 l3 l6 l7 : Option VV} {S : MM} : rn xL_law (218, [l0, l1, l2, l3, some (vI w), some (vI a), l6, l7], [], S) = rn xL_law (221, [l0, l1, l2, l3, some (vI w), some (vI (a + 1)), l6, l7], [], S) := rn_step dL_law_218 rfl rfl
set_option maxRecDepth 100000 in
theorem eL_law_221 {l0 l1 l2 l3 l4 l5 l6 l7 : Option VV} {S : MM} : rn xL_law (221, [l0, l1, l2, l3, l4, l5, l6, l7], [], S) = rn xL_law (144, [l0, l1, l2, l3, l4, l5, l6, l7], [], S) := rn_step dL_law_221 rfl rfl
set_option maxRecDepth 100000 in
theorem eL_law_224 {l0 l1 l2 l3 l4 l5 l6 l7 : Option VV} {S : MM} : rn xL_law (224, [l0, l1, l2, l3, l4, l5, l6, l7], [], S) = rn xL_law (225, [l0, l1, l2, l3, l4, l5, l6, l7], [vI 0], S) := rn_step dL_law_224 rfl rfl
set_option maxRecDepth 100000 in
theorem eL_law_225 {a : Int} {w : Int} {l0 l1 l2 l3 l5 l6 l7 : Option VV} {S : MM} : rn xL_law (225, [l0, l1, l2, l3, some (vI w), l5, l6, l7], [vI a], S) = rn xL_law (227, [l0, l1, l2, l3, some (vI w), some (vI a), l6, l7], [], S) := rn_step dL_law_225 rfl rfl
set_option maxRecDepth 100000 in
theorem eL_law_227 {a : Int} {l0 l1 l2 l3 l4 l6 l7 : Option VV} {S : MM} : rn xL_law (227, [l0, l1, l2, l3, l4, some (vI a), l6, l7], [], S) = rn xL_law (229, [l0, l1, l2, l3, l4, some (vI a), l6, l7], [vI a], S) := rn_step dL_law_227 rfl rfl
set_option maxRecDepth 100000 in
theorem eL_law_229 {l0 l1 l2 l3 l4 l5 l6 l7 : Option VV} {v0 : VV} {S : MM} : rn xL_law (229, [l0, l1, l2, l3, l4, l5, l6, l7], [v0], S) = rn xL_law (231, [l0, l1, l2, l3, l4, l5, l6, l7], [vI 36, v0], S) := rn_step dL_law_229 rfl rfl
set_option maxRecDepth 100000 in
theorem eL_law_231 {a b : Int} {l0 l1 l2 l3 l4 l5 l6 l7 : Option VV} (h : -2147483648 ≤ a ∧ a ≤ 2147483647) (h1 : -2147483648 ≤ b ∧ b ≤ 2147483647) {S : MM} : rn xL_law (231, [l0, l1, l2, l3, l4, l5, l6, l7], [vI b, vI a], S) = if a < b then rn xL_law (234, [l0, l1, l2, l3, l4, l5, l6, l7], [], S) else rn xL_law (312, [l0, l1, l2, l3, l4, l5, l6, l7], [], S) := q_icmp_ge dL_law_231 (by decide) rfl h h1
set_option maxRecDepth 100000 in
theorem eL_law_234 {a : Option Nat} {l1 l2 l3 l4 l5 l6 l7 : Option VV} {S : MM} : rn xL_law (234, [some (.inr (.inl a)), l1, l2, l3, l4, l5, l6, l7], [], S) = rn xL_law (235, [some (.inr (.inl a)), l1, l2, l3, l4, l5, l6, l7], [.inr (.inl a)], S) := rn_step dL_law_234 rfl rfl
set_option maxRecDepth 100000 in
theorem eL_law_235 {a : Int} {l0 l1 l3 l4 l5 l6 l7 : Option VV} {v0 : VV} {S : MM} : rn xL_law (235, [l0, l1, some (vI a), l3, l4, l5, l6, l7], [v0], S) = rn xL_law (236, [l0, l1, some (vI a), l3, l4, l5, l6, l7], [vI a, v0], S) := rn_step dL_law_235 rfl rfl
set_option maxRecDepth 100000 in
theorem eL_law_236 {a : Int} {w : Option Nat} {l0 l3 l4 l5 l6 l7 : Option VV} {v0 v1 : VV} {S : MM} : rn xL_law (236, [l0, some (.inr (.inl w)), some (vI a), l3, l4, l5, l6, l7], [v0, v1], S) = rn xL_law (239, [l0, some (.inr (.inl w)), some (vI (a + 1)), l3, l4, l5, l6, l7], [v0, v1], S) := rn_step dL_law_236 rfl rfl
set_option maxRecDepth 100000 in
theorem eL_law_239 {a0 : Option Nat} {a1 : Int} {l0 l1 l2 l3 l4 l5 l6 l7 : Option VV} {S : MM} : rn xL_law (239, [l0, l1, l2, l3, l4, l5, l6, l7], [vI a1, .inr (.inl a0)], S) = ((kp fcN) [.inr (.inl a0), vI a1] S).bind (fun q => rn xL_law (242, [l0, l1, l2, l3, l4, l5, l6, l7], q.1.toList ++ [], q.2)) := q_callS (n := 2) (as := [.inr (.inl a0), vI a1]) (rest := []) dL_law_239 rfl rfl rfl rfl
set_option maxRecDepth 100000 in
theorem eL_law_242 {a : Int} {w : Int} {l0 l1 l3 l4 l5 l6 l7 : Option VV} {S : MM} : rn xL_law (242, [l0, l1, some (vI w), l3, l4, l5, l6, l7], [vI a], S) = rn xL_law (243, [l0, l1, some (vI w), some (vI a), l4, l5, l6, l7], [], S) := rn_step dL_law_242 rfl rfl
set_option maxRecDepth 100000 in
theorem eL_law_243 {a : Option Nat} {l0 l2 l3 l4 l5 l6 l7 : Option VV} {S : MM} : rn xL_law (243, [l0, some (.inr (.inl a)), l2, l3, l4, l5, l6, l7], [], S) = rn xL_law (244, [l0, some (.inr (.inl a)), l2, l3, l4, l5, l6, l7], [.inr (.inl a)], S) := rn_step dL_law_243 rfl rfl
set_option maxRecDepth 100000 in
theorem eL_law_244 {a : Int} {l0 l1 l2 l3 l5 l6 l7 : Option VV} {v0 : VV} {S : MM} : rn xL_law (244, [l0, l1, l2, l3, some (vI a), l5, l6, l7], [v0], S) = rn xL_law (246, [l0, l1, l2, l3, some (vI a), l5, l6, l7], [vI a, v0], S) := rn_step dL_law_244 rfl rfl
set_option maxRecDepth 100000 in
theorem eL_law_246 {a : Int} {l0 l1 l2 l4 l5 l6 l7 : Option VV} {v0 v1 : VV} {S : MM} : rn xL_law (246, [l0, l1, l2, some (vI a), l4, l5, l6, l7], [v0, v1], S) = rn xL_law (247, [l0, l1, l2, some (vI a), l4, l5, l6, l7], [vI a, v0, v1], S) := rn_step dL_law_246 rfl rfl
set_option maxRecDepth 100000 in
theorem eL_law_247 {a : Option Nat} {l1 l2 l3 l4 l5 l6 l7 : Option VV} {v0 v1 v2 : VV} {S : MM} : rn xL_law (247, [some (.inr (.inl a)), l1, l2, l3, l4, l5, l6, l7], [v0, v1, v2], S) = rn xL_law (248, [some (.inr (.inl a)), l1, l2, l3, l4, l5, l6, l7], [.inr (.inl a), v0, v1, v2], S) := rn_step dL_law_247 rfl rfl
set_option maxRecDepth 100000 in
theorem eL_law_248 {a : Int} {l0 l1 l3 l4 l5 l6 l7 : Option VV} {v0 v1 v2 v3 : VV} {S : MM} : rn xL_law (248, [l0, l1, some (vI a), l3, l4, l5, l6, l7], [v0, v1, v2, v3], S) = rn xL_law (249, [l0, l1, some (vI a), l3, l4, l5, l6, l7], [vI a, v0, v1, v2, v3], S) := rn_step dL_law_248 rfl rfl
set_option maxRecDepth 100000 in
theorem eL_law_249 {a0 : Option Nat} {a1 : Int} {l0 l1 l2 l3 l4 l5 l6 l7 : Option VV} {v2 v3 v4 : VV} {S : MM} : rn xL_law (249, [l0, l1, l2, l3, l4, l5, l6, l7], [vI a1, .inr (.inl a0), v2, v3, v4], S) = ((kp fcN) [.inr (.inl a0), vI a1] S).bind (fun q => rn xL_law (252, [l0, l1, l2, l3, l4, l5, l6, l7], q.1.toList ++ [v2, v3, v4], q.2)) := q_callS (n := 2) (as := [.inr (.inl a0), vI a1]) (rest := [v2, v3, v4]) dL_law_249 rfl rfl rfl rfl
set_option maxRecDepth 100000 in
theorem eL_law_252 {a : Option Nat} {l1 l2 l3 l4 l5 l6 l7 : Option VV} {v0 v1 v2 v3 : VV} {S : MM} : rn xL_law (252, [some (.inr (.inl a)), l1, l2, l3, l4, l5, l6, l7], [v0, v1, v2, v3], S) = rn xL_law (253, [some (.inr (.inl a)), l1, l2, l3, l4, l5, l6, l7], [.inr (.inl a), v0, v1, v2, v3], S) := rn_step dL_law_252 rfl rfl
set_option maxRecDepth 100000 in
theorem eL_law_253 {a : Int} {l0 l1 l3 l4 l5 l6 l7 : Option VV} {v0 v1 v2 v3 v4 : VV} {S : MM} : rn xL_law (253, [l0, l1, some (vI a), l3, l4, l5, l6, l7], [v0, v1, v2, v3, v4], S) = rn xL_law (254, [l0, l1, some (vI a), l3, l4, l5, l6, l7], [vI a, v0, v1, v2, v3, v4], S) := rn_step dL_law_253 rfl rfl
set_option maxRecDepth 100000 in
theorem eL_law_254 {a : Int} {w : Option Nat} {l0 l3 l4 l5 l6 l7 : Option VV} {v0 v1 v2 v3 v4 v5 : VV} {S : MM} : rn xL_law (254, [l0, some (.inr (.inl w)), some (vI a), l3, l4, l5, l6, l7], [v0, v1, v2, v3, v4, v5], S) = rn xL_law (257, [l0, some (.inr (.inl w)), some (vI (a + 1)), l3, l4, l5, l6, l7], [v0, v1, v2, v3, v4, v5], S) := rn_step dL_law_254 rfl rfl
set_option maxRecDepth 100000 in
theorem eL_law_257 {l0 l1 l2 l3 l4 l5 l6 l7 : Option VV} {v0 v1 v2 v3 v4 v5 : VV} {S : MM} : rn xL_law (257, [l0, l1, l2, l3, l4, l5, l6, l7], [v0, v1, v2, v3, v4, v5], S) = rn xL_law (258, [l0, l1, l2, l3, l4, l5, l6, l7], [vI 1, v0, v1, v2, v3, v4, v5], S) := rn_step dL_law_257 rfl rfl
set_option maxRecDepth 100000 in
theorem eL_law_258 {a b : Int} {l0 l1 l2 l3 l4 l5 l6 l7 : Option VV} {v2 v3 v4 v5 v6 : VV} {S : MM} : rn xL_law (258, [l0, l1, l2, l3, l4, l5, l6, l7], [vI b, vI a, v2, v3, v4, v5, v6], S) = rn xL_law (259, [l0, l1, l2, l3, l4, l5, l6, l7], [vI (a + b), v2, v3, v4, v5, v6], S) := rn_step dL_law_258 rfl rfl
set_option maxRecDepth 100000 in
theorem eL_law_259 {a0 : Option Nat} {a1 : Int} {l0 l1 l2 l3 l4 l5 l6 l7 : Option VV} {v2 v3 v4 v5 : VV} {S : MM} : rn xL_law (259, [l0, l1, l2, l3, l4, l5, l6, l7], [vI a1, .inr (.inl a0), v2, v3, v4, v5], S) = ((kp fcN) [.inr (.inl a0), vI a1] S).bind (fun q => rn xL_law (262, [l0, l1, l2, l3, l4, l5, l6, l7], q.1.toList ++ [v2, v3, v4, v5], q.2)) := q_callS (n := 2) (as := [.inr (.inl a0), vI a1]) (rest := [v2, v3, v4, v5]) dL_law_259 rfl rfl rfl rfl
set_option maxRecDepth 100000 in
theorem eL_law_262 {a0 : Option Nat} {a1 : Int} {a2 : Int} {a3 : Int} {a4 : Int} {l0 l1 l2 l3 l4 l5 l6 l7 : Option VV} {S : MM} : rn xL_law (262, [l0, l1, l2, l3, l4, l5, l6, l7], [vI a4, vI a3, vI a2, vI a1, .inr (.inl a0)], S) = (fL_act [.inr (.inl a0), vI a1, vI a2, vI a3, vI a4] S).bind (fun q => rn xL_law (265, [l0, l1, l2, l3, l4, l5, l6, l7], q.1.toList ++ [], q.2)) := q_callS (n := 5) (as := [.inr (.inl a0), vI a1, vI a2, vI a3, vI a4]) (rest := []) dL_law_262 rfl rfl rfl rfl
set_option maxRecDepth 100000 in
theorem eL_law_265 {a : Int} {l0 l1 l2 l3 l4 l5 l6 l7 : Option VV} (h : -2147483648 ≤ a ∧ a ≤ 2147483647) {S : MM} : rn xL_law (265, [l0, l1, l2, l3, l4, l5, l6, l7], [vI a], S) = if a = 0 then rn xL_law (275, [l0, l1, l2, l3, l4, l5, l6, l7], [], S) else rn xL_law (268, [l0, l1, l2, l3, l4, l5, l6, l7], [], S) := q_if_eq dL_law_265 (by decide) rfl h
set_option maxRecDepth 100000 in
theorem eL_law_268 {a : Option Nat} {l0 l2 l3 l4 l5 l6 l7 : Option VV} {S : MM} : rn xL_law (268, [l0, some (.inr (.inl a)), l2, l3, l4, l5, l6, l7], [], S) = rn xL_law (269, [l0, some (.inr (.inl a)), l2, l3, l4, l5, l6, l7], [.inr (.inl a)], S) := rn_step dL_law_268 rfl rfl
set_option maxRecDepth 100000 in
theorem eL_law_269 {a0 : Option Nat} {l0 l1 l2 l3 l4 l5 l6 l7 : Option VV} {S : MM} : rn xL_law (269, [l0, l1, l2, l3, l4, l5, l6, l7], [.inr (.inl a0)], S) = ((kp fL_sound) [.inr (.inl a0)] S).bind (fun q => rn xL_law (272, [l0, l1, l2, l3, l4, l5, l6, l7], q.1.toList ++ [], q.2)) := q_callS (n := 1) (as := [.inr (.inl a0)]) (rest := []) dL_law_269 rfl rfl rfl rfl
set_option maxRecDepth 100000 in
theorem eL_law_272 {a : Int} {l0 l1 l2 l3 l4 l5 l6 l7 : Option VV} (h : -2147483648 ≤ a ∧ a ≤ 2147483647) {S : MM} : rn xL_law (272, [l0, l1, l2, l3, l4, l5, l6, l7], [vI a], S) = if a = 0 then rn xL_law (275, [l0, l1, l2, l3, l4, l5, l6, l7], [], S) else rn xL_law (277, [l0, l1, l2, l3, l4, l5, l6, l7], [], S) := q_if_ne dL_law_272 (by decide) rfl h
set_option maxRecDepth 100000 in
theorem eL_law_275 {l0 l1 l2 l3 l4 l5 l6 l7 : Option VV} {S : MM} : rn xL_law (275, [l0, l1, l2, l3, l4, l5, l6, l7], [], S) = rn xL_law (276, [l0, l1, l2, l3, l4, l5, l6, l7], [vI 0], S) := rn_step dL_law_275 rfl rfl
set_option maxRecDepth 100000 in
theorem eL_law_276 {z : Int} {l0 l1 l2 l3 l4 l5 l6 l7 : Option VV} (hz : z = 0 ∨ z = 1) {S : MM} : rn xL_law (276, [l0, l1, l2, l3, l4, l5, l6, l7], [vI z], S) = some (some (vI z), S) := q_retZ dL_law_276 rfl hz
set_option maxRecDepth 100000 in
theorem eL_law_277 {a : Int} {l0 l1 l2 l3 l4 l6 l7 : Option VV} {S : MM} : rn xL_law (277, [l0, l1, l2, l3, l4, some (vI a), l6, l7], [], S) = rn xL_law (279, [l0, l1, l2, l3, l4, some (vI a), l6, l7], [vI a], S) := rn_step dL_law_277 rfl rfl
set_option maxRecDepth 100000 in
theorem eL_law_279 {l0 l1 l2 l3 l4 l5 l6 l7 : Option VV} {v0 : VV} {S : MM} : rn xL_law (279, [l0, l1, l2, l3, l4, l5, l6, l7], [v0], S) = rn xL_law (281, [l0, l1, l2, l3, l4, l5, l6, l7], [vI 12, v0], S) := rn_step dL_law_279 rfl rfl
set_option maxRecDepth 100000 in
theorem eL_law_281 {a : Int} {l0 l1 l2 l3 l4 l5 l6 l7 : Option VV} (h0 : 0 ≤ a) (h1 : a ≤ 2147483647) {S : MM} : rn xL_law (281, [l0, l1, l2, l3, l4, l5, l6, l7], [vI 12, vI a], S) = rn xL_law (282, [l0, l1, l2, l3, l4, l5, l6, l7], [vI (a % 12)], S) := q_irem dL_law_281 ⟨by decide, by decide⟩ h0 h1
set_option maxRecDepth 100000 in
theorem eL_law_282 {l0 l1 l2 l3 l4 l5 l6 l7 : Option VV} {v0 : VV} {S : MM} : rn xL_law (282, [l0, l1, l2, l3, l4, l5, l6, l7], [v0], S) = rn xL_law (284, [l0, l1, l2, l3, l4, l5, l6, l7], [vI 11, v0], S) := rn_step dL_law_282 rfl rfl
set_option maxRecDepth 100000 in
theorem eL_law_284 {a b : Int} {l0 l1 l2 l3 l4 l5 l6 l7 : Option VV} (h : -2147483648 ≤ a ∧ a ≤ 2147483647) (h1 : -2147483648 ≤ b ∧ b ≤ 2147483647) {S : MM} : rn xL_law (284, [l0, l1, l2, l3, l4, l5, l6, l7], [vI b, vI a], S) = if a = b then rn xL_law (287, [l0, l1, l2, l3, l4, l5, l6, l7], [], S) else rn xL_law (306, [l0, l1, l2, l3, l4, l5, l6, l7], [], S) := q_icmp_ne dL_law_284 (by decide) rfl h h1
set_option maxRecDepth 100000 in
theorem eL_law_287 {a : Option Nat} {l0 l2 l3 l4 l5 l6 l7 : Option VV} {S : MM} : rn xL_law (287, [l0, some (.inr (.inl a)), l2, l3, l4, l5, l6, l7], [], S) = rn xL_law (288, [l0, some (.inr (.inl a)), l2, l3, l4, l5, l6, l7], [.inr (.inl a)], S) := rn_step dL_law_287 rfl rfl
set_option maxRecDepth 100000 in
theorem eL_law_288 {a : Int} {l0 l1 l2 l3 l5 l6 l7 : Option VV} {v0 : VV} {S : MM} : rn xL_law (288, [l0, l1, l2, l3, some (vI a), l5, l6, l7], [v0], S) = rn xL_law (290, [l0, l1, l2, l3, some (vI a), l5, l6, l7], [vI a, v0], S) := rn_step dL_law_288 rfl rfl
set_option maxRecDepth 100000 in
theorem eL_law_290 {a : Option Nat} {l1 l2 l3 l4 l5 l6 l7 : Option VV} {v0 v1 : VV} {S : MM} : rn xL_law (290, [some (.inr (.inl a)), l1, l2, l3, l4, l5, l6, l7], [v0, v1], S) = rn xL_law (291, [some (.inr (.inl a)), l1, l2, l3, l4, l5, l6, l7], [.inr (.inl a), v0, v1], S) := rn_step dL_law_290 rfl rfl
set_option maxRecDepth 100000 in
theorem eL_law_291 {a : Int} {l0 l1 l3 l4 l5 l6 l7 : Option VV} {v0 v1 v2 : VV} {S : MM} : rn xL_law (291, [l0, l1, some (vI a), l3, l4, l5, l6, l7], [v0, v1, v2], S) = rn xL_law (292, [l0, l1, some (vI a), l3, l4, l5, l6, l7], [vI a, v0, v1, v2], S) := rn_step dL_law_291 rfl rfl
set_option maxRecDepth 100000 in
theorem eL_law_292 {a : Int} {w : Option Nat} {l0 l3 l4 l5 l6 l7 : Option VV} {v0 v1 v2 v3 : VV} {S : MM} : rn xL_law (292, [l0, some (.inr (.inl w)), some (vI a), l3, l4, l5, l6, l7], [v0, v1, v2, v3], S) = rn xL_law (295, [l0, some (.inr (.inl w)), some (vI (a + 1)), l3, l4, l5, l6, l7], [v0, v1, v2, v3], S) := rn_step dL_law_292 rfl rfl
set_option maxRecDepth 100000 in
theorem eL_law_295 {a0 : Option Nat} {a1 : Int} {l0 l1 l2 l3 l4 l5 l6 l7 : Option VV} {v2 v3 : VV} {S : MM} : rn xL_law (295, [l0, l1, l2, l3, l4, l5, l6, l7], [vI a1, .inr (.inl a0), v2, v3], S) = ((kp fcN) [.inr (.inl a0), vI a1] S).bind (fun q => rn xL_law (298, [l0, l1, l2, l3, l4, l5, l6, l7], q.1.toList ++ [v2, v3], q.2)) := q_callS (n := 2) (as := [.inr (.inl a0), vI a1]) (rest := [v2, v3]) dL_law_295 rfl rfl rfl rfl
set_option maxRecDepth 100000 in
theorem eL_law_298 {a0 : Option Nat} {a1 : Int} {a2 : Int} {l0 l1 l2 l3 l4 l5 l6 l7 : Option VV} {S : MM} : rn xL_law (298, [l0, l1, l2, l3, l4, l5, l6, l7], [vI a2, vI a1, .inr (.inl a0)], S) = ((kp fL_comes) [.inr (.inl a0), vI a1, vI a2] S).bind (fun q => rn xL_law (301, [l0, l1, l2, l3, l4, l5, l6, l7], q.1.toList ++ [], q.2)) := q_callS (n := 3) (as := [.inr (.inl a0), vI a1, vI a2]) (rest := []) dL_law_298 rfl rfl rfl rfl
set_option maxRecDepth 100000 in
theorem eL_law_301 {a : Int} {l0 l1 l2 l3 l4 l5 l6 l7 : Option VV} (h : -2147483648 ≤ a ∧ a ≤ 2147483647) {S : MM} : rn xL_law (301, [l0, l1, l2, l3, l4, l5, l6, l7], [vI a], S) = if a = 0 then rn xL_law (304, [l0, l1, l2, l3, l4, l5, l6, l7], [], S) else rn xL_law (306, [l0, l1, l2, l3, l4, l5, l6, l7], [], S) := q_if_ne dL_law_301 (by decide) rfl h
set_option maxRecDepth 100000 in
theorem eL_law_304 {l0 l1 l2 l3 l4 l5 l6 l7 : Option VV} {S : MM} : rn xL_law (304, [l0, l1, l2, l3, l4, l5, l6, l7], [], S) = rn xL_law (305, [l0, l1, l2, l3, l4, l5, l6, l7], [vI 0], S) := rn_step dL_law_304 rfl rfl
set_option maxRecDepth 100000 in
theorem eL_law_305 {z : Int} {l0 l1 l2 l3 l4 l5 l6 l7 : Option VV} (hz : z = 0 ∨ z = 1) {S : MM} : rn xL_law (305, [l0, l1, l2, l3, l4, l5, l6, l7], [vI z], S) = some (some (vI z), S) := q_retZ dL_law_305 rfl hz
set_option maxRecDepth 100000 in
theorem eL_law_306 {a : Int} {w : Int} {l0 l1 l2 l3 l6 l7 : Option VV} {S : MM} : rn xL_law (306, [l0, l1, l2, l3, some (vI w), some (vI a), l6, l7], [], S) = rn xL_law (309, [l0, l1, l2, l3, some (vI w), some (vI (a + 1)), l6, l7], [], S) := rn_step dL_law_306 rfl rfl
set_option maxRecDepth 100000 in
theorem eL_law_309 {l0 l1 l2 l3 l4 l5 l6 l7 : Option VV} {S : MM} : rn xL_law (309, [l0, l1, l2, l3, l4, l5, l6, l7], [], S) = rn xL_law (227, [l0, l1, l2, l3, l4, l5, l6, l7], [], S) := rn_step dL_law_309 rfl rfl
set_option maxRecDepth 100000 in
theorem eL_law_312 {a : Option Nat} {l0 l2 l3 l4 l5 l6 l7 : Option VV} {S : MM} : rn xL_law (312, [l0, some (.inr (.inl a)), l2, l3, l4, l5, l6, l7], [], S) = rn xL_law (313, [l0, some (.inr (.inl a)), l2, l3, l4, l5, l6, l7], [.inr (.inl a)], S) := rn_step dL_law_312 rfl rfl
set_option maxRecDepth 100000 in
theorem eL_law_313 {a : Option Nat} {l1 l2 l3 l4 l5 l6 l7 : Option VV} {v0 : VV} {S : MM} : rn xL_law (313, [some (.inr (.inl a)), l1, l2, l3, l4, l5, l6, l7], [v0], S) = rn xL_law (314, [some (.inr (.inl a)), l1, l2, l3, l4, l5, l6, l7], [.inr (.inl a), v0], S) := rn_step dL_law_313 rfl rfl
set_option maxRecDepth 100000 in
theorem eL_law_314 {a : Int} {l0 l1 l3 l4 l5 l6 l7 : Option VV} {v0 v1 : VV} {S : MM} : rn xL_law (314, [l0, l1, some (vI a), l3, l4, l5, l6, l7], [v0, v1], S) = rn xL_law (315, [l0, l1, some (vI a), l3, l4, l5, l6, l7], [vI a, v0, v1], S) := rn_step dL_law_314 rfl rfl
set_option maxRecDepth 100000 in
theorem eL_law_315 {a : Int} {w : Option Nat} {l0 l3 l4 l5 l6 l7 : Option VV} {v0 v1 v2 : VV} {S : MM} : rn xL_law (315, [l0, some (.inr (.inl w)), some (vI a), l3, l4, l5, l6, l7], [v0, v1, v2], S) = rn xL_law (318, [l0, some (.inr (.inl w)), some (vI (a + 1)), l3, l4, l5, l6, l7], [v0, v1, v2], S) := rn_step dL_law_315 rfl rfl
set_option maxRecDepth 100000 in
theorem eL_law_318 {a0 : Option Nat} {a1 : Int} {l0 l1 l2 l3 l4 l5 l6 l7 : Option VV} {v2 : VV} {S : MM} : rn xL_law (318, [l0, l1, l2, l3, l4, l5, l6, l7], [vI a1, .inr (.inl a0), v2], S) = ((kp fcN) [.inr (.inl a0), vI a1] S).bind (fun q => rn xL_law (321, [l0, l1, l2, l3, l4, l5, l6, l7], q.1.toList ++ [v2], q.2)) := q_callS (n := 2) (as := [.inr (.inl a0), vI a1]) (rest := [v2]) dL_law_318 rfl rfl rfl rfl
set_option maxRecDepth 100000 in
theorem eL_law_321 {a0 : Option Nat} {a1 : Int} {l0 l1 l2 l3 l4 l5 l6 l7 : Option VV} {S : MM} : rn xL_law (321, [l0, l1, l2, l3, l4, l5, l6, l7], [vI a1, .inr (.inl a0)], S) = ((kp fL_back) [.inr (.inl a0), vI a1] S).bind (fun q => rn xL_law (324, [l0, l1, l2, l3, l4, l5, l6, l7], q.1.toList ++ [], q.2)) := q_callS (n := 2) (as := [.inr (.inl a0), vI a1]) (rest := []) dL_law_321 rfl rfl rfl rfl
set_option maxRecDepth 100000 in
theorem eL_law_324 {a : Int} {l0 l1 l2 l3 l4 l5 l6 l7 : Option VV} (h : -2147483648 ≤ a ∧ a ≤ 2147483647) {S : MM} : rn xL_law (324, [l0, l1, l2, l3, l4, l5, l6, l7], [vI a], S) = if a = 0 then rn xL_law (338, [l0, l1, l2, l3, l4, l5, l6, l7], [], S) else rn xL_law (327, [l0, l1, l2, l3, l4, l5, l6, l7], [], S) := q_if_eq dL_law_324 (by decide) rfl h
set_option maxRecDepth 100000 in
theorem eL_law_327 {a : Option Nat} {l0 l2 l3 l4 l5 l6 l7 : Option VV} {S : MM} : rn xL_law (327, [l0, some (.inr (.inl a)), l2, l3, l4, l5, l6, l7], [], S) = rn xL_law (328, [l0, some (.inr (.inl a)), l2, l3, l4, l5, l6, l7], [.inr (.inl a)], S) := rn_step dL_law_327 rfl rfl
set_option maxRecDepth 100000 in
theorem eL_law_328 {a0 : Option Nat} {l0 l1 l2 l3 l4 l5 l6 l7 : Option VV} {S : MM} : rn xL_law (328, [l0, l1, l2, l3, l4, l5, l6, l7], [.inr (.inl a0)], S) = ((kp fL_sound) [.inr (.inl a0)] S).bind (fun q => rn xL_law (331, [l0, l1, l2, l3, l4, l5, l6, l7], q.1.toList ++ [], q.2)) := q_callS (n := 1) (as := [.inr (.inl a0)]) (rest := []) dL_law_328 rfl rfl rfl rfl
set_option maxRecDepth 100000 in
theorem eL_law_331 {a : Int} {l0 l1 l2 l3 l4 l5 l6 l7 : Option VV} (h : -2147483648 ≤ a ∧ a ≤ 2147483647) {S : MM} : rn xL_law (331, [l0, l1, l2, l3, l4, l5, l6, l7], [vI a], S) = if a = 0 then rn xL_law (338, [l0, l1, l2, l3, l4, l5, l6, l7], [], S) else rn xL_law (334, [l0, l1, l2, l3, l4, l5, l6, l7], [], S) := q_if_eq dL_law_331 (by decide) rfl h
set_option maxRecDepth 100000 in
theorem eL_law_334 {l0 l1 l2 l3 l4 l5 l6 l7 : Option VV} {S : MM} : rn xL_law (334, [l0, l1, l2, l3, l4, l5, l6, l7], [], S) = rn xL_law (335, [l0, l1, l2, l3, l4, l5, l6, l7], [vI 1], S) := rn_step dL_law_334 rfl rfl
set_option maxRecDepth 100000 in
theorem eL_law_335 {l0 l1 l2 l3 l4 l5 l6 l7 : Option VV} {v0 : VV} {S : MM} : rn xL_law (335, [l0, l1, l2, l3, l4, l5, l6, l7], [v0], S) = rn xL_law (339, [l0, l1, l2, l3, l4, l5, l6, l7], [v0], S) := rn_step dL_law_335 rfl rfl
set_option maxRecDepth 100000 in
theorem eL_law_338 {l0 l1 l2 l3 l4 l5 l6 l7 : Option VV} {S : MM} : rn xL_law (338, [l0, l1, l2, l3, l4, l5, l6, l7], [], S) = rn xL_law (339, [l0, l1, l2, l3, l4, l5, l6, l7], [vI 0], S) := rn_step dL_law_338 rfl rfl
set_option maxRecDepth 100000 in
theorem eL_law_339 {z : Int} {l0 l1 l2 l3 l4 l5 l6 l7 : Option VV} (hz : z = 0 ∨ z = 1) {S : MM} : rn xL_law (339, [l0, l1, l2, l3, l4, l5, l6, l7], [vI z], S) = some (some (vI z), S) := q_retZ dL_law_339 rfl hz

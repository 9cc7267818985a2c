noncomputable def qlX8_carryOrder : List CE := [(0, 273, 2, 1, fX2_kind), (0, 277, 2, 1, fX2_walker), (0, 280, 2, 1, fX2_from), (0, 283, 2, 1, fX2_to), (0, 79, 6, 4, fX6_errorOfFlooding), (0, 82, 6, 4, fX6_takeAway), (0, 85, 6, 1, fX6_errorOfDrying), (0, 89, 6, 1, fX6_giveBack), (0, 92, 6, 1, fX6_start), (0, 98, 0, 1, fX0_goesOn), (0, 102, 6, 1, fX6_step), (0, 286, 8, 1, fX8_carryStones)]
noncomputable def xX8_carryOrder : XX := (cX8_carryOrder, fcF fcl8, mcF qlX8_carryOrder, 2)
noncomputable def fX8_carryOrder : FN := fnX xX8_carryOrder 3
set_option maxRecDepth 100000 in
theorem cwX8_carryOrder : Cond.code yX8_carryOrder cX8_carryOrder 3 (some .boolean) ∈ lw_g := lw_gm 758 (by decide +kernel) (by decide +kernel)
set_option maxRecDepth 100000 in
theorem conX8_carryOrder : Con yX8_carryOrder cX8_carryOrder 3 (some .boolean) { frames := 6, cells := 0, slots := 0, locals := 145 } fX8_carryOrder := con_of (X := xX8_carryOrder) (own := "LeapStones") (ql := qlX8_carryOrder) (by decide) rfl FOK8 rfl (List.forall_mem_cons.mpr ⟨call_V conX2_kind cwX2_kind (lw_gl _ [759, 760, 761, 29] (by decide +kernel) (by decide +kernel)) (by decide) rfl ⟨by decide, by decide, by decide +kernel⟩ ⟨rfl, rfl⟩ ⟨by decide, by decide⟩ ⟨Nat.le_refl _, Nat.le_refl _⟩, List.forall_mem_cons.mpr ⟨call_V conX2_walker cwX2_walker (lw_gl _ [763, 764, 765, 29] (by decide +kernel) (by decide +kernel)) (by decide) rfl ⟨by decide, by decide, by decide +kernel⟩ ⟨rfl, rfl⟩ ⟨by decide, by decide⟩ ⟨Nat.le_refl _, Nat.le_refl _⟩, List.forall_mem_cons.mpr ⟨call_V conX2_from cwX2_from (lw_gl _ [767, 768, 769, 29] (by decide +kernel) (by decide +kernel)) (by decide) rfl ⟨by decide, by decide, by decide +kernel⟩ ⟨rfl, rfl⟩ ⟨by decide, by decide⟩ ⟨Nat.le_refl _, Nat.le_refl _⟩, List.forall_mem_cons.mpr ⟨call_V conX2_to cwX2_to (lw_gl _ [771, 772, 773, 29] (by decide +kernel) (by decide +kernel)) (by decide) rfl ⟨by decide, by decide, by decide +kernel⟩ ⟨rfl, rfl⟩ ⟨by decide, by decide⟩ ⟨Nat.le_refl _, Nat.le_refl _⟩, List.forall_mem_cons.mpr ⟨call_V conX6_errorOfFlooding cwX6_errorOfFlooding (lw_gl _ [429, 430, 431, 22] (by decide +kernel) (by decide +kernel)) (by decide) rfl ⟨by decide, by decide, by decide +kernel⟩ ⟨rfl, rfl⟩ ⟨by decide, by decide⟩ ⟨Nat.le_refl _, Nat.le_refl _⟩, List.forall_mem_cons.mpr ⟨call_V conX6_takeAway cwX6_takeAway (lw_gl _ [436, 437, 438, 22] (by decide +kernel) (by decide +kernel)) (by decide) rfl ⟨by decide, by decide, by decide +kernel⟩ ⟨rfl, rfl⟩ ⟨by decide, by decide⟩ ⟨Nat.le_refl _, Nat.le_refl _⟩, List.forall_mem_cons.mpr ⟨call_V conX6_errorOfDrying cwX6_errorOfDrying (lw_gl _ [541, 542, 543, 22] (by decide +kernel) (by decide +kernel)) (by decide) rfl ⟨by decide, by decide, by decide +kernel⟩ ⟨rfl, rfl⟩ ⟨by decide, by decide⟩ ⟨Nat.le_refl _, Nat.le_refl _⟩, List.forall_mem_cons.mpr ⟨call_V conX6_giveBack cwX6_giveBack (lw_gl _ [558, 559, 560, 22] (by decide +kernel) (by decide +kernel)) (by decide) rfl ⟨by decide, by decide, by decide +kernel⟩ ⟨rfl, rfl⟩ ⟨by decide, by decide⟩ ⟨Nat.le_refl _, Nat.le_refl _⟩, List.forall_mem_cons.mpr ⟨call_V conX6_start cwX6_start (lw_gl _ [580, 581, 582, 22] (by decide +kernel) (by decide +kernel)) (by decide) rfl ⟨by decide, by decide, by decide +kernel⟩ ⟨rfl, rfl⟩ ⟨by decide, by decide⟩ ⟨Nat.le_refl _, Nat.le_refl _⟩, List.forall_mem_cons.mpr ⟨call_V conX0_goesOn cwX0_goesOn (lw_gl _ [606, 478, 479, 28] (by decide +kernel) (by decide +kernel)) (by decide) rfl ⟨by decide, by decide, by decide +kernel⟩ ⟨rfl, rfl⟩ ⟨by decide, by decide⟩ ⟨Nat.le_refl _, Nat.le_refl _⟩, List.forall_mem_cons.mpr ⟨call_V conX6_step cwX6_step (lw_gl _ [607, 608, 609, 22] (by decide +kernel) (by decide +kernel)) (by decide) rfl ⟨by decide, by decide, by decide +kernel⟩ ⟨rfl, rfl⟩ ⟨by decide, by decide⟩ ⟨Nat.le_refl _, Nat.le_refl _⟩, List.forall_mem_cons.mpr ⟨call_V conX8_carryStones cwX8_carryStones (lw_gl _ [775, 777, 16, 21] (by decide +kernel) (by decide +kernel)) (by decide) rfl ⟨by decide, by decide, by decide +kernel⟩ ⟨rfl, rfl⟩ ⟨by decide, by decide⟩ ⟨Nat.le_refl _, Nat.le_refl _⟩, fun _ h => absurd h List.not_mem_nil⟩⟩⟩⟩⟩⟩⟩⟩⟩⟩⟩⟩) (Or.inr (Or.inr (Or.inl ⟨rfl, rfl⟩)))
theorem uX8_carryOrder {i : Nat} {S : MM} : fX8_carryOrder [vR i] S = rn xX8_carryOrder (0, [some (vR i), none, none], [], S) := rfl
theorem dX8_carryOrder_0 : decode cX8_carryOrder 0 = .ok (.aload_n 0, 1) := by decide +kernel
theorem dX8_carryOrder_1 : decode cX8_carryOrder 1 = .ok (.getfield 39, 3) := by decide +kernel
theorem dX8_carryOrder_4 : decode cX8_carryOrder 4 = .ok (.invokevirtual 273, 3) := by decide +kernel
theorem dX8_carryOrder_7 : decode cX8_carryOrder 7 = .ok (.istore_n 1, 1) := by decide +kernel
theorem dX8_carryOrder_8 : decode cX8_carryOrder 8 = .ok (.iload_n 1, 1) := by decide +kernel
theorem dX8_carryOrder_9 : decode cX8_carryOrder 9 = .ok (.bipush 102, 2) := by decide +kernel
theorem dX8_carryOrder_11 : decode cX8_carryOrder 11 = .ok (.if_icmp .ne 75, 3) := by decide +kernel
theorem dX8_carryOrder_14 : decode cX8_carryOrder 14 = .ok (.aload_n 0, 1) := by decide +kernel
theorem dX8_carryOrder_15 : decode cX8_carryOrder 15 = .ok (.getfield 12, 3) := by decide +kernel
theorem dX8_carryOrder_18 : decode cX8_carryOrder 18 = .ok (.aload_n 0, 1) := by decide +kernel
theorem dX8_carryOrder_19 : decode cX8_carryOrder 19 = .ok (.getfield 39, 3) := by decide +kernel
theorem dX8_carryOrder_22 : decode cX8_carryOrder 22 = .ok (.invokevirtual 277, 3) := by decide +kernel
theorem dX8_carryOrder_25 : decode cX8_carryOrder 25 = .ok (.aload_n 0, 1) := by decide +kernel
theorem dX8_carryOrder_26 : decode cX8_carryOrder 26 = .ok (.getfield 39, 3) := by decide +kernel
theorem dX8_carryOrder_29 : decode cX8_carryOrder 29 = .ok (.invokevirtual 280, 3) := by decide +kernel
theorem dX8_carryOrder_32 : decode cX8_carryOrder 32 = .ok (.aload_n 0, 1) := by decide +kernel
theorem dX8_carryOrder_33 : decode cX8_carryOrder 33 = .ok (.getfield 39, 3) := by decide +kernel
theorem dX8_carryOrder_36 : decode cX8_carryOrder 36 = .ok (.invokevirtual 283, 3) := by decide +kernel
theorem dX8_carryOrder_39 : decode cX8_carryOrder 39 = .ok (.invokevirtual 79, 3) := by decide +kernel
theorem dX8_carryOrder_42 : decode cX8_carryOrder 42 = .ok (.ifCond .ne 7, 3) := by decide +kernel
theorem dX8_carryOrder_45 : decode cX8_carryOrder 45 = .ok (.iconst 1, 1) := by decide +kernel
theorem dX8_carryOrder_46 : decode cX8_carryOrder 46 = .ok (.goto 4, 3) := by decide +kernel
theorem dX8_carryOrder_49 : decode cX8_carryOrder 49 = .ok (.iconst 0, 1) := by decide +kernel
theorem dX8_carryOrder_50 : decode cX8_carryOrder 50 = .ok (.istore_n 2, 1) := by decide +kernel
theorem dX8_carryOrder_51 : decode cX8_carryOrder 51 = .ok (.iload_n 2, 1) := by decide +kernel
theorem dX8_carryOrder_52 : decode cX8_carryOrder 52 = .ok (.ifCond .eq 32, 3) := by decide +kernel
theorem dX8_carryOrder_55 : decode cX8_carryOrder 55 = .ok (.aload_n 0, 1) := by decide +kernel
theorem dX8_carryOrder_56 : decode cX8_carryOrder 56 = .ok (.getfield 12, 3) := by decide +kernel
theorem dX8_carryOrder_59 : decode cX8_carryOrder 59 = .ok (.aload_n 0, 1) := by decide +kernel
theorem dX8_carryOrder_60 : decode cX8_carryOrder 60 = .ok (.getfield 39, 3) := by decide +kernel
theorem dX8_carryOrder_63 : decode cX8_carryOrder 63 = .ok (.invokevirtual 277, 3) := by decide +kernel
theorem dX8_carryOrder_66 : decode cX8_carryOrder 66 = .ok (.aload_n 0, 1) := by decide +kernel
theorem dX8_carryOrder_67 : decode cX8_carryOrder 67 = .ok (.getfield 39, 3) := by decide +kernel
theorem dX8_carryOrder_70 : decode cX8_carryOrder 70 = .ok (.invokevirtual 280, 3) := by decide +kernel
theorem dX8_carryOrder_73 : decode cX8_carryOrder 73 = .ok (.aload_n 0, 1) := by decide +kernel
theorem dX8_carryOrder_74 : decode cX8_carryOrder 74 = .ok (.getfield 39, 3) := by decide +kernel
theorem dX8_carryOrder_77 : decode cX8_carryOrder 77 = .ok (.invokevirtual 283, 3) := by decide +kernel
theorem dX8_carryOrder_80 : decode cX8_carryOrder 80 = .ok (.invokevirtual 82, 3) := by decide +kernel
theorem dX8_carryOrder_83 : decode cX8_carryOrder 83 = .ok (.pop, 1) := by decide +kernel
theorem dX8_carryOrder_84 : decode cX8_carryOrder 84 = .ok (.iload_n 2, 1) := by decide +kernel
theorem dX8_carryOrder_85 : decode cX8_carryOrder 85 = .ok (.ireturn, 1) := by decide +kernel
theorem dX8_carryOrder_86 : decode cX8_carryOrder 86 = .ok (.iload_n 1, 1) := by decide +kernel
theorem dX8_carryOrder_87 : decode cX8_carryOrder 87 = .ok (.bipush 100, 2) := by decide +kernel
theorem dX8_carryOrder_89 : decode cX8_carryOrder 89 = .ok (.if_icmp .ne 33, 3) := by decide +kernel
theorem dX8_carryOrder_92 : decode cX8_carryOrder 92 = .ok (.aload_n 0, 1) := by decide +kernel
theorem dX8_carryOrder_93 : decode cX8_carryOrder 93 = .ok (.getfield 12, 3) := by decide +kernel
theorem dX8_carryOrder_96 : decode cX8_carryOrder 96 = .ok (.invokevirtual 85, 3) := by decide +kernel
theorem dX8_carryOrder_99 : decode cX8_carryOrder 99 = .ok (.ifCond .ne 7, 3) := by decide +kernel
theorem dX8_carryOrder_102 : decode cX8_carryOrder 102 = .ok (.iconst 1, 1) := by decide +kernel
theorem dX8_carryOrder_103 : decode cX8_carryOrder 103 = .ok (.goto 4, 3) := by decide +kernel
theorem dX8_carryOrder_106 : decode cX8_carryOrder 106 = .ok (.iconst 0, 1) := by decide +kernel
theorem dX8_carryOrder_107 : decode cX8_carryOrder 107 = .ok (.istore_n 2, 1) := by decide +kernel
theorem dX8_carryOrder_108 : decode cX8_carryOrder 108 = .ok (.iload_n 2, 1) := by decide +kernel
theorem dX8_carryOrder_109 : decode cX8_carryOrder 109 = .ok (.ifCond .eq 11, 3) := by decide +kernel
theorem dX8_carryOrder_112 : decode cX8_carryOrder 112 = .ok (.aload_n 0, 1) := by decide +kernel
theorem dX8_carryOrder_113 : decode cX8_carryOrder 113 = .ok (.getfield 12, 3) := by decide +kernel
theorem dX8_carryOrder_116 : decode cX8_carryOrder 116 = .ok (.invokevirtual 89, 3) := by decide +kernel
theorem dX8_carryOrder_119 : decode cX8_carryOrder 119 = .ok (.pop, 1) := by decide +kernel
theorem dX8_carryOrder_120 : decode cX8_carryOrder 120 = .ok (.iload_n 2, 1) := by decide +kernel
theorem dX8_carryOrder_121 : decode cX8_carryOrder 121 = .ok (.ireturn, 1) := by decide +kernel
theorem dX8_carryOrder_122 : decode cX8_carryOrder 122 = .ok (.iload_n 1, 1) := by decide +kernel
theorem dX8_carryOrder_123 : decode cX8_carryOrder 123 = .ok (.bipush 103, 2) := by decide +kernel
theorem dX8_carryOrder_125 : decode cX8_carryOrder 125 = .ok (.if_icmp .ne 13, 3) := by decide +kernel
theorem dX8_carryOrder_128 : decode cX8_carryOrder 128 = .ok (.aload_n 0, 1) := by decide +kernel
theorem dX8_carryOrder_129 : decode cX8_carryOrder 129 = .ok (.getfield 12, 3) := by decide +kernel
theorem dX8_carryOrder_132 : decode cX8_carryOrder 132 = .ok (.invokevirtual 92, 3) := by decide +kernel
theorem dX8_carryOrder_135 : decode cX8_carryOrder 135 = .ok (.pop, 1) := by decide +kernel
theorem dX8_carryOrder_136 : decode cX8_carryOrder 136 = .ok (.iconst 1, 1) := by decide +kernel
theorem dX8_carryOrder_137 : decode cX8_carryOrder 137 = .ok (.ireturn, 1) := by decide +kernel
theorem dX8_carryOrder_138 : decode cX8_carryOrder 138 = .ok (.iload_n 1, 1) := by decide +kernel
theorem dX8_carryOrder_139 : decode cX8_carryOrder 139 = .ok (.bipush 108, 2) := by decide +kernel
theorem dX8_carryOrder_141 : decode cX8_carryOrder 141 = .ok (.if_icmp .ne 28, 3) := by decide +kernel
theorem dX8_carryOrder_144 : decode cX8_carryOrder 144 = .ok (.aload_n 0, 1) := by decide +kernel
theorem dX8_carryOrder_145 : decode cX8_carryOrder 145 = .ok (.getfield 12, 3) := by decide +kernel
theorem dX8_carryOrder_148 : decode cX8_carryOrder 148 = .ok (.getfield 95, 3) := by decide +kernel
theorem dX8_carryOrder_151 : decode cX8_carryOrder 151 = .ok (.invokevirtual 98, 3) := by decide +kernel
theorem dX8_carryOrder_154 : decode cX8_carryOrder 154 = .ok (.istore_n 2, 1) := by decide +kernel
theorem dX8_carryOrder_155 : decode cX8_carryOrder 155 = .ok (.iload_n 2, 1) := by decide +kernel
theorem dX8_carryOrder_156 : decode cX8_carryOrder 156 = .ok (.ifCond .eq 11, 3) := by decide +kernel
theorem dX8_carryOrder_159 : decode cX8_carryOrder 159 = .ok (.aload_n 0, 1) := by decide +kernel
theorem dX8_carryOrder_160 : decode cX8_carryOrder 160 = .ok (.getfield 12, 3) := by decide +kernel
theorem dX8_carryOrder_163 : decode cX8_carryOrder 163 = .ok (.invokevirtual 102, 3) := by decide +kernel
theorem dX8_carryOrder_166 : decode cX8_carryOrder 166 = .ok (.pop, 1) := by decide +kernel
theorem dX8_carryOrder_167 : decode cX8_carryOrder 167 = .ok (.iload_n 2, 1) := by decide +kernel
theorem dX8_carryOrder_168 : decode cX8_carryOrder 168 = .ok (.ireturn, 1) := by decide +kernel
theorem dX8_carryOrder_169 : decode cX8_carryOrder 169 = .ok (.aload_n 0, 1) := by decide +kernel
theorem dX8_carryOrder_170 : decode cX8_carryOrder 170 = .ok (.invokevirtual 286, 3) := by decide +kernel
theorem dX8_carryOrder_173 : decode cX8_carryOrder 173 = .ok (.ireturn, 1) := by decide +kernel
theorem eX8_carryOrder_0 {a : Option Nat} {l1 l2 : Option VV} {S : MM} : rn xX8_carryOrder (0, [some (.inr (.inl a)), l1, l2], [], S) = rn xX8_carryOrder (1, [some (.inr (.inl a)), l1, l2], [.inr (.inl a)], S) := rn_step dX8_carryOrder_0 rfl rfl
theorem eX8_carryOrder_1 {l0 l1 l2 : Option VV} {S : MM} : rn xX8_carryOrder (1, [l0, l1, l2], [vR 0], S) = rn xX8_carryOrder (4, [l0, l1, l2], [vR 69], S) := q_getR dX8_carryOrder_1 rfl ⟨⟨by decide, by decide⟩, by decide⟩ (fun _ => by decide +kernel) kd0
theorem eX8_carryOrder_4 {i : Nat} {l0 l1 l2 : Option VV} (h : kd i = 2) {S : MM} : rn xX8_carryOrder (4, [l0, l1, l2], [vR i], S) = (fX2_kind [vR i] S).bind (fun q => rn xX8_carryOrder (7, [l0, l1, l2], q.1.toList ++ [], q.2)) := q_callV (n := 0) (as := []) (rest := []) dX8_carryOrder_4 rfl rfl rfl rfl h
theorem eX8_carryOrder_7 {a : Int} {w : Option Nat} {l1 l2 : Option VV} {S : MM} : rn xX8_carryOrder (7, [some (.inr (.inl w)), l1, l2], [vI a], S) = rn xX8_carryOrder (8, [some (.inr (.inl w)), some (vI a), l2], [], S) := rn_step dX8_carryOrder_7 rfl rfl
theorem eX8_carryOrder_8 {a : Int} {l0 l2 : Option VV} {S : MM} : rn xX8_carryOrder (8, [l0, some (vI a), l2], [], S) = rn xX8_carryOrder (9, [l0, some (vI a), l2], [vI a], S) := rn_step dX8_carryOrder_8 rfl rfl
theorem eX8_carryOrder_9 {l0 l1 l2 : Option VV} {v0 : VV} {S : MM} : rn xX8_carryOrder (9, [l0, l1, l2], [v0], S) = rn xX8_carryOrder (11, [l0, l1, l2], [vI 102, v0], S) := rn_step dX8_carryOrder_9 rfl rfl
theorem eX8_carryOrder_11 {a b : Int} {l0 l1 l2 : Option VV} (h : -2147483648 ≤ a ∧ a ≤ 2147483647) (h1 : -2147483648 ≤ b ∧ b ≤ 2147483647) {S : MM} : rn xX8_carryOrder (11, [l0, l1, l2], [vI b, vI a], S) = if a = b then rn xX8_carryOrder (14, [l0, l1, l2], [], S) else rn xX8_carryOrder (86, [l0, l1, l2], [], S) := q_icmp_ne dX8_carryOrder_11 (by decide) rfl h h1
theorem eX8_carryOrder_14 {a : Option Nat} {l1 l2 : Option VV} {S : MM} : rn xX8_carryOrder (14, [some (.inr (.inl a)), l1, l2], [], S) = rn xX8_carryOrder (15, [some (.inr (.inl a)), l1, l2], [.inr (.inl a)], S) := rn_step dX8_carryOrder_14 rfl rfl
theorem eX8_carryOrder_15 {l0 l1 l2 : Option VV} {S : MM} : rn xX8_carryOrder (15, [l0, l1, l2], [vR 0], S) = rn xX8_carryOrder (18, [l0, l1, l2], [vR 1], S) := q_getR dX8_carryOrder_15 rfl ⟨⟨by decide, by decide⟩, by decide⟩ (fun _ => by decide +kernel) kd0
theorem eX8_carryOrder_18 {a : Option Nat} {l1 l2 : Option VV} {v0 : VV} {S : MM} : rn xX8_carryOrder (18, [some (.inr (.inl a)), l1, l2], [v0], S) = rn xX8_carryOrder (19, [some (.inr (.inl a)), l1, l2], [.inr (.inl a), v0], S) := rn_step dX8_carryOrder_18 rfl rfl
theorem eX8_carryOrder_19 {l0 l1 l2 : Option VV} {v1 : VV} {S : MM} : rn xX8_carryOrder (19, [l0, l1, l2], [vR 0, v1], S) = rn xX8_carryOrder (22, [l0, l1, l2], [vR 69, v1], S) := q_getR dX8_carryOrder_19 rfl ⟨⟨by decide, by decide⟩, by decide⟩ (fun _ => by decide +kernel) kd0
theorem eX8_carryOrder_22 {i : Nat} {l0 l1 l2 : Option VV} {v1 : VV} (h : kd i = 2) {S : MM} : rn xX8_carryOrder (22, [l0, l1, l2], [vR i, v1], S) = (fX2_walker [vR i] S).bind (fun q => rn xX8_carryOrder (25, [l0, l1, l2], q.1.toList ++ [v1], q.2)) := q_callV (n := 0) (as := []) (rest := [v1]) dX8_carryOrder_22 rfl rfl rfl rfl h
theorem eX8_carryOrder_25 {a : Option Nat} {l1 l2 : Option VV} {v0 v1 : VV} {S : MM} : rn xX8_carryOrder (25, [some (.inr (.inl a)), l1, l2], [v0, v1], S) = rn xX8_carryOrder (26, [some (.inr (.inl a)), l1, l2], [.inr (.inl a), v0, v1], S) := rn_step dX8_carryOrder_25 rfl rfl
theorem eX8_carryOrder_26 {l0 l1 l2 : Option VV} {v1 v2 : VV} {S : MM} : rn xX8_carryOrder (26, [l0, l1, l2], [vR 0, v1, v2], S) = rn xX8_carryOrder (29, [l0, l1, l2], [vR 69, v1, v2], S) := q_getR dX8_carryOrder_26 rfl ⟨⟨by decide, by decide⟩, by decide⟩ (fun _ => by decide +kernel) kd0
theorem eX8_carryOrder_29 {i : Nat} {l0 l1 l2 : Option VV} {v1 v2 : VV} (h : kd i = 2) {S : MM} : rn xX8_carryOrder (29, [l0, l1, l2], [vR i, v1, v2], S) = (fX2_from [vR i] S).bind (fun q => rn xX8_carryOrder (32, [l0, l1, l2], q.1.toList ++ [v1, v2], q.2)) := q_callV (n := 0) (as := []) (rest := [v1, v2]) dX8_carryOrder_29 rfl rfl rfl rfl h
theorem eX8_carryOrder_32 {a : Option Nat} {l1 l2 : Option VV} {v0 v1 v2 : VV} {S : MM} : rn xX8_carryOrder (32, [some (.inr (.inl a)), l1, l2], [v0, v1, v2], S) = rn xX8_carryOrder (33, [some (.inr (.inl a)), l1, l2], [.inr (.inl a), v0, v1, v2], S) := rn_step dX8_carryOrder_32 rfl rfl
theorem eX8_carryOrder_33 {l0 l1 l2 : Option VV} {v1 v2 v3 : VV} {S : MM} : rn xX8_carryOrder (33, [l0, l1, l2], [vR 0, v1, v2, v3], S) = rn xX8_carryOrder (36, [l0, l1, l2], [vR 69, v1, v2, v3], S) := q_getR dX8_carryOrder_33 rfl ⟨⟨by decide, by decide⟩, by decide⟩ (fun _ => by decide +kernel) kd0
theorem eX8_carryOrder_36 {i : Nat} {l0 l1 l2 : Option VV} {v1 v2 v3 : VV} (h : kd i = 2) {S : MM} : rn xX8_carryOrder (36, [l0, l1, l2], [vR i, v1, v2, v3], S) = (fX2_to [vR i] S).bind (fun q => rn xX8_carryOrder (39, [l0, l1, l2], q.1.toList ++ [v1, v2, v3], q.2)) := q_callV (n := 0) (as := []) (rest := [v1, v2, v3]) dX8_carryOrder_36 rfl rfl rfl rfl h
theorem eX8_carryOrder_39 {a0 : Int} {a1 : Int} {a2 : Int} {i : Nat} {l0 l1 l2 : Option VV} (h : kd i = 6) {S : MM} : rn xX8_carryOrder (39, [l0, l1, l2], [vI a2, vI a1, vI a0, vR i], S) = (fX6_errorOfFlooding [vR i, vI a0, vI a1, vI a2] S).bind (fun q => rn xX8_carryOrder (42, [l0, l1, l2], q.1.toList ++ [], q.2)) := q_callV (n := 3) (as := [vI a0, vI a1, vI a2]) (rest := []) dX8_carryOrder_39 rfl rfl rfl rfl h
theorem eX8_carryOrder_42 {a : Int} {l0 l1 l2 : Option VV} (h : -2147483648 ≤ a ∧ a ≤ 2147483647) {S : MM} : rn xX8_carryOrder (42, [l0, l1, l2], [vI a], S) = if a = 0 then rn xX8_carryOrder (45, [l0, l1, l2], [], S) else rn xX8_carryOrder (49, [l0, l1, l2], [], S) := q_if_ne dX8_carryOrder_42 (by decide) rfl h
theorem eX8_carryOrder_45 {l0 l1 l2 : Option VV} {S : MM} : rn xX8_carryOrder (45, [l0, l1, l2], [], S) = rn xX8_carryOrder (46, [l0, l1, l2], [vI 1], S) := rn_step dX8_carryOrder_45 rfl rfl
theorem eX8_carryOrder_46 {l0 l1 l2 : Option VV} {v0 : VV} {S : MM} : rn xX8_carryOrder (46, [l0, l1, l2], [v0], S) = rn xX8_carryOrder (50, [l0, l1, l2], [v0], S) := rn_step dX8_carryOrder_46 rfl rfl
theorem eX8_carryOrder_49 {l0 l1 l2 : Option VV} {S : MM} : rn xX8_carryOrder (49, [l0, l1, l2], [], S) = rn xX8_carryOrder (50, [l0, l1, l2], [vI 0], S) := rn_step dX8_carryOrder_49 rfl rfl
theorem eX8_carryOrder_50 {a : Int} {w : Int} {l0 l2 : Option VV} {S : MM} : rn xX8_carryOrder (50, [l0, some (vI w), l2], [vI a], S) = rn xX8_carryOrder (51, [l0, some (vI w), some (vI a)], [], S) := rn_step dX8_carryOrder_50 rfl rfl
theorem eX8_carryOrder_51 {a : Int} {l0 l1 : Option VV} {S : MM} : rn xX8_carryOrder (51, [l0, l1, some (vI a)], [], S) = rn xX8_carryOrder (52, [l0, l1, some (vI a)], [vI a], S) := rn_step dX8_carryOrder_51 rfl rfl
theorem eX8_carryOrder_52 {a : Int} {l0 l1 l2 : Option VV} (h : -2147483648 ≤ a ∧ a ≤ 2147483647) {S : MM} : rn xX8_carryOrder (52, [l0, l1, l2], [vI a], S) = if a = 0 then rn xX8_carryOrder (84, [l0, l1, l2], [], S) else rn xX8_carryOrder (55, [l0, l1, l2], [], S) := q_if_eq dX8_carryOrder_52 (by decide) rfl h
theorem eX8_carryOrder_55 {a : Option Nat} {l1 l2 : Option VV} {S : MM} : rn xX8_carryOrder (55, [some (.inr (.inl a)), l1, l2], [], S) = rn xX8_carryOrder (56, [some (.inr (.inl a)), l1, l2], [.inr (.inl a)], S) := rn_step dX8_carryOrder_55 rfl rfl
theorem eX8_carryOrder_56 {l0 l1 l2 : Option VV} {S : MM} : rn xX8_carryOrder (56, [l0, l1, l2], [vR 0], S) = rn xX8_carryOrder (59, [l0, l1, l2], [vR 1], S) := q_getR dX8_carryOrder_56 rfl ⟨⟨by decide, by decide⟩, by decide⟩ (fun _ => by decide +kernel) kd0
theorem eX8_carryOrder_59 {a : Option Nat} {l1 l2 : Option VV} {v0 : VV} {S : MM} : rn xX8_carryOrder (59, [some (.inr (.inl a)), l1, l2], [v0], S) = rn xX8_carryOrder (60, [some (.inr (.inl a)), l1, l2], [.inr (.inl a), v0], S) := rn_step dX8_carryOrder_59 rfl rfl
theorem eX8_carryOrder_60 {l0 l1 l2 : Option VV} {v1 : VV} {S : MM} : rn xX8_carryOrder (60, [l0, l1, l2], [vR 0, v1], S) = rn xX8_carryOrder (63, [l0, l1, l2], [vR 69, v1], S) := q_getR dX8_carryOrder_60 rfl ⟨⟨by decide, by decide⟩, by decide⟩ (fun _ => by decide +kernel) kd0
theorem eX8_carryOrder_63 {i : Nat} {l0 l1 l2 : Option VV} {v1 : VV} (h : kd i = 2) {S : MM} : rn xX8_carryOrder (63, [l0, l1, l2], [vR i, v1], S) = (fX2_walker [vR i] S).bind (fun q => rn xX8_carryOrder (66, [l0, l1, l2], q.1.toList ++ [v1], q.2)) := q_callV (n := 0) (as := []) (rest := [v1]) dX8_carryOrder_63 rfl rfl rfl rfl h
theorem eX8_carryOrder_66 {a : Option Nat} {l1 l2 : Option VV} {v0 v1 : VV} {S : MM} : rn xX8_carryOrder (66, [some (.inr (.inl a)), l1, l2], [v0, v1], S) = rn xX8_carryOrder (67, [some (.inr (.inl a)), l1, l2], [.inr (.inl a), v0, v1], S) := rn_step dX8_carryOrder_66 rfl rfl
theorem eX8_carryOrder_67 {l0 l1 l2 : Option VV} {v1 v2 : VV} {S : MM} : rn xX8_carryOrder (67, [l0, l1, l2], [vR 0, v1, v2], S) = rn xX8_carryOrder (70, [l0, l1, l2], [vR 69, v1, v2], S) := q_getR dX8_carryOrder_67 rfl ⟨⟨by decide, by decide⟩, by decide⟩ (fun _ => by decide +kernel) kd0
theorem eX8_carryOrder_70 {i : Nat} {l0 l1 l2 : Option VV} {v1 v2 : VV} (h : kd i = 2) {S : MM} : rn xX8_carryOrder (70, [l0, l1, l2], [vR i, v1, v2], S) = (fX2_from [vR i] S).bind (fun q => rn xX8_carryOrder (73, [l0, l1, l2], q.1.toList ++ [v1, v2], q.2)) := q_callV (n := 0) (as := []) (rest := [v1, v2]) dX8_carryOrder_70 rfl rfl rfl rfl h
theorem eX8_carryOrder_73 {a : Option Nat} {l1 l2 : Option VV} {v0 v1 v2 : VV} {S : MM} : rn xX8_carryOrder (73, [some (.inr (.inl a)), l1, l2], [v0, v1, v2], S) = rn xX8_carryOrder (74, [some (.inr (.inl a)), l1, l2], [.inr (.inl a), v0, v1, v2], S) := rn_step dX8_carryOrder_73 rfl rfl
theorem eX8_carryOrder_74 {l0 l1 l2 : Option VV} {v1 v2 v3 : VV} {S : MM} : rn xX8_carryOrder (74, [l0, l1, l2], [vR 0, v1, v2, v3], S) = rn xX8_carryOrder (77, [l0, l1, l2], [vR 69, v1, v2, v3], S) := q_getR dX8_carryOrder_74 rfl ⟨⟨by decide, by decide⟩, by decide⟩ (fun _ => by decide +kernel) kd0
theorem eX8_carryOrder_77 {i : Nat} {l0 l1 l2 : Option VV} {v1 v2 v3 : VV} (h : kd i = 2) {S : MM} : rn xX8_carryOrder (77, [l0, l1, l2], [vR i, v1, v2, v3], S) = (fX2_to [vR i] S).bind (fun q => rn xX8_carryOrder (80, [l0, l1, l2], q.1.toList ++ [v1, v2, v3], q.2)) := q_callV (n := 0) (as := []) (rest := [v1, v2, v3]) dX8_carryOrder_77 rfl rfl rfl rfl h
theorem eX8_carryOrder_80 {a0 : Int} {a1 : Int} {a2 : Int} {i : Nat} {l0 l1 l2 : Option VV} (h : kd i = 6) {S : MM} : rn xX8_carryOrder (80, [l0, l1, l2], [vI a2, vI a1, vI a0, vR i], S) = (fX6_takeAway [vR i, vI a0, vI a1, vI a2] S).bind (fun q => rn xX8_carryOrder (83, [l0, l1, l2], q.1.toList ++ [], q.2)) := q_callV (n := 3) (as := [vI a0, vI a1, vI a2]) (rest := []) dX8_carryOrder_80 rfl rfl rfl rfl h
theorem eX8_carryOrder_83 {a : Int} {l0 l1 l2 : Option VV} {S : MM} : rn xX8_carryOrder (83, [l0, l1, l2], [vI a], S) = rn xX8_carryOrder (84, [l0, l1, l2], [], S) := rn_step dX8_carryOrder_83 rfl rfl
theorem eX8_carryOrder_84 {a : Int} {l0 l1 : Option VV} {S : MM} : rn xX8_carryOrder (84, [l0, l1, some (vI a)], [], S) = rn xX8_carryOrder (85, [l0, l1, some (vI a)], [vI a], S) := rn_step dX8_carryOrder_84 rfl rfl
theorem eX8_carryOrder_85 {z : Int} {l0 l1 l2 : Option VV} (hz : z = 0 ∨ z = 1) {S : MM} : rn xX8_carryOrder (85, [l0, l1, l2], [vI z], S) = some (some (vI z), S) := q_retZ dX8_carryOrder_85 rfl hz
theorem eX8_carryOrder_86 {a : Int} {l0 l2 : Option VV} {S : MM} : rn xX8_carryOrder (86, [l0, some (vI a), l2], [], S) = rn xX8_carryOrder (87, [l0, some (vI a), l2], [vI a], S) := rn_step dX8_carryOrder_86 rfl rfl
theorem eX8_carryOrder_87 {l0 l1 l2 : Option VV} {v0 : VV} {S : MM} : rn xX8_carryOrder (87, [l0, l1, l2], [v0], S) = rn xX8_carryOrder (89, [l0, l1, l2], [vI 100, v0], S) := rn_step dX8_carryOrder_87 rfl rfl
theorem eX8_carryOrder_89 {a b : Int} {l0 l1 l2 : Option VV} (h : -2147483648 ≤ a ∧ a ≤ 2147483647) (h1 : -2147483648 ≤ b ∧ b ≤ 2147483647) {S : MM} : rn xX8_carryOrder (89, [l0, l1, l2], [vI b, vI a], S) = if a = b then rn xX8_carryOrder (92, [l0, l1, l2], [], S) else rn xX8_carryOrder (122, [l0, l1, l2], [], S) := q_icmp_ne dX8_carryOrder_89 (by decide) rfl h h1
theorem eX8_carryOrder_92 {a : Option Nat} {l1 l2 : Option VV} {S : MM} : rn xX8_carryOrder (92, [some (.inr (.inl a)), l1, l2], [], S) = rn xX8_carryOrder (93, [some (.inr (.inl a)), l1, l2], [.inr (.inl a)], S) := rn_step dX8_carryOrder_92 rfl rfl
theorem eX8_carryOrder_93 {l0 l1 l2 : Option VV} {S : MM} : rn xX8_carryOrder (93, [l0, l1, l2], [vR 0], S) = rn xX8_carryOrder (96, [l0, l1, l2], [vR 1], S) := q_getR dX8_carryOrder_93 rfl ⟨⟨by decide, by decide⟩, by decide⟩ (fun _ => by decide +kernel) kd0
theorem eX8_carryOrder_96 {i : Nat} {l0 l1 l2 : Option VV} (h : kd i = 6) {S : MM} : rn xX8_carryOrder (96, [l0, l1, l2], [vR i], S) = (fX6_errorOfDrying [vR i] S).bind (fun q => rn xX8_carryOrder (99, [l0, l1, l2], q.1.toList ++ [], q.2)) := q_callV (n := 0) (as := []) (rest := []) dX8_carryOrder_96 rfl rfl rfl rfl h
theorem eX8_carryOrder_99 {a : Int} {l0 l1 l2 : Option VV} (h : -2147483648 ≤ a ∧ a ≤ 2147483647) {S : MM} : rn xX8_carryOrder (99, [l0, l1, l2], [vI a], S) = if a = 0 then rn xX8_carryOrder (102, [l0, l1, l2], [], S) else rn xX8_carryOrder (106, [l0, l1, l2], [], S) := q_if_ne dX8_carryOrder_99 (by decide) rfl h
theorem eX8_carryOrder_102 {l0 l1 l2 : Option VV} {S : MM} : rn xX8_carryOrder (102, [l0, l1, l2], [], S) = rn xX8_carryOrder (103, [l0, l1, l2], [vI 1], S) := rn_step dX8_carryOrder_102 rfl rfl
theorem eX8_carryOrder_103 {l0 l1 l2 : Option VV} {v0 : VV} {S : MM} : rn xX8_carryOrder (103, [l0, l1, l2], [v0], S) = rn xX8_carryOrder (107, [l0, l1, l2], [v0], S) := rn_step dX8_carryOrder_103 rfl rfl
theorem eX8_carryOrder_106 {l0 l1 l2 : Option VV} {S : MM} : rn xX8_carryOrder (106, [l0, l1, l2], [], S) = rn xX8_carryOrder (107, [l0, l1, l2], [vI 0], S) := rn_step dX8_carryOrder_106 rfl rfl
theorem eX8_carryOrder_107 {a : Int} {w : Int} {l0 l2 : Option VV} {S : MM} : rn xX8_carryOrder (107, [l0, some (vI w), l2], [vI a], S) = rn xX8_carryOrder (108, [l0, some (vI w), some (vI a)], [], S) := rn_step dX8_carryOrder_107 rfl rfl
theorem eX8_carryOrder_108 {a : Int} {l0 l1 : Option VV} {S : MM} : rn xX8_carryOrder (108, [l0, l1, some (vI a)], [], S) = rn xX8_carryOrder (109, [l0, l1, some (vI a)], [vI a], S) := rn_step dX8_carryOrder_108 rfl rfl
theorem eX8_carryOrder_109 {a : Int} {l0 l1 l2 : Option VV} (h : -2147483648 ≤ a ∧ a ≤ 2147483647) {S : MM} : rn xX8_carryOrder (109, [l0, l1, l2], [vI a], S) = if a = 0 then rn xX8_carryOrder (120, [l0, l1, l2], [], S) else rn xX8_carryOrder (112, [l0, l1, l2], [], S) := q_if_eq dX8_carryOrder_109 (by decide) rfl h
theorem eX8_carryOrder_112 {a : Option Nat} {l1 l2 : Option VV} {S : MM} : rn xX8_carryOrder (112, [some (.inr (.inl a)), l1, l2], [], S) = rn xX8_carryOrder (113, [some (.inr (.inl a)), l1, l2], [.inr (.inl a)], S) := rn_step dX8_carryOrder_112 rfl rfl
theorem eX8_carryOrder_113 {l0 l1 l2 : Option VV} {S : MM} : rn xX8_carryOrder (113, [l0, l1, l2], [vR 0], S) = rn xX8_carryOrder (116, [l0, l1, l2], [vR 1], S) := q_getR dX8_carryOrder_113 rfl ⟨⟨by decide, by decide⟩, by decide⟩ (fun _ => by decide +kernel) kd0
theorem eX8_carryOrder_116 {i : Nat} {l0 l1 l2 : Option VV} (h : kd i = 6) {S : MM} : rn xX8_carryOrder (116, [l0, l1, l2], [vR i], S) = (fX6_giveBack [vR i] S).bind (fun q => rn xX8_carryOrder (119, [l0, l1, l2], q.1.toList ++ [], q.2)) := q_callV (n := 0) (as := []) (rest := []) dX8_carryOrder_116 rfl rfl rfl rfl h
theorem eX8_carryOrder_119 {a : Int} {l0 l1 l2 : Option VV} {S : MM} : rn xX8_carryOrder (119, [l0, l1, l2], [vI a], S) = rn xX8_carryOrder (120, [l0, l1, l2], [], S) := rn_step dX8_carryOrder_119 rfl rfl
theorem eX8_carryOrder_120 {a : Int} {l0 l1 : Option VV} {S : MM} : rn xX8_carryOrder (120, [l0, l1, some (vI a)], [], S) = rn xX8_carryOrder (121, [l0, l1, some (vI a)], [vI a], S) := rn_step dX8_carryOrder_120 rfl rfl
theorem eX8_carryOrder_121 {z : Int} {l0 l1 l2 : Option VV} (hz : z = 0 ∨ z = 1) {S : MM} : rn xX8_carryOrder (121, [l0, l1, l2], [vI z], S) = some (some (vI z), S) := q_retZ dX8_carryOrder_121 rfl hz
theorem eX8_carryOrder_122 {a : Int} {l0 l2 : Option VV} {S : MM} : rn xX8_carryOrder (122, [l0, some (vI a), l2], [], S) = rn xX8_carryOrder (123, [l0, some (vI a), l2], [vI a], S) := rn_step dX8_carryOrder_122 rfl rfl
theorem eX8_carryOrder_123 {l0 l1 l2 : Option VV} {v0 : VV} {S : MM} : rn xX8_carryOrder (123, [l0, l1, l2], [v0], S) = rn xX8_carryOrder (125, [l0, l1, l2], [vI 103, v0], S) := rn_step dX8_carryOrder_123 rfl rfl
theorem eX8_carryOrder_125 {a b : Int} {l0 l1 l2 : Option VV} (h : -2147483648 ≤ a ∧ a ≤ 2147483647) (h1 : -2147483648 ≤ b ∧ b ≤ 2147483647) {S : MM} : rn xX8_carryOrder (125, [l0, l1, l2], [vI b, vI a], S) = if a = b then rn xX8_carryOrder (128, [l0, l1, l2], [], S) else rn xX8_carryOrder (138, [l0, l1, l2], [], S) := q_icmp_ne dX8_carryOrder_125 (by decide) rfl h h1
theorem eX8_carryOrder_128 {a : Option Nat} {l1 l2 : Option VV} {S : MM} : rn xX8_carryOrder (128, [some (.inr (.inl a)), l1, l2], [], S) = rn xX8_carryOrder (129, [some (.inr (.inl a)), l1, l2], [.inr (.inl a)], S) := rn_step dX8_carryOrder_128 rfl rfl
theorem eX8_carryOrder_129 {l0 l1 l2 : Option VV} {S : MM} : rn xX8_carryOrder (129, [l0, l1, l2], [vR 0], S) = rn xX8_carryOrder (132, [l0, l1, l2], [vR 1], S) := q_getR dX8_carryOrder_129 rfl ⟨⟨by decide, by decide⟩, by decide⟩ (fun _ => by decide +kernel) kd0
theorem eX8_carryOrder_132 {i : Nat} {l0 l1 l2 : Option VV} (h : kd i = 6) {S : MM} : rn xX8_carryOrder (132, [l0, l1, l2], [vR i], S) = (fX6_start [vR i] S).bind (fun q => rn xX8_carryOrder (135, [l0, l1, l2], q.1.toList ++ [], q.2)) := q_callV (n := 0) (as := []) (rest := []) dX8_carryOrder_132 rfl rfl rfl rfl h
theorem eX8_carryOrder_135 {a : Int} {l0 l1 l2 : Option VV} {S : MM} : rn xX8_carryOrder (135, [l0, l1, l2], [vI a], S) = rn xX8_carryOrder (136, [l0, l1, l2], [], S) := rn_step dX8_carryOrder_135 rfl rfl
theorem eX8_carryOrder_136 {l0 l1 l2 : Option VV} {S : MM} : rn xX8_carryOrder (136, [l0, l1, l2], [], S) = rn xX8_carryOrder (137, [l0, l1, l2], [vI 1], S) := rn_step dX8_carryOrder_136 rfl rfl
theorem eX8_carryOrder_137 {z : Int} {l0 l1 l2 : Option VV} (hz : z = 0 ∨ z = 1) {S : MM} : rn xX8_carryOrder (137, [l0, l1, l2], [vI z], S) = some (some (vI z), S) := q_retZ dX8_carryOrder_137 rfl hz
theorem eX8_carryOrder_138 {a : Int} {l0 l2 : Option VV} {S : MM} : rn xX8_carryOrder (138, [l0, some (vI a), l2], [], S) = rn xX8_carryOrder (139, [l0, some (vI a), l2], [vI a], S) := rn_step dX8_carryOrder_138 rfl rfl
theorem eX8_carryOrder_139 {l0 l1 l2 : Option VV} {v0 : VV} {S : MM} : rn xX8_carryOrder (139, [l0, l1, l2], [v0], S) = rn xX8_carryOrder (141, [l0, l1, l2], [vI 108, v0], S) := rn_step dX8_carryOrder_139 rfl rfl
theorem eX8_carryOrder_141 {a b : Int} {l0 l1 l2 : Option VV} (h : -2147483648 ≤ a ∧ a ≤ 2147483647) (h1 : -2147483648 ≤ b ∧ b ≤ 2147483647) {S : MM} : rn xX8_carryOrder (141, [l0, l1, l2], [vI b, vI a], S) = if a = b then rn xX8_carryOrder (144, [l0, l1, l2], [], S) else rn xX8_carryOrder (169, [l0, l1, l2], [], S) := q_icmp_ne dX8_carryOrder_141 (by decide) rfl h h1
theorem eX8_carryOrder_144 {a : Option Nat} {l1 l2 : Option VV} {S : MM} : rn xX8_carryOrder (144, [some (.inr (.inl a)), l1, l2], [], S) = rn xX8_carryOrder (145, [some (.inr (.inl a)), l1, l2], [.inr (.inl a)], S) := rn_step dX8_carryOrder_144 rfl rfl
theorem eX8_carryOrder_145 {l0 l1 l2 : Option VV} {S : MM} : rn xX8_carryOrder (145, [l0, l1, l2], [vR 0], S) = rn xX8_carryOrder (148, [l0, l1, l2], [vR 1], S) := q_getR dX8_carryOrder_145 rfl ⟨⟨by decide, by decide⟩, by decide⟩ (fun _ => by decide +kernel) kd0
theorem eX8_carryOrder_148 {i : Nat} {l0 l1 l2 : Option VV} (h : kd i = 6) {S : MM} : rn xX8_carryOrder (148, [l0, l1, l2], [vR i], S) = rn xX8_carryOrder (151, [l0, l1, l2], [vR (i + 56)], S) := q_getR dX8_carryOrder_148 rfl ⟨⟨by decide, by decide⟩, by decide⟩ (fun h => (fref6 h).trans (by first | rfl | omega)) h
theorem eX8_carryOrder_151 {i : Nat} {l0 l1 l2 : Option VV} (h : kd i = 0) {S : MM} : rn xX8_carryOrder (151, [l0, l1, l2], [vR i], S) = (fX0_goesOn [vR i] S).bind (fun q => rn xX8_carryOrder (154, [l0, l1, l2], q.1.toList ++ [], q.2)) := q_callV (n := 0) (as := []) (rest := []) dX8_carryOrder_151 rfl rfl rfl rfl h
theorem eX8_carryOrder_154 {a : Int} {w : Int} {l0 l2 : Option VV} {S : MM} : rn xX8_carryOrder (154, [l0, some (vI w), l2], [vI a], S) = rn xX8_carryOrder (155, [l0, some (vI w), some (vI a)], [], S) := rn_step dX8_carryOrder_154 rfl rfl
theorem eX8_carryOrder_155 {a : Int} {l0 l1 : Option VV} {S : MM} : rn xX8_carryOrder (155, [l0, l1, some (vI a)], [], S) = rn xX8_carryOrder (156, [l0, l1, some (vI a)], [vI a], S) := rn_step dX8_carryOrder_155 rfl rfl
theorem eX8_carryOrder_156 {a : Int} {l0 l1 l2 : Option VV} (h : -2147483648 ≤ a ∧ a ≤ 2147483647) {S : MM} : rn xX8_carryOrder (156, [l0, l1, l2], [vI a], S) = if a = 0 then rn xX8_carryOrder (167, [l0, l1, l2], [], S) else rn xX8_carryOrder (159, [l0, l1, l2], [], S) := q_if_eq dX8_carryOrder_156 (by decide) rfl h
theorem eX8_carryOrder_159 {a : Option Nat} {l1 l2 : Option VV} {S : MM} : rn xX8_carryOrder (159, [some (.inr (.inl a)), l1, l2], [], S) = rn xX8_carryOrder (160, [some (.inr (.inl a)), l1, l2], [.inr (.inl a)], S) := rn_step dX8_carryOrder_159 rfl rfl
theorem eX8_carryOrder_160 {l0 l1 l2 : Option VV} {S : MM} : rn xX8_carryOrder (160, [l0, l1, l2], [vR 0], S) = rn xX8_carryOrder (163, [l0, l1, l2], [vR 1], S) := q_getR dX8_carryOrder_160 rfl ⟨⟨by decide, by decide⟩, by decide⟩ (fun _ => by decide +kernel) kd0
theorem eX8_carryOrder_163 {i : Nat} {l0 l1 l2 : Option VV} (h : kd i = 6) {S : MM} : rn xX8_carryOrder (163, [l0, l1, l2], [vR i], S) = (fX6_step [vR i] S).bind (fun q => rn xX8_carryOrder (166, [l0, l1, l2], q.1.toList ++ [], q.2)) := q_callV (n := 0) (as := []) (rest := []) dX8_carryOrder_163 rfl rfl rfl rfl h
theorem eX8_carryOrder_166 {a : Int} {l0 l1 l2 : Option VV} {S : MM} : rn xX8_carryOrder (166, [l0, l1, l2], [vI a], S) = rn xX8_carryOrder (167, [l0, l1, l2], [], S) := rn_step dX8_carryOrder_166 rfl rfl
theorem eX8_carryOrder_167 {a : Int} {l0 l1 : Option VV} {S : MM} : rn xX8_carryOrder (167, [l0, l1, some (vI a)], [], S) = rn xX8_carryOrder (168, [l0, l1, some (vI a)], [vI a], S) := rn_step dX8_carryOrder_167 rfl rfl
theorem eX8_carryOrder_168 {z : Int} {l0 l1 l2 : Option VV} (hz : z = 0 ∨ z = 1) {S : MM} : rn xX8_carryOrder (168, [l0, l1, l2], [vI z], S) = some (some (vI z), S) := q_retZ dX8_carryOrder_168 rfl hz
theorem eX8_carryOrder_169 {a : Option Nat} {l1 l2 : Option VV} {S : MM} : rn xX8_carryOrder (169, [some (.inr (.inl a)), l1, l2], [], S) = rn xX8_carryOrder (170, [some (.inr (.inl a)), l1, l2], [.inr (.inl a)], S) := rn_step dX8_carryOrder_169 rfl rfl
theorem eX8_carryOrder_170 {l0 l1 l2 : Option VV} {S : MM} : rn xX8_carryOrder (170, [l0, l1, l2], [vR 0], S) = (fX8_carryStones [vR 0] S).bind (fun q => rn xX8_carryOrder (173, [l0, l1, l2], q.1.toList ++ [], q.2)) := q_callV (n := 0) (as := []) (rest := []) dX8_carryOrder_170 rfl rfl rfl rfl kd0
theorem eX8_carryOrder_173 {z : Int} {l0 l1 l2 : Option VV} (hz : z = 0 ∨ z = 1) {S : MM} : rn xX8_carryOrder (173, [l0, l1, l2], [vI z], S) = some (some (vI z), S) := q_retZ dX8_carryOrder_173 rfl hz
noncomputable def qlX8_carryOut : List CE := [(0, 232, 2, 1, fX2_firstFault), (0, 65, 8, 1, fX8_remember), (0, 235, 2, 1, fX2_rewind), (0, 238, 2, 1, fX2_readOrder), (0, 241, 8, 1, fX8_carryOrder), (0, 244, 2, 2, fX2_pass), (0, 229, 2, 1, fX2_clear)]
noncomputable def xX8_carryOut : XX := (cX8_carryOut, fcF fcl8, mcF qlX8_carryOut, 1)
noncomputable def fX8_carryOut : FN := fnX xX8_carryOut 3
set_option maxRecDepth 100000 in
theorem cwX8_carryOut : Cond.code yX8_carryOut cX8_carryOut 3 (some .int) ∈ lw_g := lw_gm 752 (by decide +kernel) (by decide +kernel)
set_option maxRecDepth 100000 in
theorem conX8_carryOut : Con yX8_carryOut cX8_carryOut 3 (some .int) { frames := 7, cells := 0, slots := 0, locals := 167 } fX8_carryOut := con_of (X := xX8_carryOut) (own := "LeapStones") (ql := qlX8_carryOut) (by decide) rfl FOK8 rfl (List.forall_mem_cons.mpr ⟨call_V conX2_firstFault cwX2_firstFault (lw_gl _ [699, 700, 701, 29] (by decide +kernel) (by decide +kernel)) (by decide) rfl ⟨by decide, by decide, by decide +kernel⟩ ⟨rfl, rfl⟩ ⟨by decide, by decide⟩ ⟨Nat.le_refl _, Nat.le_refl _⟩, List.forall_mem_cons.mpr ⟨call_V conX8_remember cwX8_remember (lw_gl _ [256, 258, 0, 21] (by decide +kernel) (by decide +kernel)) (by decide) rfl ⟨by decide, by decide, by decide +kernel⟩ ⟨rfl, rfl⟩ ⟨by decide, by decide⟩ ⟨Nat.le_refl _, Nat.le_refl _⟩, List.forall_mem_cons.mpr ⟨call_V conX2_rewind cwX2_rewind (lw_gl _ [753, 704, 705, 29] (by decide +kernel) (by decide +kernel)) (by decide) rfl ⟨by decide, by decide, by decide +kernel⟩ ⟨rfl, rfl⟩ ⟨by decide, by decide⟩ ⟨Nat.le_refl _, Nat.le_refl _⟩, List.forall_mem_cons.mpr ⟨call_V conX2_readOrder cwX2_readOrder (lw_gl _ [754, 712, 713, 29] (by decide +kernel) (by decide +kernel)) (by decide) rfl ⟨by decide, by decide, by decide +kernel⟩ ⟨rfl, rfl⟩ ⟨by decide, by decide⟩ ⟨Nat.le_refl _, Nat.le_refl _⟩, List.forall_mem_cons.mpr ⟨call_V conX8_carryOrder cwX8_carryOrder (lw_gl _ [755, 757, 15, 21] (by decide +kernel) (by decide +kernel)) (by decide) rfl ⟨by decide, by decide, by decide +kernel⟩ ⟨rfl, rfl⟩ ⟨by decide, by decide⟩ ⟨Nat.le_refl _, Nat.le_refl _⟩, List.forall_mem_cons.mpr ⟨call_V conX2_pass cwX2_pass (lw_gl _ [788, 724, 725, 29] (by decide +kernel) (by decide +kernel)) (by decide) rfl ⟨by decide, by decide, by decide +kernel⟩ ⟨rfl, rfl⟩ ⟨by decide, by decide⟩ ⟨Nat.le_refl _, Nat.le_refl _⟩, List.forall_mem_cons.mpr ⟨call_V conX2_clear cwX2_clear (lw_gl _ [673, 674, 675, 29] (by decide +kernel) (by decide +kernel)) (by decide) rfl ⟨by decide, by decide, by decide +kernel⟩ ⟨rfl, rfl⟩ ⟨by decide, by decide⟩ ⟨Nat.le_refl _, Nat.le_refl _⟩, fun _ h => absurd h List.not_mem_nil⟩⟩⟩⟩⟩⟩⟩) (Or.inr (Or.inl ⟨rfl, rfl⟩))
theorem uX8_carryOut {i : Nat} {S : MM} : fX8_carryOut [vR i] S = rn xX8_carryOut (0, [some (vR i), none, none], [], S) := rfl
theorem dX8_carryOut_0 : decode cX8_carryOut 0 = .ok (.aload_n 0, 1) := by decide +kernel
theorem dX8_carryOut_1 : decode cX8_carryOut 1 = .ok (.getfield 39, 3) := by decide +kernel
theorem dX8_carryOut_4 : decode cX8_carryOut 4 = .ok (.invokevirtual 232, 3) := by decide +kernel
theorem dX8_carryOut_7 : decode cX8_carryOut 7 = .ok (.bipush (-6), 2) := by decide +kernel
theorem dX8_carryOut_9 : decode cX8_carryOut 9 = .ok (.if_icmp .eq 6, 3) := by decide +kernel
theorem dX8_carryOut_12 : decode cX8_carryOut 12 = .ok (.bipush (-3), 2) := by decide +kernel
theorem dX8_carryOut_14 : decode cX8_carryOut 14 = .ok (.ireturn, 1) := by decide +kernel
theorem dX8_carryOut_15 : decode cX8_carryOut 15 = .ok (.aload_n 0, 1) := by decide +kernel
theorem dX8_carryOut_16 : decode cX8_carryOut 16 = .ok (.invokevirtual 65, 3) := by decide +kernel
theorem dX8_carryOut_19 : decode cX8_carryOut 19 = .ok (.iconst 0, 1) := by decide +kernel
theorem dX8_carryOut_20 : decode cX8_carryOut 20 = .ok (.istore_n 1, 1) := by decide +kernel
theorem dX8_carryOut_21 : decode cX8_carryOut 21 = .ok (.aload_n 0, 1) := by decide +kernel
theorem dX8_carryOut_22 : decode cX8_carryOut 22 = .ok (.getfield 39, 3) := by decide +kernel
theorem dX8_carryOut_25 : decode cX8_carryOut 25 = .ok (.invokevirtual 235, 3) := by decide +kernel
theorem dX8_carryOut_28 : decode cX8_carryOut 28 = .ok (.iconst 0, 1) := by decide +kernel
theorem dX8_carryOut_29 : decode cX8_carryOut 29 = .ok (.istore_n 2, 1) := by decide +kernel
theorem dX8_carryOut_30 : decode cX8_carryOut 30 = .ok (.iload_n 2, 1) := by decide +kernel
theorem dX8_carryOut_31 : decode cX8_carryOut 31 = .ok (.bipush 80, 2) := by decide +kernel
theorem dX8_carryOut_33 : decode cX8_carryOut 33 = .ok (.if_icmp .ge 47, 3) := by decide +kernel
theorem dX8_carryOut_36 : decode cX8_carryOut 36 = .ok (.aload_n 0, 1) := by decide +kernel
theorem dX8_carryOut_37 : decode cX8_carryOut 37 = .ok (.getfield 39, 3) := by decide +kernel
theorem dX8_carryOut_40 : decode cX8_carryOut 40 = .ok (.invokevirtual 238, 3) := by decide +kernel
theorem dX8_carryOut_43 : decode cX8_carryOut 43 = .ok (.ifCond .eq 37, 3) := by decide +kernel
theorem dX8_carryOut_46 : decode cX8_carryOut 46 = .ok (.aload_n 0, 1) := by decide +kernel
theorem dX8_carryOut_47 : decode cX8_carryOut 47 = .ok (.invokevirtual 241, 3) := by decide +kernel
theorem dX8_carryOut_50 : decode cX8_carryOut 50 = .ok (.ifCond .ne 6, 3) := by decide +kernel
theorem dX8_carryOut_53 : decode cX8_carryOut 53 = .ok (.goto 27, 3) := by decide +kernel
theorem dX8_carryOut_56 : decode cX8_carryOut 56 = .ok (.iinc 1 1, 3) := by decide +kernel
theorem dX8_carryOut_59 : decode cX8_carryOut 59 = .ok (.aload_n 0, 1) := by decide +kernel
theorem dX8_carryOut_60 : decode cX8_carryOut 60 = .ok (.getfield 39, 3) := by decide +kernel
theorem dX8_carryOut_63 : decode cX8_carryOut 63 = .ok (.bipush 59, 2) := by decide +kernel
theorem dX8_carryOut_65 : decode cX8_carryOut 65 = .ok (.invokevirtual 244, 3) := by decide +kernel
theorem dX8_carryOut_68 : decode cX8_carryOut 68 = .ok (.ifCond .ne 6, 3) := by decide +kernel
theorem dX8_carryOut_71 : decode cX8_carryOut 71 = .ok (.goto 9, 3) := by decide +kernel
theorem dX8_carryOut_74 : decode cX8_carryOut 74 = .ok (.iinc 2 1, 3) := by decide +kernel
theorem dX8_carryOut_77 : decode cX8_carryOut 77 = .ok (.goto (-47), 3) := by decide +kernel
theorem dX8_carryOut_80 : decode cX8_carryOut 80 = .ok (.aload_n 0, 1) := by decide +kernel
theorem dX8_carryOut_81 : decode cX8_carryOut 81 = .ok (.getfield 39, 3) := by decide +kernel
theorem dX8_carryOut_84 : decode cX8_carryOut 84 = .ok (.invokevirtual 229, 3) := by decide +kernel
theorem dX8_carryOut_87 : decode cX8_carryOut 87 = .ok (.iload_n 1, 1) := by decide +kernel
theorem dX8_carryOut_88 : decode cX8_carryOut 88 = .ok (.ireturn, 1) := by decide +kernel
theorem eX8_carryOut_0 {a : Option Nat} {l1 l2 : Option VV} {S : MM} : rn xX8_carryOut (0, [some (.inr (.inl a)), l1, l2], [], S) = rn xX8_carryOut (1, [some (.inr (.inl a)), l1, l2], [.inr (.inl a)], S) := rn_step dX8_carryOut_0 rfl rfl
theorem eX8_carryOut_1 {l0 l1 l2 : Option VV} {S : MM} : rn xX8_carryOut (1, [l0, l1, l2], [vR 0], S) = rn xX8_carryOut (4, [l0, l1, l2], [vR 69], S) := q_getR dX8_carryOut_1 rfl ⟨⟨by decide, by decide⟩, by decide⟩ (fun _ => by decide +kernel) kd0
theorem eX8_carryOut_4 {i : Nat} {l0 l1 l2 : Option VV} (h : kd i = 2) {S : MM} : rn xX8_carryOut (4, [l0, l1, l2], [vR i], S) = (fX2_firstFault [vR i] S).bind (fun q => rn xX8_carryOut (7, [l0, l1, l2], q.1.toList ++ [], q.2)) := q_callV (n := 0) (as := []) (rest := []) dX8_carryOut_4 rfl rfl rfl rfl h
theorem eX8_carryOut_7 {l0 l1 l2 : Option VV} {v0 : VV} {S : MM} : rn xX8_carryOut (7, [l0, l1, l2], [v0], S) = rn xX8_carryOut (9, [l0, l1, l2], [vI (-6), v0], S) := rn_step dX8_carryOut_7 rfl rfl
theorem eX8_carryOut_9 {a b : Int} {l0 l1 l2 : Option VV} (h : -2147483648 ≤ a ∧ a ≤ 2147483647) (h1 : -2147483648 ≤ b ∧ b ≤ 2147483647) {S : MM} : rn xX8_carryOut (9, [l0, l1, l2], [vI b, vI a], S) = if a = b then rn xX8_carryOut (15, [l0, l1, l2], [], S) else rn xX8_carryOut (12, [l0, l1, l2], [], S) := q_icmp_eq dX8_carryOut_9 (by decide) rfl h h1
theorem eX8_carryOut_12 {l0 l1 l2 : Option VV} {S : MM} : rn xX8_carryOut (12, [l0, l1, l2], [], S) = rn xX8_carryOut (14, [l0, l1, l2], [vI (-3)], S) := rn_step dX8_carryOut_12 rfl rfl
theorem eX8_carryOut_14 {z : Int} {l0 l1 l2 : Option VV} {S : MM} : rn xX8_carryOut (14, [l0, l1, l2], [vI z], S) = some (some (vI z), S) := q_retI dX8_carryOut_14 rfl
theorem eX8_carryOut_15 {a : Option Nat} {l1 l2 : Option VV} {S : MM} : rn xX8_carryOut (15, [some (.inr (.inl a)), l1, l2], [], S) = rn xX8_carryOut (16, [some (.inr (.inl a)), l1, l2], [.inr (.inl a)], S) := rn_step dX8_carryOut_15 rfl rfl
theorem eX8_carryOut_16 {l0 l1 l2 : Option VV} {S : MM} : rn xX8_carryOut (16, [l0, l1, l2], [vR 0], S) = (fX8_remember [vR 0] S).bind (fun q => rn xX8_carryOut (19, [l0, l1, l2], q.1.toList ++ [], q.2)) := q_callV (n := 0) (as := []) (rest := []) dX8_carryOut_16 rfl rfl rfl rfl kd0
theorem eX8_carryOut_19 {l0 l1 l2 : Option VV} {S : MM} : rn xX8_carryOut (19, [l0, l1, l2], [], S) = rn xX8_carryOut (20, [l0, l1, l2], [vI 0], S) := rn_step dX8_carryOut_19 rfl rfl
theorem eX8_carryOut_20 {a : Int} {w : Option Nat} {l1 l2 : Option VV} {S : MM} : rn xX8_carryOut (20, [some (.inr (.inl w)), l1, l2], [vI a], S) = rn xX8_carryOut (21, [some (.inr (.inl w)), some (vI a), l2], [], S) := rn_step dX8_carryOut_20 rfl rfl
theorem eX8_carryOut_21 {a : Option Nat} {l1 l2 : Option VV} {S : MM} : rn xX8_carryOut (21, [some (.inr (.inl a)), l1, l2], [], S) = rn xX8_carryOut (22, [some (.inr (.inl a)), l1, l2], [.inr (.inl a)], S) := rn_step dX8_carryOut_21 rfl rfl
theorem eX8_carryOut_22 {l0 l1 l2 : Option VV} {S : MM} : rn xX8_carryOut (22, [l0, l1, l2], [vR 0], S) = rn xX8_carryOut (25, [l0, l1, l2], [vR 69], S) := q_getR dX8_carryOut_22 rfl ⟨⟨by decide, by decide⟩, by decide⟩ (fun _ => by decide +kernel) kd0
theorem eX8_carryOut_25 {i : Nat} {l0 l1 l2 : Option VV} (h : kd i = 2) {S : MM} : rn xX8_carryOut (25, [l0, l1, l2], [vR i], S) = (fX2_rewind [vR i] S).bind (fun q => rn xX8_carryOut (28, [l0, l1, l2], q.1.toList ++ [], q.2)) := q_callV (n := 0) (as := []) (rest := []) dX8_carryOut_25 rfl rfl rfl rfl h
theorem eX8_carryOut_28 {l0 l1 l2 : Option VV} {S : MM} : rn xX8_carryOut (28, [l0, l1, l2], [], S) = rn xX8_carryOut (29, [l0, l1, l2], [vI 0], S) := rn_step dX8_carryOut_28 rfl rfl
theorem eX8_carryOut_29 {a : Int} {w : Int} {l0 l2 : Option VV} {S : MM} : rn xX8_carryOut (29, [l0, some (vI w), l2], [vI a], S) = rn xX8_carryOut (30, [l0, some (vI w), some (vI a)], [], S) := rn_step dX8_carryOut_29 rfl rfl
theorem eX8_carryOut_30 {a : Int} {l0 l1 : Option VV} {S : MM} : rn xX8_carryOut (30, [l0, l1, some (vI a)], [], S) = rn xX8_carryOut (31, [l0, l1, some (vI a)], [vI a], S) := rn_step dX8_carryOut_30 rfl rfl
theorem eX8_carryOut_31 {l0 l1 l2 : Option VV} {v0 : VV} {S : MM} : rn xX8_carryOut (31, [l0, l1, l2], [v0], S) = rn xX8_carryOut (33, [l0, l1, l2], [vI 80, v0], S) := rn_step dX8_carryOut_31 rfl rfl
theorem eX8_carryOut_33 {a b : Int} {l0 l1 l2 : Option VV} (h : -2147483648 ≤ a ∧ a ≤ 2147483647) (h1 : -2147483648 ≤ b ∧ b ≤ 2147483647) {S : MM} : rn xX8_carryOut (33, [l0, l1, l2], [vI b, vI a], S) = if a < b then rn xX8_carryOut (36, [l0, l1, l2], [], S) else rn xX8_carryOut (80, [l0, l1, l2], [], S) := q_icmp_ge dX8_carryOut_33 (by decide) rfl h h1
theorem eX8_carryOut_36 {a : Option Nat} {l1 l2 : Option VV} {S : MM} : rn xX8_carryOut (36, [some (.inr (.inl a)), l1, l2], [], S) = rn xX8_carryOut (37, [some (.inr (.inl a)), l1, l2], [.inr (.inl a)], S) := rn_step dX8_carryOut_36 rfl rfl
theorem eX8_carryOut_37 {l0 l1 l2 : Option VV} {S : MM} : rn xX8_carryOut (37, [l0, l1, l2], [vR 0], S) = rn xX8_carryOut (40, [l0, l1, l2], [vR 69], S) := q_getR dX8_carryOut_37 rfl ⟨⟨by decide, by decide⟩, by decide⟩ (fun _ => by decide +kernel) kd0
theorem eX8_carryOut_40 {i : Nat} {l0 l1 l2 : Option VV} (h : kd i = 2) {S : MM} : rn xX8_carryOut (40, [l0, l1, l2], [vR i], S) = (fX2_readOrder [vR i] S).bind (fun q => rn xX8_carryOut (43, [l0, l1, l2], q.1.toList ++ [], q.2)) := q_callV (n := 0) (as := []) (rest := []) dX8_carryOut_40 rfl rfl rfl rfl h
theorem eX8_carryOut_43 {a : Int} {l0 l1 l2 : Option VV} (h : -2147483648 ≤ a ∧ a ≤ 2147483647) {S : MM} : rn xX8_carryOut (43, [l0, l1, l2], [vI a], S) = if a = 0 then rn xX8_carryOut (80, [l0, l1, l2], [], S) else rn xX8_carryOut (46, [l0, l1, l2], [], S) := q_if_eq dX8_carryOut_43 (by decide) rfl h
theorem eX8_carryOut_46 {a : Option Nat} {l1 l2 : Option VV} {S : MM} : rn xX8_carryOut (46, [some (.inr (.inl a)), l1, l2], [], S) = rn xX8_carryOut (47, [some (.inr (.inl a)), l1, l2], [.inr (.inl a)], S) := rn_step dX8_carryOut_46 rfl rfl
theorem eX8_carryOut_47 {l0 l1 l2 : Option VV} {S : MM} : rn xX8_carryOut (47, [l0, l1, l2], [vR 0], S) = (fX8_carryOrder [vR 0] S).bind (fun q => rn xX8_carryOut (50, [l0, l1, l2], q.1.toList ++ [], q.2)) := q_callV (n := 0) (as := []) (rest := []) dX8_carryOut_47 rfl rfl rfl rfl kd0
theorem eX8_carryOut_50 {a : Int} {l0 l1 l2 : Option VV} (h : -2147483648 ≤ a ∧ a ≤ 2147483647) {S : MM} : rn xX8_carryOut (50, [l0, l1, l2], [vI a], S) = if a = 0 then rn xX8_carryOut (53, [l0, l1, l2], [], S) else rn xX8_carryOut (56, [l0, l1, l2], [], S) := q_if_ne dX8_carryOut_50 (by decide) rfl h
theorem eX8_carryOut_53 {l0 l1 l2 : Option VV} {S : MM} : rn xX8_carryOut (53, [l0, l1, l2], [], S) = rn xX8_carryOut (80, [l0, l1, l2], [], S) := rn_step dX8_carryOut_53 rfl rfl
theorem eX8_carryOut_56 {a : Int} {w : Option Nat} {l2 : Option VV} {S : MM} : rn xX8_carryOut (56, [some (.inr (.inl w)), some (vI a), l2], [], S) = rn xX8_carryOut (59, [some (.inr (.inl w)), some (vI (a + 1)), l2], [], S) := rn_step dX8_carryOut_56 rfl rfl
theorem eX8_carryOut_59 {a : Option Nat} {l1 l2 : Option VV} {S : MM} : rn xX8_carryOut (59, [some (.inr (.inl a)), l1, l2], [], S) = rn xX8_carryOut (60, [some (.inr (.inl a)), l1, l2], [.inr (.inl a)], S) := rn_step dX8_carryOut_59 rfl rfl
theorem eX8_carryOut_60 {l0 l1 l2 : Option VV} {S : MM} : rn xX8_carryOut (60, [l0, l1, l2], [vR 0], S) = rn xX8_carryOut (63, [l0, l1, l2], [vR 69], S) := q_getR dX8_carryOut_60 rfl ⟨⟨by decide, by decide⟩, by decide⟩ (fun _ => by decide +kernel) kd0
theorem eX8_carryOut_63 {l0 l1 l2 : Option VV} {v0 : VV} {S : MM} : rn xX8_carryOut (63, [l0, l1, l2], [v0], S) = rn xX8_carryOut (65, [l0, l1, l2], [vI 59, v0], S) := rn_step dX8_carryOut_63 rfl rfl
theorem eX8_carryOut_65 {a0 : Int} {i : Nat} {l0 l1 l2 : Option VV} (h : kd i = 2) {S : MM} : rn xX8_carryOut (65, [l0, l1, l2], [vI a0, vR i], S) = (fX2_pass [vR i, vI a0] S).bind (fun q => rn xX8_carryOut (68, [l0, l1, l2], q.1.toList ++ [], q.2)) := q_callV (n := 1) (as := [vI a0]) (rest := []) dX8_carryOut_65 rfl rfl rfl rfl h
theorem eX8_carryOut_68 {a : Int} {l0 l1 l2 : Option VV} (h : -2147483648 ≤ a ∧ a ≤ 2147483647) {S : MM} : rn xX8_carryOut (68, [l0, l1, l2], [vI a], S) = if a = 0 then rn xX8_carryOut (71, [l0, l1, l2], [], S) else rn xX8_carryOut (74, [l0, l1, l2], [], S) := q_if_ne dX8_carryOut_68 (by decide) rfl h
theorem eX8_carryOut_71 {l0 l1 l2 : Option VV} {S : MM} : rn xX8_carryOut (71, [l0, l1, l2], [], S) = rn xX8_carryOut (80, [l0, l1, l2], [], S) := rn_step dX8_carryOut_71 rfl rfl
theorem eX8_carryOut_74 {a : Int} {w : Int} {l0 : Option VV} {S : MM} : rn xX8_carryOut (74, [l0, some (vI w), some (vI a)], [], S) = rn xX8_carryOut (77, [l0, some (vI w), some (vI (a + 1))], [], S) := rn_step dX8_carryOut_74 rfl rfl
theorem eX8_carryOut_77 {l0 l1 l2 : Option VV} {S : MM} : rn xX8_carryOut (77, [l0, l1, l2], [], S) = rn xX8_carryOut (30, [l0, l1, l2], [], S) := rn_step dX8_carryOut_77 rfl rfl
theorem eX8_carryOut_80 {a : Option Nat} {l1 l2 : Option VV} {S : MM} : rn xX8_carryOut (80, [some (.inr (.inl a)), l1, l2], [], S) = rn xX8_carryOut (81, [some (.inr (.inl a)), l1, l2], [.inr (.inl a)], S) := rn_step dX8_carryOut_80 rfl rfl
theorem eX8_carryOut_81 {l0 l1 l2 : Option VV} {S : MM} : rn xX8_carryOut (81, [l0, l1, l2], [vR 0], S) = rn xX8_carryOut (84, [l0, l1, l2], [vR 69], S) := q_getR dX8_carryOut_81 rfl ⟨⟨by decide, by decide⟩, by decide⟩ (fun _ => by decide +kernel) kd0
theorem eX8_carryOut_84 {i : Nat} {l0 l1 l2 : Option VV} (h : kd i = 2) {S : MM} : rn xX8_carryOut (84, [l0, l1, l2], [vR i], S) = (fX2_clear [vR i] S).bind (fun q => rn xX8_carryOut (87, [l0, l1, l2], q.1.toList ++ [], q.2)) := q_callV (n := 0) (as := []) (rest := []) dX8_carryOut_84 rfl rfl rfl rfl h
theorem eX8_carryOut_87 {a : Int} {l0 l2 : Option VV} {S : MM} : rn xX8_carryOut (87, [l0, some (vI a), l2], [], S) = rn xX8_carryOut (88, [l0, some (vI a), l2], [vI a], S) := rn_step dX8_carryOut_87 rfl rfl
theorem eX8_carryOut_88 {z : Int} {l0 l1 l2 : Option VV} {S : MM} : rn xX8_carryOut (88, [l0, l1, l2], [vI z], S) = some (some (vI z), S) := q_retI dX8_carryOut_88 rfl
noncomputable def qlX8_undo : List CE := [(0, 179, 4, 1, fX4_kept), (0, 248, 4, 1, fX4_latest), (1, 57, 0, 3, fX8_isBetween), (0, 251, 6, 2, fX6_copyFrom), (0, 255, 4, 1, fX4_dropLatest)]
noncomputable def xX8_undo : XX := (cX8_undo, fcF fcl8, mcF qlX8_undo, 1)
noncomputable def fX8_undo : FN := fnX xX8_undo 2
set_option maxRecDepth 100000 in
theorem cwX8_undo : Cond.code yX8_undo cX8_undo 2 (some .int) ∈ lw_g := lw_gm 792 (by decide +kernel) (by decide +kernel)
set_option maxRecDepth 100000 in
theorem conX8_undo : Con yX8_undo cX8_undo 2 (some .int) { frames := 6, cells := 0, slots := 0, locals := 135 } fX8_undo := con_of (X := xX8_undo) (own := "LeapStones") (ql := qlX8_undo) (by decide) rfl FOK8 rfl (List.forall_mem_cons.mpr ⟨call_V conX4_kept cwX4_kept (lw_gl _ [536, 528, 529, 27] (by decide +kernel) (by decide +kernel)) (by decide) rfl ⟨by decide, by decide, by decide +kernel⟩ ⟨rfl, rfl⟩ ⟨by decide, by decide⟩ ⟨Nat.le_refl _, Nat.le_refl _⟩, List.forall_mem_cons.mpr ⟨call_V conX4_latest cwX4_latest (lw_gl _ [793, 550, 551, 27] (by decide +kernel) (by decide +kernel)) (by decide) rfl ⟨by decide, by decide, by decide +kernel⟩ ⟨rfl, rfl⟩ ⟨by decide, by decide⟩ ⟨Nat.le_refl _, Nat.le_refl _⟩, List.forall_mem_cons.mpr ⟨call_S conX8_isBetween cwX8_isBetween (lw_gl _ [250, 251, 21] (by decide +kernel) (by decide +kernel)) ⟨by decide, by decide, by decide +kernel⟩ ⟨rfl, rfl⟩ ⟨by decide, by decide⟩ ⟨Nat.le_refl _, Nat.le_refl _⟩, List.forall_mem_cons.mpr ⟨call_V conX6_copyFrom cwX6_copyFrom (lw_gl _ [267, 268, 269, 22] (by decide +kernel) (by decide +kernel)) (by decide) rfl ⟨by decide, by decide, by decide +kernel⟩ ⟨rfl, rfl⟩ ⟨by decide, by decide⟩ ⟨Nat.le_refl _, Nat.le_refl _⟩, List.forall_mem_cons.mpr ⟨call_V conX4_dropLatest cwX4_dropLatest (lw_gl _ [794, 572, 573, 27] (by decide +kernel) (by decide +kernel)) (by decide) rfl ⟨by decide, by decide, by decide +kernel⟩ ⟨rfl, rfl⟩ ⟨by decide, by decide⟩ ⟨Nat.le_refl _, Nat.le_refl _⟩, fun _ h => absurd h List.not_mem_nil⟩⟩⟩⟩⟩) (Or.inr (Or.inl ⟨rfl, rfl⟩))
theorem uX8_undo {i : Nat} {S : MM} : fX8_undo [vR i] S = rn xX8_undo (0, [some (vR i), none], [], S) := rfl
theorem dX8_undo_0 : decode cX8_undo 0 = .ok (.aload_n 0, 1) := by decide +kernel
theorem dX8_undo_1 : decode cX8_undo 1 = .ok (.getfield 25, 3) := by decide +kernel
theorem dX8_undo_4 : decode cX8_undo 4 = .ok (.invokevirtual 179, 3) := by decide +kernel
theorem dX8_undo_7 : decode cX8_undo 7 = .ok (.ifCond .ne 6, 3) := by decide +kernel
theorem dX8_undo_10 : decode cX8_undo 10 = .ok (.bipush (-5), 2) := by decide +kernel
theorem dX8_undo_12 : decode cX8_undo 12 = .ok (.ireturn, 1) := by decide +kernel
theorem dX8_undo_13 : decode cX8_undo 13 = .ok (.aload_n 0, 1) := by decide +kernel
theorem dX8_undo_14 : decode cX8_undo 14 = .ok (.getfield 25, 3) := by decide +kernel
theorem dX8_undo_17 : decode cX8_undo 17 = .ok (.invokevirtual 248, 3) := by decide +kernel
theorem dX8_undo_20 : decode cX8_undo 20 = .ok (.istore_n 1, 1) := by decide +kernel
theorem dX8_undo_21 : decode cX8_undo 21 = .ok (.iload_n 1, 1) := by decide +kernel
theorem dX8_undo_22 : decode cX8_undo 22 = .ok (.iconst 0, 1) := by decide +kernel
theorem dX8_undo_23 : decode cX8_undo 23 = .ok (.aload_n 0, 1) := by decide +kernel
theorem dX8_undo_24 : decode cX8_undo 24 = .ok (.getfield 16, 3) := by decide +kernel
theorem dX8_undo_27 : decode cX8_undo 27 = .ok (.arraylength, 1) := by decide +kernel
theorem dX8_undo_28 : decode cX8_undo 28 = .ok (.iconst 1, 1) := by decide +kernel
theorem dX8_undo_29 : decode cX8_undo 29 = .ok (.isub, 1) := by decide +kernel
theorem dX8_undo_30 : decode cX8_undo 30 = .ok (.invokestatic 57, 3) := by decide +kernel
theorem dX8_undo_33 : decode cX8_undo 33 = .ok (.ifCond .eq 16, 3) := by decide +kernel
theorem dX8_undo_36 : decode cX8_undo 36 = .ok (.aload_n 0, 1) := by decide +kernel
theorem dX8_undo_37 : decode cX8_undo 37 = .ok (.getfield 12, 3) := by decide +kernel
theorem dX8_undo_40 : decode cX8_undo 40 = .ok (.aload_n 0, 1) := by decide +kernel
theorem dX8_undo_41 : decode cX8_undo 41 = .ok (.getfield 16, 3) := by decide +kernel
theorem dX8_undo_44 : decode cX8_undo 44 = .ok (.iload_n 1, 1) := by decide +kernel
theorem dX8_undo_45 : decode cX8_undo 45 = .ok (.aaload, 1) := by decide +kernel
theorem dX8_undo_46 : decode cX8_undo 46 = .ok (.invokevirtual 251, 3) := by decide +kernel
theorem dX8_undo_49 : decode cX8_undo 49 = .ok (.aload_n 0, 1) := by decide +kernel
theorem dX8_undo_50 : decode cX8_undo 50 = .ok (.getfield 25, 3) := by decide +kernel
theorem dX8_undo_53 : decode cX8_undo 53 = .ok (.invokevirtual 255, 3) := by decide +kernel
theorem dX8_undo_56 : decode cX8_undo 56 = .ok (.aload_n 0, 1) := by decide +kernel
theorem dX8_undo_57 : decode cX8_undo 57 = .ok (.getfield 25, 3) := by decide +kernel
theorem dX8_undo_60 : decode cX8_undo 60 = .ok (.invokevirtual 179, 3) := by decide +kernel
theorem dX8_undo_63 : decode cX8_undo 63 = .ok (.ireturn, 1) := by decide +kernel
theorem eX8_undo_0 {a : Option Nat} {l1 : Option VV} {S : MM} : rn xX8_undo (0, [some (.inr (.inl a)), l1], [], S) = rn xX8_undo (1, [some (.inr (.inl a)), l1], [.inr (.inl a)], S) := rn_step dX8_undo_0 rfl rfl
theorem eX8_undo_1 {l0 l1 : Option VV} {S : MM} : rn xX8_undo (1, [l0, l1], [vR 0], S) = rn xX8_undo (4, [l0, l1], [vR 66], S) := q_getR dX8_undo_1 rfl ⟨⟨by decide, by decide⟩, by decide⟩ (fun _ => by decide +kernel) kd0
theorem eX8_undo_4 {i : Nat} {l0 l1 : Option VV} (h : kd i = 4) {S : MM} : rn xX8_undo (4, [l0, l1], [vR i], S) = (fX4_kept [vR i] S).bind (fun q => rn xX8_undo (7, [l0, l1], q.1.toList ++ [], q.2)) := q_callV (n := 0) (as := []) (rest := []) dX8_undo_4 rfl rfl rfl rfl h
theorem eX8_undo_7 {a : Int} {l0 l1 : Option VV} (h : -2147483648 ≤ a ∧ a ≤ 2147483647) {S : MM} : rn xX8_undo (7, [l0, l1], [vI a], S) = if a = 0 then rn xX8_undo (10, [l0, l1], [], S) else rn xX8_undo (13, [l0, l1], [], S) := q_if_ne dX8_undo_7 (by decide) rfl h
theorem eX8_undo_10 {l0 l1 : Option VV} {S : MM} : rn xX8_undo (10, [l0, l1], [], S) = rn xX8_undo (12, [l0, l1], [vI (-5)], S) := rn_step dX8_undo_10 rfl rfl
theorem eX8_undo_12 {z : Int} {l0 l1 : Option VV} {S : MM} : rn xX8_undo (12, [l0, l1], [vI z], S) = some (some (vI z), S) := q_retI dX8_undo_12 rfl
theorem eX8_undo_13 {a : Option Nat} {l1 : Option VV} {S : MM} : rn xX8_undo (13, [some (.inr (.inl a)), l1], [], S) = rn xX8_undo (14, [some (.inr (.inl a)), l1], [.inr (.inl a)], S) := rn_step dX8_undo_13 rfl rfl
theorem eX8_undo_14 {l0 l1 : Option VV} {S : MM} : rn xX8_undo (14, [l0, l1], [vR 0], S) = rn xX8_undo (17, [l0, l1], [vR 66], S) := q_getR dX8_undo_14 rfl ⟨⟨by decide, by decide⟩, by decide⟩ (fun _ => by decide +kernel) kd0
theorem eX8_undo_17 {i : Nat} {l0 l1 : Option VV} (h : kd i = 4) {S : MM} : rn xX8_undo (17, [l0, l1], [vR i], S) = (fX4_latest [vR i] S).bind (fun q => rn xX8_undo (20, [l0, l1], q.1.toList ++ [], q.2)) := q_callV (n := 0) (as := []) (rest := []) dX8_undo_17 rfl rfl rfl rfl h
theorem eX8_undo_20 {a : Int} {w : Option Nat} {l1 : Option VV} {S : MM} : rn xX8_undo (20, [some (.inr (.inl w)), l1], [vI a], S) = rn xX8_undo (21, [some (.inr (.inl w)), some (vI a)], [], S) := rn_step dX8_undo_20 rfl rfl
theorem eX8_undo_21 {a : Int} {l0 : Option VV} {S : MM} : rn xX8_undo (21, [l0, some (vI a)], [], S) = rn xX8_undo (22, [l0, some (vI a)], [vI a], S) := rn_step dX8_undo_21 rfl rfl
theorem eX8_undo_22 {l0 l1 : Option VV} {v0 : VV} {S : MM} : rn xX8_undo (22, [l0, l1], [v0], S) = rn xX8_undo (23, [l0, l1], [vI 0, v0], S) := rn_step dX8_undo_22 rfl rfl
theorem eX8_undo_23 {a : Option Nat} {l1 : Option VV} {v0 v1 : VV} {S : MM} : rn xX8_undo (23, [some (.inr (.inl a)), l1], [v0, v1], S) = rn xX8_undo (24, [some (.inr (.inl a)), l1], [.inr (.inl a), v0, v1], S) := rn_step dX8_undo_23 rfl rfl
theorem eX8_undo_24 {l0 l1 : Option VV} {v1 v2 : VV} {S : MM} : rn xX8_undo (24, [l0, l1], [vR 0, v1, v2], S) = rn xX8_undo (27, [l0, l1], [vR 65, v1, v2], S) := q_getR dX8_undo_24 rfl ⟨⟨by decide, by decide⟩, by decide⟩ (fun _ => by decide +kernel) kd0
theorem eX8_undo_27 {i : Nat} {l0 l1 : Option VV} {v1 v2 : VV} (h : 10 ≤ kd i ∧ kd i ≤ 14) {S : MM} : rn xX8_undo (27, [l0, l1], [vR i, v1, v2], S) = rn xX8_undo (28, [l0, l1], [vI (alen i), v1, v2], S) := q_alen dX8_undo_27 h
theorem eX8_undo_27x {l0 l1 : Option VV} {v1 v2 : VV} {S : MM} : rn xX8_undo (27, [l0, l1], [vR 602, v1, v2], S) = rn xX8_undo (28, [l0, l1], [vI (S 604 0), v1, v2], S) := q_alenX dX8_undo_27
theorem eX8_undo_27y {l0 l1 : Option VV} {v1 v2 : VV} {S : MM} : rn xX8_undo (27, [l0, l1], [vR 603, v1, v2], S) = rn xX8_undo (28, [l0, l1], [vI (S 604 1), v1, v2], S) := q_alenY dX8_undo_27
theorem eX8_undo_28 {l0 l1 : Option VV} {v0 v1 v2 : VV} {S : MM} : rn xX8_undo (28, [l0, l1], [v0, v1, v2], S) = rn xX8_undo (29, [l0, l1], [vI 1, v0, v1, v2], S) := rn_step dX8_undo_28 rfl rfl
theorem eX8_undo_29 {a b : Int} {l0 l1 : Option VV} {v2 v3 : VV} {S : MM} : rn xX8_undo (29, [l0, l1], [vI b, vI a, v2, v3], S) = rn xX8_undo (30, [l0, l1], [vI (a - b), v2, v3], S) := rn_step dX8_undo_29 rfl rfl
theorem eX8_undo_30 {a0 : Int} {a1 : Int} {a2 : Int} {l0 l1 : Option VV} {S : MM} : rn xX8_undo (30, [l0, l1], [vI a2, vI a1, vI a0], S) = (fX8_isBetween [vI a0, vI a1, vI a2] S).bind (fun q => rn xX8_undo (33, [l0, l1], q.1.toList ++ [], q.2)) := q_callS (n := 3) (as := [vI a0, vI a1, vI a2]) (rest := []) dX8_undo_30 rfl rfl rfl rfl
theorem eX8_undo_33 {a : Int} {l0 l1 : Option VV} (h : -2147483648 ≤ a ∧ a ≤ 2147483647) {S : MM} : rn xX8_undo (33, [l0, l1], [vI a], S) = if a = 0 then rn xX8_undo (49, [l0, l1], [], S) else rn xX8_undo (36, [l0, l1], [], S) := q_if_eq dX8_undo_33 (by decide) rfl h
theorem eX8_undo_36 {a : Option Nat} {l1 : Option VV} {S : MM} : rn xX8_undo (36, [some (.inr (.inl a)), l1], [], S) = rn xX8_undo (37, [some (.inr (.inl a)), l1], [.inr (.inl a)], S) := rn_step dX8_undo_36 rfl rfl
theorem eX8_undo_37 {l0 l1 : Option VV} {S : MM} : rn xX8_undo (37, [l0, l1], [vR 0], S) = rn xX8_undo (40, [l0, l1], [vR 1], S) := q_getR dX8_undo_37 rfl ⟨⟨by decide, by decide⟩, by decide⟩ (fun _ => by decide +kernel) kd0
theorem eX8_undo_40 {a : Option Nat} {l1 : Option VV} {v0 : VV} {S : MM} : rn xX8_undo (40, [some (.inr (.inl a)), l1], [v0], S) = rn xX8_undo (41, [some (.inr (.inl a)), l1], [.inr (.inl a), v0], S) := rn_step dX8_undo_40 rfl rfl
theorem eX8_undo_41 {l0 l1 : Option VV} {v1 : VV} {S : MM} : rn xX8_undo (41, [l0, l1], [vR 0, v1], S) = rn xX8_undo (44, [l0, l1], [vR 65, v1], S) := q_getR dX8_undo_41 rfl ⟨⟨by decide, by decide⟩, by decide⟩ (fun _ => by decide +kernel) kd0
theorem eX8_undo_44 {a : Int} {l0 : Option VV} {v0 v1 : VV} {S : MM} : rn xX8_undo (44, [l0, some (vI a)], [v0, v1], S) = rn xX8_undo (45, [l0, some (vI a)], [vI a, v0, v1], S) := rn_step dX8_undo_44 rfl rfl
theorem eX8_undo_45 {i : Nat} {j : Int} {l0 l1 : Option VV} {v2 : VV} (h : kd i = 13 ∨ kd i = 14) (h0 : 0 ≤ j) (h1 : j < alen i) {S : MM} : rn xX8_undo (45, [l0, l1], [vI j, vR i, v2], S) = rn xX8_undo (46, [l0, l1], [vR (fref i j.toNat), v2], S) := q_aald dX8_undo_45 h h0 h1
theorem eX8_undo_46 {a0 : Option Nat} {i : Nat} {l0 l1 : Option VV} (h : kd i = 6) {S : MM} : rn xX8_undo (46, [l0, l1], [.inr (.inl a0), vR i], S) = (fX6_copyFrom [vR i, .inr (.inl a0)] S).bind (fun q => rn xX8_undo (49, [l0, l1], q.1.toList ++ [], q.2)) := q_callV (n := 1) (as := [.inr (.inl a0)]) (rest := []) dX8_undo_46 rfl rfl rfl rfl h
theorem eX8_undo_49 {a : Option Nat} {l1 : Option VV} {S : MM} : rn xX8_undo (49, [some (.inr (.inl a)), l1], [], S) = rn xX8_undo (50, [some (.inr (.inl a)), l1], [.inr (.inl a)], S) := rn_step dX8_undo_49 rfl rfl
theorem eX8_undo_50 {l0 l1 : Option VV} {S : MM} : rn xX8_undo (50, [l0, l1], [vR 0], S) = rn xX8_undo (53, [l0, l1], [vR 66], S) := q_getR dX8_undo_50 rfl ⟨⟨by decide, by decide⟩, by decide⟩ (fun _ => by decide +kernel) kd0
theorem eX8_undo_53 {i : Nat} {l0 l1 : Option VV} (h : kd i = 4) {S : MM} : rn xX8_undo (53, [l0, l1], [vR i], S) = (fX4_dropLatest [vR i] S).bind (fun q => rn xX8_undo (56, [l0, l1], q.1.toList ++ [], q.2)) := q_callV (n := 0) (as := []) (rest := []) dX8_undo_53 rfl rfl rfl rfl h
theorem eX8_undo_56 {a : Option Nat} {l1 : Option VV} {S : MM} : rn xX8_undo (56, [some (.inr (.inl a)), l1], [], S) = rn xX8_undo (57, [some (.inr (.inl a)), l1], [.inr (.inl a)], S) := rn_step dX8_undo_56 rfl rfl
theorem eX8_undo_57 {l0 l1 : Option VV} {S : MM} : rn xX8_undo (57, [l0, l1], [vR 0], S) = rn xX8_undo (60, [l0, l1], [vR 66], S) := q_getR dX8_undo_57 rfl ⟨⟨by decide, by decide⟩, by decide⟩ (fun _ => by decide +kernel) kd0
theorem eX8_undo_60 {i : Nat} {l0 l1 : Option VV} (h : kd i = 4) {S : MM} : rn xX8_undo (60, [l0, l1], [vR i], S) = (fX4_kept [vR i] S).bind (fun q => rn xX8_undo (63, [l0, l1], q.1.toList ++ [], q.2)) := q_callV (n := 0) (as := []) (rest := []) dX8_undo_60 rfl rfl rfl rfl h
theorem eX8_undo_63 {z : Int} {l0 l1 : Option VV} {S : MM} : rn xX8_undo (63, [l0, l1], [vI z], S) = some (some (vI z), S) := q_retI dX8_undo_63 rfl
noncomputable def qlX8_isSlot : List CE := [(1, 57, 0, 3, fX8_isBetween)]
noncomputable def xX8_isSlot : XX := (cX8_isSlot, fcF fcl8, mcF qlX8_isSlot, 2)
noncomputable def fX8_isSlot : FN := fnX xX8_isSlot 1
set_option maxRecDepth 100000 in
theorem cwX8_isSlot : Cond.code yX8_isSlot cX8_isSlot 1 (some .boolean) ∈ lw_g := lw_gm 871 (by decide +kernel) (by decide +kernel)
set_option maxRecDepth 100000 in
theorem conX8_isSlot : Con yX8_isSlot cX8_isSlot 1 (some .boolean) { frames := 1, cells := 0, slots := 0, locals := 22 } fX8_isSlot := con_of (X := xX8_isSlot) (own := "LeapStones") (ql := qlX8_isSlot) (by decide) rfl FOK8 rfl (List.forall_mem_cons.mpr ⟨call_S conX8_isBetween cwX8_isBetween (lw_gl _ [250, 251, 21] (by decide +kernel) (by decide +kernel)) ⟨by decide, by decide, by decide +kernel⟩ ⟨rfl, rfl⟩ ⟨by decide, by decide⟩ ⟨Nat.le_refl _, Nat.le_refl _⟩, fun _ h => absurd h List.not_mem_nil⟩) (Or.inr (Or.inr (Or.inl ⟨rfl, rfl⟩)))
theorem uX8_isSlot {a0 : Int} {S : MM} : fX8_isSlot [vI a0] S = rn xX8_isSlot (0, [some (vI a0)], [], S) := rfl
theorem dX8_isSlot_0 : decode cX8_isSlot 0 = .ok (.iload_n 0, 1) := by decide +kernel
theorem dX8_isSlot_1 : decode cX8_isSlot 1 = .ok (.iconst 0, 1) := by decide +kernel
theorem dX8_isSlot_2 : decode cX8_isSlot 2 = .ok (.iconst 1, 1) := by decide +kernel
theorem dX8_isSlot_3 : decode cX8_isSlot 3 = .ok (.invokestatic 57, 3) := by decide +kernel
theorem dX8_isSlot_6 : decode cX8_isSlot 6 = .ok (.ireturn, 1) := by decide +kernel
theorem eX8_isSlot_0 {a : Int} {S : MM} : rn xX8_isSlot (0, [some (vI a)], [], S) = rn xX8_isSlot (1, [some (vI a)], [vI a], S) := rn_step dX8_isSlot_0 rfl rfl
theorem eX8_isSlot_1 {l0 : Option VV} {v0 : VV} {S : MM} : rn xX8_isSlot (1, [l0], [v0], S) = rn xX8_isSlot (2, [l0], [vI 0, v0], S) := rn_step dX8_isSlot_1 rfl rfl
theorem eX8_isSlot_2 {l0 : Option VV} {v0 v1 : VV} {S : MM} : rn xX8_isSlot (2, [l0], [v0, v1], S) = rn xX8_isSlot (3, [l0], [vI 1, v0, v1], S) := rn_step dX8_isSlot_2 rfl rfl
theorem eX8_isSlot_3 {a0 : Int} {a1 : Int} {a2 : Int} {l0 : Option VV} {S : MM} : rn xX8_isSlot (3, [l0], [vI a2, vI a1, vI a0], S) = (fX8_isBetween [vI a0, vI a1, vI a2] S).bind (fun q => rn xX8_isSlot (6, [l0], q.1.toList ++ [], q.2)) := q_callS (n := 3) (as := [vI a0, vI a1, vI a2]) (rest := []) dX8_isSlot_3 rfl rfl rfl rfl
theorem eX8_isSlot_6 {z : Int} {l0 : Option VV} (hz : z = 0 ∨ z = 1) {S : MM} : rn xX8_isSlot (6, [l0], [vI z], S) = some (some (vI z), S) := q_retZ dX8_isSlot_6 rfl hz
noncomputable def qlX8_save : List CE := [(1, 258, 0, 1, fX8_isSlot), (0, 251, 6, 2, fX6_copyFrom), (0, 161, 5, 1, fX5_stones)]
noncomputable def xX8_save : XX := (cX8_save, fcF fcl8, mcF qlX8_save, 1)
noncomputable def fX8_save : FN := fnX xX8_save 3
set_option maxRecDepth 100000 in
theorem cwX8_save : Cond.code yX8_save cX8_save 3 (some .int) ∈ lw_g := lw_gm 868 (by decide +kernel) (by decide +kernel)
set_option maxRecDepth 100000 in
theorem conX8_save : Con yX8_save cX8_save 3 (some .int) { frames := 6, cells := 0, slots := 0, locals := 135 } fX8_save := con_of (X := xX8_save) (own := "LeapStones") (ql := qlX8_save) (by decide) rfl FOK8 rfl (List.forall_mem_cons.mpr ⟨call_S conX8_isSlot cwX8_isSlot (lw_gl _ [869, 870, 21] (by decide +kernel) (by decide +kernel)) ⟨by decide, by decide, by decide +kernel⟩ ⟨rfl, rfl⟩ ⟨by decide, by decide⟩ ⟨Nat.le_refl _, Nat.le_refl _⟩, List.forall_mem_cons.mpr ⟨call_V conX6_copyFrom cwX6_copyFrom (lw_gl _ [267, 268, 269, 22] (by decide +kernel) (by decide +kernel)) (by decide) rfl ⟨by decide, by decide, by decide +kernel⟩ ⟨rfl, rfl⟩ ⟨by decide, by decide⟩ ⟨Nat.le_refl _, Nat.le_refl _⟩, List.forall_mem_cons.mpr ⟨call_V conX5_stones cwX5_stones (lw_gl _ [522, 491, 492, 24] (by decide +kernel) (by decide +kernel)) (by decide) rfl ⟨by decide, by decide, by decide +kernel⟩ ⟨rfl, rfl⟩ ⟨by decide, by decide⟩ ⟨Nat.le_refl _, Nat.le_refl _⟩, fun _ h => absurd h List.not_mem_nil⟩⟩⟩) (Or.inr (Or.inl ⟨rfl, rfl⟩))
theorem uX8_save {i : Nat} {a0 : Int} {S : MM} : fX8_save [vR i, vI a0] S = rn xX8_save (0, [some (vR i), some (vI a0), none], [], S) := rfl
theorem dX8_save_0 : decode cX8_save 0 = .ok (.iload_n 1, 1) := by decide +kernel
theorem dX8_save_1 : decode cX8_save 1 = .ok (.invokestatic 258, 3) := by decide +kernel
theorem dX8_save_4 : decode cX8_save 4 = .ok (.ifCond .ne 6, 3) := by decide +kernel
theorem dX8_save_7 : decode cX8_save 7 = .ok (.bipush (-2), 2) := by decide +kernel
theorem dX8_save_9 : decode cX8_save 9 = .ok (.ireturn, 1) := by decide +kernel
theorem dX8_save_10 : decode cX8_save 10 = .ok (.aload_n 0, 1) := by decide +kernel
theorem dX8_save_11 : decode cX8_save 11 = .ok (.getfield 29, 3) := by decide +kernel
theorem dX8_save_14 : decode cX8_save 14 = .ok (.iload_n 1, 1) := by decide +kernel
theorem dX8_save_15 : decode cX8_save 15 = .ok (.aaload, 1) := by decide +kernel
theorem dX8_save_16 : decode cX8_save 16 = .ok (.astore_n 2, 1) := by decide +kernel
theorem dX8_save_17 : decode cX8_save 17 = .ok (.aload_n 2, 1) := by decide +kernel
theorem dX8_save_18 : decode cX8_save 18 = .ok (.ifnull 11, 3) := by decide +kernel
theorem dX8_save_21 : decode cX8_save 21 = .ok (.aload_n 2, 1) := by decide +kernel
theorem dX8_save_22 : decode cX8_save 22 = .ok (.aload_n 0, 1) := by decide +kernel
theorem dX8_save_23 : decode cX8_save 23 = .ok (.getfield 12, 3) := by decide +kernel
theorem dX8_save_26 : decode cX8_save 26 = .ok (.invokevirtual 251, 3) := by decide +kernel
theorem dX8_save_29 : decode cX8_save 29 = .ok (.aload_n 0, 1) := by decide +kernel
theorem dX8_save_30 : decode cX8_save 30 = .ok (.getfield 32, 3) := by decide +kernel
theorem dX8_save_33 : decode cX8_save 33 = .ok (.iload_n 1, 1) := by decide +kernel
theorem dX8_save_34 : decode cX8_save 34 = .ok (.iconst 1, 1) := by decide +kernel
theorem dX8_save_35 : decode cX8_save 35 = .ok (.bastore, 1) := by decide +kernel
theorem dX8_save_36 : decode cX8_save 36 = .ok (.aload_n 0, 1) := by decide +kernel
theorem dX8_save_37 : decode cX8_save 37 = .ok (.getfield 12, 3) := by decide +kernel
theorem dX8_save_40 : decode cX8_save 40 = .ok (.getfield 105, 3) := by decide +kernel
theorem dX8_save_43 : decode cX8_save 43 = .ok (.invokevirtual 161, 3) := by decide +kernel
theorem dX8_save_46 : decode cX8_save 46 = .ok (.ireturn, 1) := by decide +kernel
theorem eX8_save_0 {a : Int} {l0 l2 : Option VV} {S : MM} : rn xX8_save (0, [l0, some (vI a), l2], [], S) = rn xX8_save (1, [l0, some (vI a), l2], [vI a], S) := rn_step dX8_save_0 rfl rfl
theorem eX8_save_1 {a0 : Int} {l0 l1 l2 : Option VV} {S : MM} : rn xX8_save (1, [l0, l1, l2], [vI a0], S) = (fX8_isSlot [vI a0] S).bind (fun q => rn xX8_save (4, [l0, l1, l2], q.1.toList ++ [], q.2)) := q_callS (n := 1) (as := [vI a0]) (rest := []) dX8_save_1 rfl rfl rfl rfl
theorem eX8_save_4 {a : Int} {l0 l1 l2 : Option VV} (h : -2147483648 ≤ a ∧ a ≤ 2147483647) {S : MM} : rn xX8_save (4, [l0, l1, l2], [vI a], S) = if a = 0 then rn xX8_save (7, [l0, l1, l2], [], S) else rn xX8_save (10, [l0, l1, l2], [], S) := q_if_ne dX8_save_4 (by decide) rfl h
theorem eX8_save_7 {l0 l1 l2 : Option VV} {S : MM} : rn xX8_save (7, [l0, l1, l2], [], S) = rn xX8_save (9, [l0, l1, l2], [vI (-2)], S) := rn_step dX8_save_7 rfl rfl
theorem eX8_save_9 {z : Int} {l0 l1 l2 : Option VV} {S : MM} : rn xX8_save (9, [l0, l1, l2], [vI z], S) = some (some (vI z), S) := q_retI dX8_save_9 rfl
theorem eX8_save_10 {a : Option Nat} {l1 l2 : Option VV} {S : MM} : rn xX8_save (10, [some (.inr (.inl a)), l1, l2], [], S) = rn xX8_save (11, [some (.inr (.inl a)), l1, l2], [.inr (.inl a)], S) := rn_step dX8_save_10 rfl rfl
theorem eX8_save_11 {l0 l1 l2 : Option VV} {S : MM} : rn xX8_save (11, [l0, l1, l2], [vR 0], S) = rn xX8_save (14, [l0, l1, l2], [vR 67], S) := q_getR dX8_save_11 rfl ⟨⟨by decide, by decide⟩, by decide⟩ (fun _ => by decide +kernel) kd0
theorem eX8_save_14 {a : Int} {l0 l2 : Option VV} {v0 : VV} {S : MM} : rn xX8_save (14, [l0, some (vI a), l2], [v0], S) = rn xX8_save (15, [l0, some (vI a), l2], [vI a, v0], S) := rn_step dX8_save_14 rfl rfl
theorem eX8_save_15 {i : Nat} {j : Int} {l0 l1 l2 : Option VV} (h : kd i = 13 ∨ kd i = 14) (h0 : 0 ≤ j) (h1 : j < alen i) {S : MM} : rn xX8_save (15, [l0, l1, l2], [vI j, vR i], S) = rn xX8_save (16, [l0, l1, l2], [vR (fref i j.toNat)], S) := q_aald dX8_save_15 h h0 h1
theorem eX8_save_16 {a : Option Nat} {w : Int} {l0 l2 : Option VV} {S : MM} : rn xX8_save (16, [l0, some (vI w), l2], [.inr (.inl a)], S) = rn xX8_save (17, [l0, some (vI w), some (.inr (.inl a))], [], S) := rn_step dX8_save_16 rfl rfl
theorem eX8_save_17 {a : Option Nat} {l0 l1 : Option VV} {S : MM} : rn xX8_save (17, [l0, l1, some (.inr (.inl a))], [], S) = rn xX8_save (18, [l0, l1, some (.inr (.inl a))], [.inr (.inl a)], S) := rn_step dX8_save_17 rfl rfl
theorem eX8_save_18n {l0 l1 l2 : Option VV} {S : MM} : rn xX8_save (18, [l0, l1, l2], [vN], S) = rn xX8_save (29, [l0, l1, l2], [], S) := rn_step dX8_save_18 rfl rfl
theorem eX8_save_18r {i : Nat} {l0 l1 l2 : Option VV} {S : MM} : rn xX8_save (18, [l0, l1, l2], [vR i], S) = rn xX8_save (21, [l0, l1, l2], [], S) := rn_step dX8_save_18 rfl rfl
theorem eX8_save_21 {a : Option Nat} {l0 l1 : Option VV} {S : MM} : rn xX8_save (21, [l0, l1, some (.inr (.inl a))], [], S) = rn xX8_save (22, [l0, l1, some (.inr (.inl a))], [.inr (.inl a)], S) := rn_step dX8_save_21 rfl rfl
theorem eX8_save_22 {a : Option Nat} {l1 l2 : Option VV} {v0 : VV} {S : MM} : rn xX8_save (22, [some (.inr (.inl a)), l1, l2], [v0], S) = rn xX8_save (23, [some (.inr (.inl a)), l1, l2], [.inr (.inl a), v0], S) := rn_step dX8_save_22 rfl rfl
theorem eX8_save_23 {l0 l1 l2 : Option VV} {v1 : VV} {S : MM} : rn xX8_save (23, [l0, l1, l2], [vR 0, v1], S) = rn xX8_save (26, [l0, l1, l2], [vR 1, v1], S) := q_getR dX8_save_23 rfl ⟨⟨by decide, by decide⟩, by decide⟩ (fun _ => by decide +kernel) kd0
theorem eX8_save_26 {a0 : Option Nat} {i : Nat} {l0 l1 l2 : Option VV} (h : kd i = 6) {S : MM} : rn xX8_save (26, [l0, l1, l2], [.inr (.inl a0), vR i], S) = (fX6_copyFrom [vR i, .inr (.inl a0)] S).bind (fun q => rn xX8_save (29, [l0, l1, l2], q.1.toList ++ [], q.2)) := q_callV (n := 1) (as := [.inr (.inl a0)]) (rest := []) dX8_save_26 rfl rfl rfl rfl h
theorem eX8_save_29 {a : Option Nat} {l1 l2 : Option VV} {S : MM} : rn xX8_save (29, [some (.inr (.inl a)), l1, l2], [], S) = rn xX8_save (30, [some (.inr (.inl a)), l1, l2], [.inr (.inl a)], S) := rn_step dX8_save_29 rfl rfl
theorem eX8_save_30 {l0 l1 l2 : Option VV} {S : MM} : rn xX8_save (30, [l0, l1, l2], [vR 0], S) = rn xX8_save (33, [l0, l1, l2], [vR 68], S) := q_getR dX8_save_30 rfl ⟨⟨by decide, by decide⟩, by decide⟩ (fun _ => by decide +kernel) kd0
theorem eX8_save_33 {a : Int} {l0 l2 : Option VV} {v0 : VV} {S : MM} : rn xX8_save (33, [l0, some (vI a), l2], [v0], S) = rn xX8_save (34, [l0, some (vI a), l2], [vI a, v0], S) := rn_step dX8_save_33 rfl rfl
theorem eX8_save_34 {l0 l1 l2 : Option VV} {v0 v1 : VV} {S : MM} : rn xX8_save (34, [l0, l1, l2], [v0, v1], S) = rn xX8_save (35, [l0, l1, l2], [vI 1, v0, v1], S) := rn_step dX8_save_34 rfl rfl
theorem eX8_save_35 {i : Nat} {j z : Int} {l0 l1 l2 : Option VV} (h : kd i = 11) (h0 : 0 ≤ j) (h1 : j < alen i) (hz : z = 0 ∨ z = 1) {S : MM} : rn xX8_save (35, [l0, l1, l2], [vI z, vI j, vR i], S) = rn xX8_save (36, [l0, l1, l2], [], updM S i j.toNat z) := q_bast dX8_save_35 h h0 h1 hz
theorem eX8_save_36 {a : Option Nat} {l1 l2 : Option VV} {S : MM} : rn xX8_save (36, [some (.inr (.inl a)), l1, l2], [], S) = rn xX8_save (37, [some (.inr (.inl a)), l1, l2], [.inr (.inl a)], S) := rn_step dX8_save_36 rfl rfl
theorem eX8_save_37 {l0 l1 l2 : Option VV} {S : MM} : rn xX8_save (37, [l0, l1, l2], [vR 0], S) = rn xX8_save (40, [l0, l1, l2], [vR 1], S) := q_getR dX8_save_37 rfl ⟨⟨by decide, by decide⟩, by decide⟩ (fun _ => by decide +kernel) kd0
theorem eX8_save_40 {i : Nat} {l0 l1 l2 : Option VV} (h : kd i = 6) {S : MM} : rn xX8_save (40, [l0, l1, l2], [vR i], S) = rn xX8_save (43, [l0, l1, l2], [vR (i + 3)], S) := q_getR dX8_save_40 rfl ⟨⟨by decide, by decide⟩, by decide⟩ (fun h => (fref6 h).trans (by first | rfl | omega)) h
theorem eX8_save_43 {i : Nat} {l0 l1 l2 : Option VV} (h : kd i = 5) {S : MM} : rn xX8_save (43, [l0, l1, l2], [vR i], S) = (fX5_stones [vR i] S).bind (fun q => rn xX8_save (46, [l0, l1, l2], q.1.toList ++ [], q.2)) := q_callV (n := 0) (as := []) (rest := []) dX8_save_43 rfl rfl rfl rfl h
theorem eX8_save_46 {z : Int} {l0 l1 l2 : Option VV} {S : MM} : rn xX8_save (46, [l0, l1, l2], [vI z], S) = some (some (vI z), S) := q_retI dX8_save_46 rfl
noncomputable def qlX8_restore : List CE := [(1, 258, 0, 1, fX8_isSlot), (0, 65, 8, 1, fX8_remember), (0, 251, 6, 2, fX6_copyFrom), (0, 161, 5, 1, fX5_stones)]
noncomputable def xX8_restore : XX := (cX8_restore, fcF fcl8, mcF qlX8_restore, 1)
noncomputable def fX8_restore : FN := fnX xX8_restore 2
set_option maxRecDepth 100000 in
theorem cwX8_restore : Cond.code yX8_restore cX8_restore 2 (some .int) ∈ lw_g := lw_gm 875 (by decide +kernel) (by decide +kernel)
set_option maxRecDepth 100000 in
theorem conX8_restore : Con yX8_restore cX8_restore 2 (some .int) { frames := 7, cells := 0, slots := 0, locals := 157 } fX8_restore := con_of (X := xX8_restore) (own := "LeapStones") (ql := qlX8_restore) (by decide) rfl FOK8 rfl (List.forall_mem_cons.mpr ⟨call_S conX8_isSlot cwX8_isSlot (lw_gl _ [869, 870, 21] (by decide +kernel) (by decide +kernel)) ⟨by decide, by decide, by decide +kernel⟩ ⟨rfl, rfl⟩ ⟨by decide, by decide⟩ ⟨Nat.le_refl _, Nat.le_refl _⟩, List.forall_mem_cons.mpr ⟨call_V conX8_remember cwX8_remember (lw_gl _ [256, 258, 0, 21] (by decide +kernel) (by decide +kernel)) (by decide) rfl ⟨by decide, by decide, by decide +kernel⟩ ⟨rfl, rfl⟩ ⟨by decide, by decide⟩ ⟨Nat.le_refl _, Nat.le_refl _⟩, List.forall_mem_cons.mpr ⟨call_V conX6_copyFrom cwX6_copyFrom (lw_gl _ [267, 268, 269, 22] (by decide +kernel) (by decide +kernel)) (by decide) rfl ⟨by decide, by decide, by decide +kernel⟩ ⟨rfl, rfl⟩ ⟨by decide, by decide⟩ ⟨Nat.le_refl _, Nat.le_refl _⟩, List.forall_mem_cons.mpr ⟨call_V conX5_stones cwX5_stones (lw_gl _ [522, 491, 492, 24] (by decide +kernel) (by decide +kernel)) (by decide) rfl ⟨by decide, by decide, by decide +kernel⟩ ⟨rfl, rfl⟩ ⟨by decide, by decide⟩ ⟨Nat.le_refl _, Nat.le_refl _⟩, fun _ h => absurd h List.not_mem_nil⟩⟩⟩⟩) (Or.inr (Or.inl ⟨rfl, rfl⟩))
theorem uX8_restore {i : Nat} {a0 : Int} {S : MM} : fX8_restore [vR i, vI a0] S = rn xX8_restore (0, [some (vR i), some (vI a0)], [], S) := rfl
theorem dX8_restore_0 : decode cX8_restore 0 = .ok (.iload_n 1, 1) := by decide +kernel
theorem dX8_restore_1 : decode cX8_restore 1 = .ok (.invokestatic 258, 3) := by decide +kernel
theorem dX8_restore_4 : decode cX8_restore 4 = .ok (.ifCond .ne 6, 3) := by decide +kernel
theorem dX8_restore_7 : decode cX8_restore 7 = .ok (.bipush (-2), 2) := by decide +kernel
theorem dX8_restore_9 : decode cX8_restore 9 = .ok (.ireturn, 1) := by decide +kernel
theorem dX8_restore_10 : decode cX8_restore 10 = .ok (.aload_n 0, 1) := by decide +kernel
theorem dX8_restore_11 : decode cX8_restore 11 = .ok (.getfield 32, 3) := by decide +kernel
theorem dX8_restore_14 : decode cX8_restore 14 = .ok (.iload_n 1, 1) := by decide +kernel
theorem dX8_restore_15 : decode cX8_restore 15 = .ok (.baload, 1) := by decide +kernel
theorem dX8_restore_16 : decode cX8_restore 16 = .ok (.ifCond .ne 6, 3) := by decide +kernel
theorem dX8_restore_19 : decode cX8_restore 19 = .ok (.bipush (-5), 2) := by decide +kernel
theorem dX8_restore_21 : decode cX8_restore 21 = .ok (.ireturn, 1) := by decide +kernel
theorem dX8_restore_22 : decode cX8_restore 22 = .ok (.aload_n 0, 1) := by decide +kernel
theorem dX8_restore_23 : decode cX8_restore 23 = .ok (.invokevirtual 65, 3) := by decide +kernel
theorem dX8_restore_26 : decode cX8_restore 26 = .ok (.aload_n 0, 1) := by decide +kernel
theorem dX8_restore_27 : decode cX8_restore 27 = .ok (.getfield 12, 3) := by decide +kernel
theorem dX8_restore_30 : decode cX8_restore 30 = .ok (.aload_n 0, 1) := by decide +kernel
theorem dX8_restore_31 : decode cX8_restore 31 = .ok (.getfield 29, 3) := by decide +kernel
theorem dX8_restore_34 : decode cX8_restore 34 = .ok (.iload_n 1, 1) := by decide +kernel
theorem dX8_restore_35 : decode cX8_restore 35 = .ok (.aaload, 1) := by decide +kernel
theorem dX8_restore_36 : decode cX8_restore 36 = .ok (.invokevirtual 251, 3) := by decide +kernel
theorem dX8_restore_39 : decode cX8_restore 39 = .ok (.aload_n 0, 1) := by decide +kernel
theorem dX8_restore_40 : decode cX8_restore 40 = .ok (.getfield 12, 3) := by decide +kernel
theorem dX8_restore_43 : decode cX8_restore 43 = .ok (.getfield 105, 3) := by decide +kernel
theorem dX8_restore_46 : decode cX8_restore 46 = .ok (.invokevirtual 161, 3) := by decide +kernel
theorem dX8_restore_49 : decode cX8_restore 49 = .ok (.ireturn, 1) := by decide +kernel
theorem eX8_restore_0 {a : Int} {l0 : Option VV} {S : MM} : rn xX8_restore (0, [l0, some (vI a)], [], S) = rn xX8_restore (1, [l0, some (vI a)], [vI a], S) := rn_step dX8_restore_0 rfl rfl
theorem eX8_restore_1 {a0 : Int} {l0 l1 : Option VV} {S : MM} : rn xX8_restore (1, [l0, l1], [vI a0], S) = (fX8_isSlot [vI a0] S).bind (fun q => rn xX8_restore (4, [l0, l1], q.1.toList ++ [], q.2)) := q_callS (n := 1) (as := [vI a0]) (rest := []) dX8_restore_1 rfl rfl rfl rfl
theorem eX8_restore_4 {a : Int} {l0 l1 : Option VV} (h : -2147483648 ≤ a ∧ a ≤ 2147483647) {S : MM} : rn xX8_restore (4, [l0, l1], [vI a], S) = if a = 0 then rn xX8_restore (7, [l0, l1], [], S) else rn xX8_restore (10, [l0, l1], [], S) := q_if_ne dX8_restore_4 (by decide) rfl h
theorem eX8_restore_7 {l0 l1 : Option VV} {S : MM} : rn xX8_restore (7, [l0, l1], [], S) = rn xX8_restore (9, [l0, l1], [vI (-2)], S) := rn_step dX8_restore_7 rfl rfl
theorem eX8_restore_9 {z : Int} {l0 l1 : Option VV} {S : MM} : rn xX8_restore (9, [l0, l1], [vI z], S) = some (some (vI z), S) := q_retI dX8_restore_9 rfl
theorem eX8_restore_10 {a : Option Nat} {l1 : Option VV} {S : MM} : rn xX8_restore (10, [some (.inr (.inl a)), l1], [], S) = rn xX8_restore (11, [some (.inr (.inl a)), l1], [.inr (.inl a)], S) := rn_step dX8_restore_10 rfl rfl
theorem eX8_restore_11 {l0 l1 : Option VV} {S : MM} : rn xX8_restore (11, [l0, l1], [vR 0], S) = rn xX8_restore (14, [l0, l1], [vR 68], S) := q_getR dX8_restore_11 rfl ⟨⟨by decide, by decide⟩, by decide⟩ (fun _ => by decide +kernel) kd0
theorem eX8_restore_14 {a : Int} {l0 : Option VV} {v0 : VV} {S : MM} : rn xX8_restore (14, [l0, some (vI a)], [v0], S) = rn xX8_restore (15, [l0, some (vI a)], [vI a, v0], S) := rn_step dX8_restore_14 rfl rfl
theorem eX8_restore_15 {i : Nat} {j : Int} {l0 l1 : Option VV} (h : kd i = 11) (h0 : 0 ≤ j) (h1 : j < alen i) {S : MM} : rn xX8_restore (15, [l0, l1], [vI j, vR i], S) = rn xX8_restore (16, [l0, l1], [vI (S i j.toNat)], S) := q_bald dX8_restore_15 h h0 h1
theorem eX8_restore_16 {a : Int} {l0 l1 : Option VV} (h : -2147483648 ≤ a ∧ a ≤ 2147483647) {S : MM} : rn xX8_restore (16, [l0, l1], [vI a], S) = if a = 0 then rn xX8_restore (19, [l0, l1], [], S) else rn xX8_restore (22, [l0, l1], [], S) := q_if_ne dX8_restore_16 (by decide) rfl h
theorem eX8_restore_19 {l0 l1 : Option VV} {S : MM} : rn xX8_restore (19, [l0, l1], [], S) = rn xX8_restore (21, [l0, l1], [vI (-5)], S) := rn_step dX8_restore_19 rfl rfl
theorem eX8_restore_21 {z : Int} {l0 l1 : Option VV} {S : MM} : rn xX8_restore (21, [l0, l1], [vI z], S) = some (some (vI z), S) := q_retI dX8_restore_21 rfl
theorem eX8_restore_22 {a : Option Nat} {l1 : Option VV} {S : MM} : rn xX8_restore (22, [some (.inr (.inl a)), l1], [], S) = rn xX8_restore (23, [some (.inr (.inl a)), l1], [.inr (.inl a)], S) := rn_step dX8_restore_22 rfl rfl
theorem eX8_restore_23 {l0 l1 : Option VV} {S : MM} : rn xX8_restore (23, [l0, l1], [vR 0], S) = (fX8_remember [vR 0] S).bind (fun q => rn xX8_restore (26, [l0, l1], q.1.toList ++ [], q.2)) := q_callV (n := 0) (as := []) (rest := []) dX8_restore_23 rfl rfl rfl rfl kd0
theorem eX8_restore_26 {a : Option Nat} {l1 : Option VV} {S : MM} : rn xX8_restore (26, [some (.inr (.inl a)), l1], [], S) = rn xX8_restore (27, [some (.inr (.inl a)), l1], [.inr (.inl a)], S) := rn_step dX8_restore_26 rfl rfl
theorem eX8_restore_27 {l0 l1 : Option VV} {S : MM} : rn xX8_restore (27, [l0, l1], [vR 0], S) = rn xX8_restore (30, [l0, l1], [vR 1], S) := q_getR dX8_restore_27 rfl ⟨⟨by decide, by decide⟩, by decide⟩ (fun _ => by decide +kernel) kd0
theorem eX8_restore_30 {a : Option Nat} {l1 : Option VV} {v0 : VV} {S : MM} : rn xX8_restore (30, [some (.inr (.inl a)), l1], [v0], S) = rn xX8_restore (31, [some (.inr (.inl a)), l1], [.inr (.inl a), v0], S) := rn_step dX8_restore_30 rfl rfl
theorem eX8_restore_31 {l0 l1 : Option VV} {v1 : VV} {S : MM} : rn xX8_restore (31, [l0, l1], [vR 0, v1], S) = rn xX8_restore (34, [l0, l1], [vR 67, v1], S) := q_getR dX8_restore_31 rfl ⟨⟨by decide, by decide⟩, by decide⟩ (fun _ => by decide +kernel) kd0
theorem eX8_restore_34 {a : Int} {l0 : Option VV} {v0 v1 : VV} {S : MM} : rn xX8_restore (34, [l0, some (vI a)], [v0, v1], S) = rn xX8_restore (35, [l0, some (vI a)], [vI a, v0, v1], S) := rn_step dX8_restore_34 rfl rfl
theorem eX8_restore_35 {i : Nat} {j : Int} {l0 l1 : Option VV} {v2 : VV} (h : kd i = 13 ∨ kd i = 14) (h0 : 0 ≤ j) (h1 : j < alen i) {S : MM} : rn xX8_restore (35, [l0, l1], [vI j, vR i, v2], S) = rn xX8_restore (36, [l0, l1], [vR (fref i j.toNat), v2], S) := q_aald dX8_restore_35 h h0 h1
theorem eX8_restore_36 {a0 : Option Nat} {i : Nat} {l0 l1 : Option VV} (h : kd i = 6) {S : MM} : rn xX8_restore (36, [l0, l1], [.inr (.inl a0), vR i], S) = (fX6_copyFrom [vR i, .inr (.inl a0)] S).bind (fun q => rn xX8_restore (39, [l0, l1], q.1.toList ++ [], q.2)) := q_callV (n := 1) (as := [.inr (.inl a0)]) (rest := []) dX8_restore_36 rfl rfl rfl rfl h
theorem eX8_restore_39 {a : Option Nat} {l1 : Option VV} {S : MM} : rn xX8_restore (39, [some (.inr (.inl a)), l1], [], S) = rn xX8_restore (40, [some (.inr (.inl a)), l1], [.inr (.inl a)], S) := rn_step dX8_restore_39 rfl rfl
theorem eX8_restore_40 {l0 l1 : Option VV} {S : MM} : rn xX8_restore (40, [l0, l1], [vR 0], S) = rn xX8_restore (43, [l0, l1], [vR 1], S) := q_getR dX8_restore_40 rfl ⟨⟨by decide, by decide⟩, by decide⟩ (fun _ => by decide +kernel) kd0
theorem eX8_restore_43 {i : Nat} {l0 l1 : Option VV} (h : kd i = 6) {S : MM} : rn xX8_restore (43, [l0, l1], [vR i], S) = rn xX8_restore (46, [l0, l1], [vR (i + 3)], S) := q_getR dX8_restore_43 rfl ⟨⟨by decide, by decide⟩, by decide⟩ (fun h => (fref6 h).trans (by first | rfl | omega)) h
theorem eX8_restore_46 {i : Nat} {l0 l1 : Option VV} (h : kd i = 5) {S : MM} : rn xX8_restore (46, [l0, l1], [vR i], S) = (fX5_stones [vR i] S).bind (fun q => rn xX8_restore (49, [l0, l1], q.1.toList ++ [], q.2)) := q_callV (n := 0) (as := []) (rest := []) dX8_restore_46 rfl rfl rfl rfl h
theorem eX8_restore_49 {z : Int} {l0 l1 : Option VV} {S : MM} : rn xX8_restore (49, [l0, l1], [vI z], S) = some (some (vI z), S) := q_retI dX8_restore_49 rfl

/-! the law's own methods -/
def fclL : List (Nat × Nat × Nat) := [(48, 98, 7), (53, 98, 31), (7, 96, 73244475), (8, 96, 2147483647), (144, 96, 1000000000)]
set_option maxRecDepth 100000 in
theorem FOKL : FOK "LeapStonesLaw" (fcF fclL) := FOK_of (List.forall_mem_cons.mpr ⟨⟨fun h => absurd h (by decide), fun h => absurd h (by decide), fun _ => ⟨by decide, lw_gm 747 (by decide +kernel) (by decide +kernel)⟩, fun h => absurd h (by decide)⟩, List.forall_mem_cons.mpr ⟨⟨fun h => absurd h (by decide), fun h => absurd h (by decide), fun _ => ⟨by decide, lw_gm 748 (by decide +kernel) (by decide +kernel)⟩, fun h => absurd h (by decide)⟩, List.forall_mem_cons.mpr ⟨⟨fun h => absurd h (by decide), fun h => absurd h (by decide), fun h => absurd h (by decide), fun _ => lw_gm 378 (by decide +kernel) (by decide +kernel)⟩, List.forall_mem_cons.mpr ⟨⟨fun h => absurd h (by decide), fun h => absurd h (by decide), fun h => absurd h (by decide), fun _ => lw_gm 382 (by decide +kernel) (by decide +kernel)⟩, List.forall_mem_cons.mpr ⟨⟨fun h => absurd h (by decide), fun h => absurd h (by decide), fun h => absurd h (by decide), fun _ => lw_gm 879 (by decide +kernel) (by decide +kernel)⟩, fun _ h => absurd h List.not_mem_nil⟩⟩⟩⟩⟩)
noncomputable def qlL_up : List CE := []
noncomputable def xL_up : XX := (cL_up, fcF fclL, mcF qlL_up, 1)
noncomputable def fL_up : FN := fnX xL_up 2
set_option maxRecDepth 100000 in
theorem cwL_up : Cond.code yL_up cL_up 2 (some .int) ∈ lw_g := lw_gm 381 (by exact rfl) (by decide +kernel)
set_option maxRecDepth 100000 in
theorem conL_up : Con yL_up cL_up 2 (some .int) { frames := 0, cells := 0, slots := 0, locals := 0 } fL_up := con_of (X := xL_up) (own := "LeapStonesLaw") (ql := qlL_up) (by decide) rfl FOKL rfl (fun _ h => absurd h List.not_mem_nil) (Or.inr (Or.inl ⟨rfl, rfl⟩))
theorem uL_up {a0 : Int} {a1 : Int} {S : MM} : fL_up [vI a0, vI a1] S = rn xL_up (0, [some (vI a0), some (vI a1)], [], S) := rfl
theorem dL_up_0 : decode cL_up 0 = .ok (.iload_n 0, 1) := by decide +kernel
theorem dL_up_1 : decode cL_up 1 = .ok (.ldc 8, 2) := by decide +kernel
theorem dL_up_3 : decode cL_up 3 = .ok (.iand, 1) := by decide +kernel
theorem dL_up_4 : decode cL_up 4 = .ok (.iload_n 1, 1) := by decide +kernel
theorem dL_up_5 : decode cL_up 5 = .ok (.irem, 1) := by decide +kernel
theorem dL_up_6 : decode cL_up 6 = .ok (.ireturn, 1) := by decide +kernel
set_option maxRecDepth 100000 in
theorem eL_up_0 {a : Int} {l1 : Option VV} {S : MM} : rn xL_up (0, [some (vI a), l1], [], S) = rn xL_up (1, [some (vI a), l1], [vI a], S) := rn_step dL_up_0 rfl rfl
set_option maxRecDepth 100000 in
theorem eL_up_1 {l0 l1 : Option VV} {v0 : VV} {S : MM} : rn xL_up (1, [l0, l1], [v0], S) = rn xL_up (3, [l0, l1], [vI 2147483647, v0], S) := q_ldc dL_up_1 rfl
set_option maxRecDepth 100000 in
theorem eL_up_3 {a : Int} {l0 l1 : Option VV} {S : MM} : rn xL_up (3, [l0, l1], [vI 2147483647, vI a], S) = rn xL_up (4, [l0, l1], [vI (a % 2147483648)], S) := q_iandM dL_up_3
set_option maxRecDepth 100000 in
theorem eL_up_4 {a : Int} {l0 : Option VV} {v0 : VV} {S : MM} : rn xL_up (4, [l0, some (vI a)], [v0], S) = rn xL_up (5, [l0, some (vI a)], [vI a, v0], S) := rn_step dL_up_4 rfl rfl
set_option maxRecDepth 100000 in
theorem eL_up_5 {a b : Int} {l0 l1 : Option VV} (h0 : 0 ≤ a) (h1 : a ≤ 2147483647) (h2 : 0 < b) (h3 : b ≤ 2147483647) {S : MM} : rn xL_up (5, [l0, l1], [vI b, vI a], S) = rn xL_up (6, [l0, l1], [vI (a % b)], S) := q_irem dL_up_5 ⟨h2, h3⟩ h0 h1
set_option maxRecDepth 100000 in
theorem eL_up_6 {z : Int} {l0 l1 : Option VV} {S : MM} : rn xL_up (6, [l0, l1], [vI z], S) = some (some (vI z), S) := q_retI dL_up_6 rfl
noncomputable def qlL_cell : List CE := []
noncomputable def xL_cell : XX := (cL_cell, fcF fclL, mcF qlL_cell, 1)
noncomputable def fL_cell : FN := fnX xL_cell 2
set_option maxRecDepth 100000 in
theorem cwL_cell : Cond.code yL_cell cL_cell 2 (some .int) ∈ lw_g := lw_gm 377 (by exact rfl) (by decide +kernel)
set_option maxRecDepth 100000 in
theorem conL_cell : Con yL_cell cL_cell 2 (some .int) { frames := 0, cells := 0, slots := 0, locals := 0 } fL_cell := con_of (X := xL_cell) (own := "LeapStonesLaw") (ql := qlL_cell) (by decide) rfl FOKL rfl (fun _ h => absurd h List.not_mem_nil) (Or.inr (Or.inl ⟨rfl, rfl⟩))
theorem uL_cell {a0 : Option Nat} {a1 : Int} {S : MM} : fL_cell [.inr (.inl a0), vI a1] S = rn xL_cell (0, [some (.inr (.inl a0)), some (vI a1)], [], S) := rfl
theorem dL_cell_0 : decode cL_cell 0 = .ok (.iload_n 1, 1) := by decide +kernel
theorem dL_cell_1 : decode cL_cell 1 = .ok (.aload_n 0, 1) := by decide +kernel
theorem dL_cell_2 : decode cL_cell 2 = .ok (.arraylength, 1) := by decide +kernel
theorem dL_cell_3 : decode cL_cell 3 = .ok (.if_icmp .ge 9, 3) := by decide +kernel
theorem dL_cell_6 : decode cL_cell 6 = .ok (.aload_n 0, 1) := by decide +kernel
theorem dL_cell_7 : decode cL_cell 7 = .ok (.iload_n 1, 1) := by decide +kernel
theorem dL_cell_8 : decode cL_cell 8 = .ok (.iaload, 1) := by decide +kernel
theorem dL_cell_9 : decode cL_cell 9 = .ok (.goto 11, 3) := by decide +kernel
theorem dL_cell_12 : decode cL_cell 12 = .ok (.ldc 7, 2) := by decide +kernel
theorem dL_cell_14 : decode cL_cell 14 = .ok (.iload_n 1, 1) := by decide +kernel
theorem dL_cell_15 : decode cL_cell 15 = .ok (.sipush 1619, 3) := by decide +kernel
theorem dL_cell_18 : decode cL_cell 18 = .ok (.iadd, 1) := by decide +kernel
theorem dL_cell_19 : decode cL_cell 19 = .ok (.imul, 1) := by decide +kernel
theorem dL_cell_20 : decode cL_cell 20 = .ok (.ireturn, 1) := by decide +kernel
set_option maxRecDepth 100000 in
theorem eL_cell_0 {a : Int} {l0 : Option VV} {S : MM} : rn xL_cell (0, [l0, some (vI a)], [], S) = rn xL_cell (1, [l0, some (vI a)], [vI a], S) := rn_step dL_cell_0 rfl rfl
set_option maxRecDepth 100000 in
theorem eL_cell_1 {a : Option Nat} {l1 : Option VV} {v0 : VV} {S : MM} : rn xL_cell (1, [some (.inr (.inl a)), l1], [v0], S) = rn xL_cell (2, [some (.inr (.inl a)), l1], [.inr (.inl a), v0], S) := rn_step dL_cell_1 rfl rfl
set_option maxRecDepth 100000 in
theorem eL_cell_2 {i : Nat} {l0 l1 : Option VV} {v1 : VV} (h : 10 ≤ kd i ∧ kd i ≤ 14) {S : MM} : rn xL_cell (2, [l0, l1], [vR i, v1], S) = rn xL_cell (3, [l0, l1], [vI (alen i), v1], S) := q_alen dL_cell_2 h
set_option maxRecDepth 100000 in
theorem eL_cell_2x {l0 l1 : Option VV} {v1 : VV} {S : MM} : rn xL_cell (2, [l0, l1], [vR 602, v1], S) = rn xL_cell (3, [l0, l1], [vI (S 604 0), v1], S) := q_alenX dL_cell_2
set_option maxRecDepth 100000 in
theorem eL_cell_2y {l0 l1 : Option VV} {v1 : VV} {S : MM} : rn xL_cell (2, [l0, l1], [vR 603, v1], S) = rn xL_cell (3, [l0, l1], [vI (S 604 1), v1], S) := q_alenY dL_cell_2
set_option maxRecDepth 100000 in
theorem eL_cell_3 {a b : Int} {l0 l1 : Option VV} (h : -2147483648 ≤ a ∧ a ≤ 2147483647) (h1 : -2147483648 ≤ b ∧ b ≤ 2147483647) {S : MM} : rn xL_cell (3, [l0, l1], [vI b, vI a], S) = if a < b then rn xL_cell (6, [l0, l1], [], S) else rn xL_cell (12, [l0, l1], [], S) := q_icmp_ge dL_cell_3 (by decide) rfl h h1
set_option maxRecDepth 100000 in
theorem eL_cell_6 {a : Option Nat} {l1 : Option VV} {S : MM} : rn xL_cell (6, [some (.inr (.inl a)), l1], [], S) = rn xL_cell (7, [some (.inr (.inl a)), l1], [.inr (.inl a)], S) := rn_step dL_cell_6 rfl rfl
set_option maxRecDepth 100000 in
theorem eL_cell_7 {a : Int} {l0 : Option VV} {v0 : VV} {S : MM} : rn xL_cell (7, [l0, some (vI a)], [v0], S) = rn xL_cell (8, [l0, some (vI a)], [vI a, v0], S) := rn_step dL_cell_7 rfl rfl
set_option maxRecDepth 100000 in
theorem eL_cell_8 {i : Nat} {j : Int} {l0 l1 : Option VV} (h : kd i = 10) (h0 : 0 ≤ j) (h1 : j < alen i) {S : MM} : rn xL_cell (8, [l0, l1], [vI j, vR i], S) = rn xL_cell (9, [l0, l1], [vI (S i j.toNat)], S) := q_iald dL_cell_8 h h0 h1
set_option maxRecDepth 100000 in
theorem eL_cell_8x {j : Int} {l0 l1 : Option VV} {S : MM} (h0 : 0 ≤ j) (h1 : j < S 604 0) : rn xL_cell (8, [l0, l1], [vI j, vR 602], S) = rn xL_cell (9, [l0, l1], [vI (S 602 j.toNat)], S) := q_ialdX dL_cell_8 h0 h1
set_option maxRecDepth 100000 in
theorem eL_cell_8y {j : Int} {l0 l1 : Option VV} {S : MM} (h0 : 0 ≤ j) (h1 : j < S 604 1) : rn xL_cell (8, [l0, l1], [vI j, vR 603], S) = rn xL_cell (9, [l0, l1], [vI (S 603 j.toNat)], S) := q_ialdY dL_cell_8 h0 h1
set_option maxRecDepth 100000 in
theorem eL_cell_9 {l0 l1 : Option VV} {v0 : VV} {S : MM} : rn xL_cell (9, [l0, l1], [v0], S) = rn xL_cell (20, [l0, l1], [v0], S) := rn_step dL_cell_9 rfl rfl
set_option maxRecDepth 100000 in
theorem eL_cell_12 {l0 l1 : Option VV} {S : MM} : rn xL_cell (12, [l0, l1], [], S) = rn xL_cell (14, [l0, l1], [vI 73244475], S) := q_ldc dL_cell_12 rfl
set_option maxRecDepth 100000 in
theorem eL_cell_14 {a : Int} {l0 : Option VV} {v0 : VV} {S : MM} : rn xL_cell (14, [l0, some (vI a)], [v0], S) = rn xL_cell (15, [l0, some (vI a)], [vI a, v0], S) := rn_step dL_cell_14 rfl rfl
set_option maxRecDepth 100000 in
theorem eL_cell_15 {l0 l1 : Option VV} {v0 v1 : VV} {S : MM} : rn xL_cell (15, [l0, l1], [v0, v1], S) = rn xL_cell (18, [l0, l1], [vI 1619, v0, v1], S) := rn_step dL_cell_15 rfl rfl
set_option maxRecDepth 100000 in
theorem eL_cell_18 {a b : Int} {l0 l1 : Option VV} {v2 : VV} {S : MM} : rn xL_cell (18, [l0, l1], [vI b, vI a, v2], S) = rn xL_cell (19, [l0, l1], [vI (a + b), v2], S) := rn_step dL_cell_18 rfl rfl
set_option maxRecDepth 100000 in
theorem eL_cell_19 {a b : Int} {l0 l1 : Option VV} {S : MM} : rn xL_cell (19, [l0, l1], [vI b, vI a], S) = rn xL_cell (20, [l0, l1], [vI (a * b)], S) := rn_step dL_cell_19 rfl rfl
set_option maxRecDepth 100000 in
theorem eL_cell_20 {z : Int} {l0 l1 : Option VV} {S : MM} : rn xL_cell (20, [l0, l1], [vI z], S) = some (some (vI z), S) := q_retI dL_cell_20 rfl
noncomputable def qlL_inTurn : List CE := []
noncomputable def xL_inTurn : XX := (cL_inTurn, fcF fclL, mcF qlL_inTurn, 1)
noncomputable def fL_inTurn : FN := fnX xL_inTurn 3
set_option maxRecDepth 100000 in
theorem cwL_inTurn : Cond.code yL_inTurn cL_inTurn 3 (some .int) ∈ lw_g := lw_gm 601 (by exact rfl) (by decide +kernel)
set_option maxRecDepth 100000 in
theorem conL_inTurn : Con yL_inTurn cL_inTurn 3 (some .int) { frames := 0, cells := 0, slots := 0, locals := 0 } fL_inTurn := con_of (X := xL_inTurn) (own := "LeapStonesLaw") (ql := qlL_inTurn) (by decide) rfl FOKL rfl (fun _ h => absurd h List.not_mem_nil) (Or.inr (Or.inl ⟨rfl, rfl⟩))
theorem uL_inTurn {a0 : Int} {a1 : Int} {S : MM} : fL_inTurn [vI a0, vI a1] S = rn xL_inTurn (0, [some (vI a0), some (vI a1), none], [], S) := rfl
theorem dL_inTurn_0 : decode cL_inTurn 0 = .ok (.iload_n 0, 1) := by decide +kernel
theorem dL_inTurn_1 : decode cL_inTurn 1 = .ok (.ifCond .ne 8, 3) := by decide +kernel
theorem dL_inTurn_4 : decode cL_inTurn 4 = .ok (.bipush 12, 2) := by decide +kernel
theorem dL_inTurn_6 : decode cL_inTurn 6 = .ok (.goto 47, 3) := by decide +kernel
theorem dL_inTurn_9 : decode cL_inTurn 9 = .ok (.iload_n 0, 1) := by decide +kernel
theorem dL_inTurn_10 : decode cL_inTurn 10 = .ok (.iconst 1, 1) := by decide +kernel
theorem dL_inTurn_11 : decode cL_inTurn 11 = .ok (.if_icmp .ne 8, 3) := by decide +kernel
theorem dL_inTurn_14 : decode cL_inTurn 14 = .ok (.bipush 21, 2) := by decide +kernel
theorem dL_inTurn_16 : decode cL_inTurn 16 = .ok (.goto 37, 3) := by decide +kernel
theorem dL_inTurn_19 : decode cL_inTurn 19 = .ok (.iload_n 0, 1) := by decide +kernel
theorem dL_inTurn_20 : decode cL_inTurn 20 = .ok (.iconst 2, 1) := by decide +kernel
theorem dL_inTurn_21 : decode cL_inTurn 21 = .ok (.if_icmp .ne 8, 3) := by decide +kernel
theorem dL_inTurn_24 : decode cL_inTurn 24 = .ok (.bipush 102, 2) := by decide +kernel
theorem dL_inTurn_26 : decode cL_inTurn 26 = .ok (.goto 27, 3) := by decide +kernel
theorem dL_inTurn_29 : decode cL_inTurn 29 = .ok (.iload_n 0, 1) := by decide +kernel
theorem dL_inTurn_30 : decode cL_inTurn 30 = .ok (.iconst 3, 1) := by decide +kernel
theorem dL_inTurn_31 : decode cL_inTurn 31 = .ok (.if_icmp .ne 8, 3) := by decide +kernel
theorem dL_inTurn_34 : decode cL_inTurn 34 = .ok (.bipush 120, 2) := by decide +kernel
theorem dL_inTurn_36 : decode cL_inTurn 36 = .ok (.goto 17, 3) := by decide +kernel
theorem dL_inTurn_39 : decode cL_inTurn 39 = .ok (.iload_n 0, 1) := by decide +kernel
theorem dL_inTurn_40 : decode cL_inTurn 40 = .ok (.iconst 4, 1) := by decide +kernel
theorem dL_inTurn_41 : decode cL_inTurn 41 = .ok (.if_icmp .ne 9, 3) := by decide +kernel
theorem dL_inTurn_44 : decode cL_inTurn 44 = .ok (.sipush 201, 3) := by decide +kernel
theorem dL_inTurn_47 : decode cL_inTurn 47 = .ok (.goto 6, 3) := by decide +kernel
theorem dL_inTurn_50 : decode cL_inTurn 50 = .ok (.sipush 210, 3) := by decide +kernel
theorem dL_inTurn_53 : decode cL_inTurn 53 = .ok (.istore_n 2, 1) := by decide +kernel
theorem dL_inTurn_54 : decode cL_inTurn 54 = .ok (.iload_n 1, 1) := by decide +kernel
theorem dL_inTurn_55 : decode cL_inTurn 55 = .ok (.ifCond .ne 10, 3) := by decide +kernel
theorem dL_inTurn_58 : decode cL_inTurn 58 = .ok (.iload_n 2, 1) := by decide +kernel
theorem dL_inTurn_59 : decode cL_inTurn 59 = .ok (.bipush 100, 2) := by decide +kernel
theorem dL_inTurn_61 : decode cL_inTurn 61 = .ok (.idiv, 1) := by decide +kernel
theorem dL_inTurn_62 : decode cL_inTurn 62 = .ok (.goto 22, 3) := by decide +kernel
theorem dL_inTurn_65 : decode cL_inTurn 65 = .ok (.iload_n 1, 1) := by decide +kernel
theorem dL_inTurn_66 : decode cL_inTurn 66 = .ok (.iconst 1, 1) := by decide +kernel
theorem dL_inTurn_67 : decode cL_inTurn 67 = .ok (.if_icmp .ne 13, 3) := by decide +kernel
theorem dL_inTurn_70 : decode cL_inTurn 70 = .ok (.iload_n 2, 1) := by decide +kernel
theorem dL_inTurn_71 : decode cL_inTurn 71 = .ok (.bipush 10, 2) := by decide +kernel
theorem dL_inTurn_73 : decode cL_inTurn 73 = .ok (.idiv, 1) := by decide +kernel
theorem dL_inTurn_74 : decode cL_inTurn 74 = .ok (.bipush 10, 2) := by decide +kernel
theorem dL_inTurn_76 : decode cL_inTurn 76 = .ok (.irem, 1) := by decide +kernel
theorem dL_inTurn_77 : decode cL_inTurn 77 = .ok (.goto 7, 3) := by decide +kernel
theorem dL_inTurn_80 : decode cL_inTurn 80 = .ok (.iload_n 2, 1) := by decide +kernel
theorem dL_inTurn_81 : decode cL_inTurn 81 = .ok (.bipush 10, 2) := by decide +kernel
theorem dL_inTurn_83 : decode cL_inTurn 83 = .ok (.irem, 1) := by decide +kernel
theorem dL_inTurn_84 : decode cL_inTurn 84 = .ok (.ireturn, 1) := by decide +kernel
set_option maxRecDepth 100000 in
theorem eL_inTurn_0 {a : Int} {l1 l2 : Option VV} {S : MM} : rn xL_inTurn (0, [some (vI a), l1, l2], [], S) = rn xL_inTurn (1, [some (vI a), l1, l2], [vI a], S) := rn_step dL_inTurn_0 rfl rfl
set_option maxRecDepth 100000 in
theorem eL_inTurn_1 {a : Int} {l0 l1 l2 : Option VV} (h : -2147483648 ≤ a ∧ a ≤ 2147483647) {S : MM} : rn xL_inTurn (1, [l0, l1, l2], [vI a], S) = if a = 0 then rn xL_inTurn (4, [l0, l1, l2], [], S) else rn xL_inTurn (9, [l0, l1, l2], [], S) := q_if_ne dL_inTurn_1 (by decide) rfl h
set_option maxRecDepth 100000 in
theorem eL_inTurn_4 {l0 l1 l2 : Option VV} {S : MM} : rn xL_inTurn (4, [l0, l1, l2], [], S) = rn xL_inTurn (6, [l0, l1, l2], [vI 12], S) := rn_step dL_inTurn_4 rfl rfl
set_option maxRecDepth 100000 in
theorem eL_inTurn_6 {l0 l1 l2 : Option VV} {v0 : VV} {S : MM} : rn xL_inTurn (6, [l0, l1, l2], [v0], S) = rn xL_inTurn (53, [l0, l1, l2], [v0], S) := rn_step dL_inTurn_6 rfl rfl
set_option maxRecDepth 100000 in
theorem eL_inTurn_9 {a : Int} {l1 l2 : Option VV} {S : MM} : rn xL_inTurn (9, [some (vI a), l1, l2], [], S) = rn xL_inTurn (10, [some (vI a), l1, l2], [vI a], S) := rn_step dL_inTurn_9 rfl rfl
set_option maxRecDepth 100000 in
theorem eL_inTurn_10 {l0 l1 l2 : Option VV} {v0 : VV} {S : MM} : rn xL_inTurn (10, [l0, l1, l2], [v0], S) = rn xL_inTurn (11, [l0, l1, l2], [vI 1, v0], S) := rn_step dL_inTurn_10 rfl rfl
set_option maxRecDepth 100000 in
theorem eL_inTurn_11 {a b : Int} {l0 l1 l2 : Option VV} (h : -2147483648 ≤ a ∧ a ≤ 2147483647) (h1 : -2147483648 ≤ b ∧ b ≤ 2147483647) {S : MM} : rn xL_inTurn (11, [l0, l1, l2], [vI b, vI a], S) = if a = b then rn xL_inTurn (14, [l0, l1, l2], [], S) else rn xL_inTurn (19, [l0, l1, l2], [], S) := q_icmp_ne dL_inTurn_11 (by decide) rfl h h1
set_option maxRecDepth 100000 in
theorem eL_inTurn_14 {l0 l1 l2 : Option VV} {S : MM} : rn xL_inTurn (14, [l0, l1, l2], [], S) = rn xL_inTurn (16, [l0, l1, l2], [vI 21], S) := rn_step dL_inTurn_14 rfl rfl
set_option maxRecDepth 100000 in
theorem eL_inTurn_16 {l0 l1 l2 : Option VV} {v0 : VV} {S : MM} : rn xL_inTurn (16, [l0, l1, l2], [v0], S) = rn xL_inTurn (53, [l0, l1, l2], [v0], S) := rn_step dL_inTurn_16 rfl rfl
set_option maxRecDepth 100000 in
theorem eL_inTurn_19 {a : Int} {l1 l2 : Option VV} {S : MM} : rn xL_inTurn (19, [some (vI a), l1, l2], [], S) = rn xL_inTurn (20, [some (vI a), l1, l2], [vI a], S) := rn_step dL_inTurn_19 rfl rfl
set_option maxRecDepth 100000 in
theorem eL_inTurn_20 {l0 l1 l2 : Option VV} {v0 : VV} {S : MM} : rn xL_inTurn (20, [l0, l1, l2], [v0], S) = rn xL_inTurn (21, [l0, l1, l2], [vI 2, v0], S) := rn_step dL_inTurn_20 rfl rfl
set_option maxRecDepth 100000 in
theorem eL_inTurn_21 {a b : Int} {l0 l1 l2 : Option VV} (h : -2147483648 ≤ a ∧ a ≤ 2147483647) (h1 : -2147483648 ≤ b ∧ b ≤ 2147483647) {S : MM} : rn xL_inTurn (21, [l0, l1, l2], [vI b, vI a], S) = if a = b then rn xL_inTurn (24, [l0, l1, l2], [], S) else rn xL_inTurn (29, [l0, l1, l2], [], S) := q_icmp_ne dL_inTurn_21 (by decide) rfl h h1
set_option maxRecDepth 100000 in
theorem eL_inTurn_24 {l0 l1 l2 : Option VV} {S : MM} : rn xL_inTurn (24, [l0, l1, l2], [], S) = rn xL_inTurn (26, [l0, l1, l2], [vI 102], S) := rn_step dL_inTurn_24 rfl rfl
set_option maxRecDepth 100000 in
theorem eL_inTurn_26 {l0 l1 l2 : Option VV} {v0 : VV} {S : MM} : rn xL_inTurn (26, [l0, l1, l2], [v0], S) = rn xL_inTurn (53, [l0, l1, l2], [v0], S) := rn_step dL_inTurn_26 rfl rfl
set_option maxRecDepth 100000 in
theorem eL_inTurn_29 {a : Int} {l1 l2 : Option VV} {S : MM} : rn xL_inTurn (29, [some (vI a), l1, l2], [], S) = rn xL_inTurn (30, [some (vI a), l1, l2], [vI a], S) := rn_step dL_inTurn_29 rfl rfl
set_option maxRecDepth 100000 in
theorem eL_inTurn_30 {l0 l1 l2 : Option VV} {v0 : VV} {S : MM} : rn xL_inTurn (30, [l0, l1, l2], [v0], S) = rn xL_inTurn (31, [l0, l1, l2], [vI 3, v0], S) := rn_step dL_inTurn_30 rfl rfl
set_option maxRecDepth 100000 in
theorem eL_inTurn_31 {a b : Int} {l0 l1 l2 : Option VV} (h : -2147483648 ≤ a ∧ a ≤ 2147483647) (h1 : -2147483648 ≤ b ∧ b ≤ 2147483647) {S : MM} : rn xL_inTurn (31, [l0, l1, l2], [vI b, vI a], S) = if a = b then rn xL_inTurn (34, [l0, l1, l2], [], S) else rn xL_inTurn (39, [l0, l1, l2], [], S) := q_icmp_ne dL_inTurn_31 (by decide) rfl h h1
set_option maxRecDepth 100000 in
theorem eL_inTurn_34 {l0 l1 l2 : Option VV} {S : MM} : rn xL_inTurn (34, [l0, l1, l2], [], S) = rn xL_inTurn (36, [l0, l1, l2], [vI 120], S) := rn_step dL_inTurn_34 rfl rfl
set_option maxRecDepth 100000 in
theorem eL_inTurn_36 {l0 l1 l2 : Option VV} {v0 : VV} {S : MM} : rn xL_inTurn (36, [l0, l1, l2], [v0], S) = rn xL_inTurn (53, [l0, l1, l2], [v0], S) := rn_step dL_inTurn_36 rfl rfl
set_option maxRecDepth 100000 in
theorem eL_inTurn_39 {a : Int} {l1 l2 : Option VV} {S : MM} : rn xL_inTurn (39, [some (vI a), l1, l2], [], S) = rn xL_inTurn (40, [some (vI a), l1, l2], [vI a], S) := rn_step dL_inTurn_39 rfl rfl
set_option maxRecDepth 100000 in
theorem eL_inTurn_40 {l0 l1 l2 : Option VV} {v0 : VV} {S : MM} : rn xL_inTurn (40, [l0, l1, l2], [v0], S) = rn xL_inTurn (41, [l0, l1, l2], [vI 4, v0], S) := rn_step dL_inTurn_40 rfl rfl
set_option maxRecDepth 100000 in
theorem eL_inTurn_41 {a b : Int} {l0 l1 l2 : Option VV} (h : -2147483648 ≤ a ∧ a ≤ 2147483647) (h1 : -2147483648 ≤ b ∧ b ≤ 2147483647) {S : MM} : rn xL_inTurn (41, [l0, l1, l2], [vI b, vI a], S) = if a = b then rn xL_inTurn (44, [l0, l1, l2], [], S) else rn xL_inTurn (50, [l0, l1, l2], [], S) := q_icmp_ne dL_inTurn_41 (by decide) rfl h h1
set_option maxRecDepth 100000 in
theorem eL_inTurn_44 {l0 l1 l2 : Option VV} {S : MM} : rn xL_inTurn (44, [l0, l1, l2], [], S) = rn xL_inTurn (47, [l0, l1, l2], [vI 201], S) := rn_step dL_inTurn_44 rfl rfl
set_option maxRecDepth 100000 in
theorem eL_inTurn_47 {l0 l1 l2 : Option VV} {v0 : VV} {S : MM} : rn xL_inTurn (47, [l0, l1, l2], [v0], S) = rn xL_inTurn (53, [l0, l1, l2], [v0], S) := rn_step dL_inTurn_47 rfl rfl
set_option maxRecDepth 100000 in
theorem eL_inTurn_50 {l0 l1 l2 : Option VV} {S : MM} : rn xL_inTurn (50, [l0, l1, l2], [], S) = rn xL_inTurn (53, [l0, l1, l2], [vI 210], S) := rn_step dL_inTurn_50 rfl rfl
set_option maxRecDepth 100000 in
theorem eL_inTurn_53 {a : Int} {w : Int} {l0 l2 : Option VV} {S : MM} : rn xL_inTurn (53, [l0, some (vI w), l2], [vI a], S) = rn xL_inTurn (54, [l0, some (vI w), some (vI a)], [], S) := rn_step dL_inTurn_53 rfl rfl
set_option maxRecDepth 100000 in
theorem eL_inTurn_54 {a : Int} {l0 l2 : Option VV} {S : MM} : rn xL_inTurn (54, [l0, some (vI a), l2], [], S) = rn xL_inTurn (55, [l0, some (vI a), l2], [vI a], S) := rn_step dL_inTurn_54 rfl rfl
set_option maxRecDepth 100000 in
theorem eL_inTurn_55 {a : Int} {l0 l1 l2 : Option VV} (h : -2147483648 ≤ a ∧ a ≤ 2147483647) {S : MM} : rn xL_inTurn (55, [l0, l1, l2], [vI a], S) = if a = 0 then rn xL_inTurn (58, [l0, l1, l2], [], S) else rn xL_inTurn (65, [l0, l1, l2], [], S) := q_if_ne dL_inTurn_55 (by decide) rfl h
set_option maxRecDepth 100000 in
theorem eL_inTurn_58 {a : Int} {l0 l1 : Option VV} {S : MM} : rn xL_inTurn (58, [l0, l1, some (vI a)], [], S) = rn xL_inTurn (59, [l0, l1, some (vI a)], [vI a], S) := rn_step dL_inTurn_58 rfl rfl
set_option maxRecDepth 100000 in
theorem eL_inTurn_59 {l0 l1 l2 : Option VV} {v0 : VV} {S : MM} : rn xL_inTurn (59, [l0, l1, l2], [v0], S) = rn xL_inTurn (61, [l0, l1, l2], [vI 100, v0], S) := rn_step dL_inTurn_59 rfl rfl
set_option maxRecDepth 100000 in
theorem eL_inTurn_61 {a : Int} {l0 l1 l2 : Option VV} (h0 : 0 ≤ a) (h1 : a ≤ 2147483647) {S : MM} : rn xL_inTurn (61, [l0, l1, l2], [vI 100, vI a], S) = rn xL_inTurn (62, [l0, l1, l2], [vI (a / 100)], S) := q_idiv dL_inTurn_61 ⟨by decide, by decide⟩ h0 h1
set_option maxRecDepth 100000 in
theorem eL_inTurn_62 {l0 l1 l2 : Option VV} {v0 : VV} {S : MM} : rn xL_inTurn (62, [l0, l1, l2], [v0], S) = rn xL_inTurn (84, [l0, l1, l2], [v0], S) := rn_step dL_inTurn_62 rfl rfl
set_option maxRecDepth 100000 in
theorem eL_inTurn_65 {a : Int} {l0 l2 : Option VV} {S : MM} : rn xL_inTurn (65, [l0, some (vI a), l2], [], S) = rn xL_inTurn (66, [l0, some (vI a), l2], [vI a], S) := rn_step dL_inTurn_65 rfl rfl
set_option maxRecDepth 100000 in
theorem eL_inTurn_66 {l0 l1 l2 : Option VV} {v0 : VV} {S : MM} : rn xL_inTurn (66, [l0, l1, l2], [v0], S) = rn xL_inTurn (67, [l0, l1, l2], [vI 1, v0], S) := rn_step dL_inTurn_66 rfl rfl
set_option maxRecDepth 100000 in
theorem eL_inTurn_67 {a b : Int} {l0 l1 l2 : Option VV} (h : -2147483648 ≤ a ∧ a ≤ 2147483647) (h1 : -2147483648 ≤ b ∧ b ≤ 2147483647) {S : MM} : rn xL_inTurn (67, [l0, l1, l2], [vI b, vI a], S) = if a = b then rn xL_inTurn (70, [l0, l1, l2], [], S) else rn xL_inTurn (80, [l0, l1, l2], [], S) := q_icmp_ne dL_inTurn_67 (by decide) rfl h h1
set_option maxRecDepth 100000 in
theorem eL_inTurn_70 {a : Int} {l0 l1 : Option VV} {S : MM} : rn xL_inTurn (70, [l0, l1, some (vI a)], [], S) = rn xL_inTurn (71, [l0, l1, some (vI a)], [vI a], S) := rn_step dL_inTurn_70 rfl rfl
set_option maxRecDepth 100000 in
theorem eL_inTurn_71 {l0 l1 l2 : Option VV} {v0 : VV} {S : MM} : rn xL_inTurn (71, [l0, l1, l2], [v0], S) = rn xL_inTurn (73, [l0, l1, l2], [vI 10, v0], S) := rn_step dL_inTurn_71 rfl rfl
set_option maxRecDepth 100000 in
theorem eL_inTurn_73 {a : Int} {l0 l1 l2 : Option VV} (h0 : 0 ≤ a) (h1 : a ≤ 2147483647) {S : MM} : rn xL_inTurn (73, [l0, l1, l2], [vI 10, vI a], S) = rn xL_inTurn (74, [l0, l1, l2], [vI (a / 10)], S) := q_idiv dL_inTurn_73 ⟨by decide, by decide⟩ h0 h1
set_option maxRecDepth 100000 in
theorem eL_inTurn_74 {l0 l1 l2 : Option VV} {v0 : VV} {S : MM} : rn xL_inTurn (74, [l0, l1, l2], [v0], S) = rn xL_inTurn (76, [l0, l1, l2], [vI 10, v0], S) := rn_step dL_inTurn_74 rfl rfl
set_option maxRecDepth 100000 in
theorem eL_inTurn_76 {a : Int} {l0 l1 l2 : Option VV} (h0 : 0 ≤ a) (h1 : a ≤ 2147483647) {S : MM} : rn xL_inTurn (76, [l0, l1, l2], [vI 10, vI a], S) = rn xL_inTurn (77, [l0, l1, l2], [vI (a % 10)], S) := q_irem dL_inTurn_76 ⟨by decide, by decide⟩ h0 h1
set_option maxRecDepth 100000 in
theorem eL_inTurn_77 {l0 l1 l2 : Option VV} {v0 : VV} {S : MM} : rn xL_inTurn (77, [l0, l1, l2], [v0], S) = rn xL_inTurn (84, [l0, l1, l2], [v0], S) := rn_step dL_inTurn_77 rfl rfl
set_option maxRecDepth 100000 in
theorem eL_inTurn_80 {a : Int} {l0 l1 : Option VV} {S : MM} : rn xL_inTurn (80, [l0, l1, some (vI a)], [], S) = rn xL_inTurn (81, [l0, l1, some (vI a)], [vI a], S) := rn_step dL_inTurn_80 rfl rfl
set_option maxRecDepth 100000 in
theorem eL_inTurn_81 {l0 l1 l2 : Option VV} {v0 : VV} {S : MM} : rn xL_inTurn (81, [l0, l1, l2], [v0], S) = rn xL_inTurn (83, [l0, l1, l2], [vI 10, v0], S) := rn_step dL_inTurn_81 rfl rfl
set_option maxRecDepth 100000 in
theorem eL_inTurn_83 {a : Int} {l0 l1 l2 : Option VV} (h0 : 0 ≤ a) (h1 : a ≤ 2147483647) {S : MM} : rn xL_inTurn (83, [l0, l1, l2], [vI 10, vI a], S) = rn xL_inTurn (84, [l0, l1, l2], [vI (a % 10)], S) := q_irem dL_inTurn_83 ⟨by decide, by decide⟩ h0 h1
set_option maxRecDepth 100000 in
theorem eL_inTurn_84 {z : Int} {l0 l1 l2 : Option VV} {S : MM} : rn xL_inTurn (84, [l0, l1, l2], [vI z], S) = some (some (vI z), S) := q_retI dL_inTurn_84 rfl
noncomputable def qlL_from : List CE := [(0, 50, 8, 3, fX8_ofWalker), (0, 55, 8, 4, fX8_ofStone)]
noncomputable def xL_from : XX := (cL_from, fcF fclL, mcF qlL_from, 1)
noncomputable def fL_from : FN := fnX xL_from 5
set_option maxRecDepth 100000 in
theorem cwL_from : Cond.code yL_from cL_from 5 (some .int) ∈ lw_g := lw_gm 391 (by exact rfl) (by decide +kernel)
set_option maxRecDepth 100000 in
theorem conL_from : Con yL_from cL_from 5 (some .int) { frames := 4, cells := 0, slots := 0, locals := 86 } fL_from := con_of (X := xL_from) (own := "LeapStonesLaw") (ql := qlL_from) (by decide) rfl FOKL rfl (List.forall_mem_cons.mpr ⟨call_V conX8_ofWalker cwX8_ofWalker (lw_gl _ [392, 393, 394, 21] (by decide +kernel) (by decide +kernel)) (by decide) rfl ⟨by decide, by decide, by decide +kernel⟩ ⟨rfl, rfl⟩ ⟨by decide, by decide⟩ ⟨Nat.le_refl _, Nat.le_refl _⟩, List.forall_mem_cons.mpr ⟨call_V conX8_ofStone cwX8_ofStone (lw_gl _ [416, 417, 418, 21] (by decide +kernel) (by decide +kernel)) (by decide) rfl ⟨by decide, by decide, by decide +kernel⟩ ⟨rfl, rfl⟩ ⟨by decide, by decide⟩ ⟨Nat.le_refl _, Nat.le_refl _⟩, fun _ h => absurd h List.not_mem_nil⟩⟩) (Or.inr (Or.inl ⟨rfl, rfl⟩))
theorem uL_from {a0 : Option Nat} {a1 : Int} {a2 : Int} {S : MM} : fL_from [.inr (.inl a0), vI a1, vI a2] S = rn xL_from (0, [some (.inr (.inl a0)), some (vI a1), some (vI a2), none, none], [], S) := rfl
theorem dL_from_0 : decode cL_from 0 = .ok (.aload_n 0, 1) := by decide +kernel
theorem dL_from_1 : decode cL_from 1 = .ok (.iload_n 1, 1) := by decide +kernel
theorem dL_from_2 : decode cL_from 2 = .ok (.iconst 0, 1) := by decide +kernel
theorem dL_from_3 : decode cL_from 3 = .ok (.invokevirtual 50, 3) := by decide +kernel
theorem dL_from_6 : decode cL_from 6 = .ok (.istore_n 3, 1) := by decide +kernel
theorem dL_from_7 : decode cL_from 7 = .ok (.iconst 0, 1) := by decide +kernel
theorem dL_from_8 : decode cL_from 8 = .ok (.istore 4, 2) := by decide +kernel
theorem dL_from_10 : decode cL_from 10 = .ok (.iload 4, 2) := by decide +kernel
theorem dL_from_12 : decode cL_from 12 = .ok (.iload_n 3, 1) := by decide +kernel
theorem dL_from_13 : decode cL_from 13 = .ok (.if_icmp .ge 24, 3) := by decide +kernel
theorem dL_from_16 : decode cL_from 16 = .ok (.aload_n 0, 1) := by decide +kernel
theorem dL_from_17 : decode cL_from 17 = .ok (.iload_n 1, 1) := by decide +kernel
theorem dL_from_18 : decode cL_from 18 = .ok (.iload 4, 2) := by decide +kernel
theorem dL_from_20 : decode cL_from 20 = .ok (.iconst 0, 1) := by decide +kernel
theorem dL_from_21 : decode cL_from 21 = .ok (.invokevirtual 55, 3) := by decide +kernel
theorem dL_from_24 : decode cL_from 24 = .ok (.iload_n 2, 1) := by decide +kernel
theorem dL_from_25 : decode cL_from 25 = .ok (.if_icmp .lt 6, 3) := by decide +kernel
theorem dL_from_28 : decode cL_from 28 = .ok (.iload 4, 2) := by decide +kernel
theorem dL_from_30 : decode cL_from 30 = .ok (.ireturn, 1) := by decide +kernel
theorem dL_from_31 : decode cL_from 31 = .ok (.iinc 4 1, 3) := by decide +kernel
theorem dL_from_34 : decode cL_from 34 = .ok (.goto (-24), 3) := by decide +kernel
theorem dL_from_37 : decode cL_from 37 = .ok (.iload_n 3, 1) := by decide +kernel
theorem dL_from_38 : decode cL_from 38 = .ok (.ireturn, 1) := by decide +kernel
set_option maxRecDepth 100000 in
theorem eL_from_0 {a : Option Nat} {l1 l2 l3 l4 : Option VV} {S : MM} : rn xL_from (0, [some (.inr (.inl a)), l1, l2, l3, l4], [], S) = rn xL_from (1, [some (.inr (.inl a)), l1, l2, l3, l4], [.inr (.inl a)], S) := rn_step dL_from_0 rfl rfl
set_option maxRecDepth 100000 in
theorem eL_from_1 {a : Int} {l0 l2 l3 l4 : Option VV} {v0 : VV} {S : MM} : rn xL_from (1, [l0, some (vI a), l2, l3, l4], [v0], S) = rn xL_from (2, [l0, some (vI a), l2, l3, l4], [vI a, v0], S) := rn_step dL_from_1 rfl rfl
set_option maxRecDepth 100000 in
theorem eL_from_2 {l0 l1 l2 l3 l4 : Option VV} {v0 v1 : VV} {S : MM} : rn xL_from (2, [l0, l1, l2, l3, l4], [v0, v1], S) = rn xL_from (3, [l0, l1, l2, l3, l4], [vI 0, v0, v1], S) := rn_step dL_from_2 rfl rfl
set_option maxRecDepth 100000 in
theorem eL_from_3 {a0 : Int} {a1 : Int} {l0 l1 l2 l3 l4 : Option VV} {S : MM} : rn xL_from (3, [l0, l1, l2, l3, l4], [vI a1, vI a0, vR 0], S) = (fX8_ofWalker [vR 0, vI a0, vI a1] S).bind (fun q => rn xL_from (6, [l0, l1, l2, l3, l4], q.1.toList ++ [], q.2)) := q_callV (n := 2) (as := [vI a0, vI a1]) (rest := []) dL_from_3 rfl rfl rfl rfl kd0
set_option maxRecDepth 100000 in
theorem eL_from_6 {a : Int} {w : Int} {l0 l1 l3 l4 : Option VV} {S : MM} : rn xL_from (6, [l0, l1, some (vI w), l3, l4], [vI a], S) = rn xL_from (7, [l0, l1, some (vI w), some (vI a), l4], [], S) := rn_step dL_from_6 rfl rfl
set_option maxRecDepth 100000 in
theorem eL_from_7 {l0 l1 l2 l3 l4 : Option VV} {S : MM} : rn xL_from (7, [l0, l1, l2, l3, l4], [], S) = rn xL_from (8, [l0, l1, l2, l3, l4], [vI 0], S) := rn_step dL_from_7 rfl rfl
set_option maxRecDepth 100000 in
theorem eL_from_8 {a : Int} {w : Int} {l0 l1 l2 l4 : Option VV} {S : MM} : rn xL_from (8, [l0, l1, l2, some (vI w), l4], [vI a], S) = rn xL_from (10, [l0, l1, l2, some (vI w), some (vI a)], [], S) := rn_step dL_from_8 rfl rfl
set_option maxRecDepth 100000 in
theorem eL_from_10 {a : Int} {l0 l1 l2 l3 : Option VV} {S : MM} : rn xL_from (10, [l0, l1, l2, l3, some (vI a)], [], S) = rn xL_from (12, [l0, l1, l2, l3, some (vI a)], [vI a], S) := rn_step dL_from_10 rfl rfl
set_option maxRecDepth 100000 in
theorem eL_from_12 {a : Int} {l0 l1 l2 l4 : Option VV} {v0 : VV} {S : MM} : rn xL_from (12, [l0, l1, l2, some (vI a), l4], [v0], S) = rn xL_from (13, [l0, l1, l2, some (vI a), l4], [vI a, v0], S) := rn_step dL_from_12 rfl rfl
set_option maxRecDepth 100000 in
theorem eL_from_13 {a b : Int} {l0 l1 l2 l3 l4 : Option VV} (h : -2147483648 ≤ a ∧ a ≤ 2147483647) (h1 : -2147483648 ≤ b ∧ b ≤ 2147483647) {S : MM} : rn xL_from (13, [l0, l1, l2, l3, l4], [vI b, vI a], S) = if a < b then rn xL_from (16, [l0, l1, l2, l3, l4], [], S) else rn xL_from (37, [l0, l1, l2, l3, l4], [], S) := q_icmp_ge dL_from_13 (by decide) rfl h h1
set_option maxRecDepth 100000 in
theorem eL_from_16 {a : Option Nat} {l1 l2 l3 l4 : Option VV} {S : MM} : rn xL_from (16, [some (.inr (.inl a)), l1, l2, l3, l4], [], S) = rn xL_from (17, [some (.inr (.inl a)), l1, l2, l3, l4], [.inr (.inl a)], S) := rn_step dL_from_16 rfl rfl
set_option maxRecDepth 100000 in
theorem eL_from_17 {a : Int} {l0 l2 l3 l4 : Option VV} {v0 : VV} {S : MM} : rn xL_from (17, [l0, some (vI a), l2, l3, l4], [v0], S) = rn xL_from (18, [l0, some (vI a), l2, l3, l4], [vI a, v0], S) := rn_step dL_from_17 rfl rfl
set_option maxRecDepth 100000 in
theorem eL_from_18 {a : Int} {l0 l1 l2 l3 : Option VV} {v0 v1 : VV} {S : MM} : rn xL_from (18, [l0, l1, l2, l3, some (vI a)], [v0, v1], S) = rn xL_from (20, [l0, l1, l2, l3, some (vI a)], [vI a, v0, v1], S) := rn_step dL_from_18 rfl rfl
set_option maxRecDepth 100000 in
theorem eL_from_20 {l0 l1 l2 l3 l4 : Option VV} {v0 v1 v2 : VV} {S : MM} : rn xL_from (20, [l0, l1, l2, l3, l4], [v0, v1, v2], S) = rn xL_from (21, [l0, l1, l2, l3, l4], [vI 0, v0, v1, v2], S) := rn_step dL_from_20 rfl rfl
set_option maxRecDepth 100000 in
theorem eL_from_21 {a0 : Int} {a1 : Int} {a2 : Int} {l0 l1 l2 l3 l4 : Option VV} {S : MM} : rn xL_from (21, [l0, l1, l2, l3, l4], [vI a2, vI a1, vI a0, vR 0], S) = (fX8_ofStone [vR 0, vI a0, vI a1, vI a2] S).bind (fun q => rn xL_from (24, [l0, l1, l2, l3, l4], q.1.toList ++ [], q.2)) := q_callV (n := 3) (as := [vI a0, vI a1, vI a2]) (rest := []) dL_from_21 rfl rfl rfl rfl kd0
set_option maxRecDepth 100000 in
theorem eL_from_24 {a : Int} {l0 l1 l3 l4 : Option VV} {v0 : VV} {S : MM} : rn xL_from (24, [l0, l1, some (vI a), l3, l4], [v0], S) = rn xL_from (25, [l0, l1, some (vI a), l3, l4], [vI a, v0], S) := rn_step dL_from_24 rfl rfl
set_option maxRecDepth 100000 in
theorem eL_from_25 {a b : Int} {l0 l1 l2 l3 l4 : Option VV} (h : -2147483648 ≤ a ∧ a ≤ 2147483647) (h1 : -2147483648 ≤ b ∧ b ≤ 2147483647) {S : MM} : rn xL_from (25, [l0, l1, l2, l3, l4], [vI b, vI a], S) = if a < b then rn xL_from (31, [l0, l1, l2, l3, l4], [], S) else rn xL_from (28, [l0, l1, l2, l3, l4], [], S) := q_icmp_lt dL_from_25 (by decide) rfl h h1
set_option maxRecDepth 100000 in
theorem eL_from_28 {a : Int} {l0 l1 l2 l3 : Option VV} {S : MM} : rn xL_from (28, [l0, l1, l2, l3, some (vI a)], [], S) = rn xL_from (30, [l0, l1, l2, l3, some (vI a)], [vI a], S) := rn_step dL_from_28 rfl rfl
set_option maxRecDepth 100000 in
theorem eL_from_30 {z : Int} {l0 l1 l2 l3 l4 : Option VV} {S : MM} : rn xL_from (30, [l0, l1, l2, l3, l4], [vI z], S) = some (some (vI z), S) := q_retI dL_from_30 rfl
set_option maxRecDepth 100000 in
theorem eL_from_31 {a : Int} {w : Int} {l0 l1 l2 : Option VV} {S : MM} : rn xL_from (31, [l0, l1, l2, some (vI w), some (vI a)], [], S) = rn xL_from (34, [l0, l1, l2, some (vI w), some (vI (a + 1))], [], S) := rn_step dL_from_31 rfl rfl
set_option maxRecDepth 100000 in
theorem eL_from_34 {l0 l1 l2 l3 l4 : Option VV} {S : MM} : rn xL_from (34, [l0, l1, l2, l3, l4], [], S) = rn xL_from (10, [l0, l1, l2, l3, l4], [], S) := rn_step dL_from_34 rfl rfl
set_option maxRecDepth 100000 in
theorem eL_from_37 {a : Int} {l0 l1 l2 l4 : Option VV} {S : MM} : rn xL_from (37, [l0, l1, l2, some (vI a), l4], [], S) = rn xL_from (38, [l0, l1, l2, some (vI a), l4], [vI a], S) := rn_step dL_from_37 rfl rfl
set_option maxRecDepth 100000 in
theorem eL_from_38 {z : Int} {l0 l1 l2 l3 l4 : Option VV} {S : MM} : rn xL_from (38, [l0, l1, l2, l3, l4], [vI z], S) = some (some (vI z), S) := q_retI dL_from_38 rfl
noncomputable def qlL_repeats : List CE := [(1, 65, 0, 3, fL_from), (0, 50, 8, 3, fX8_ofWalker), (0, 55, 8, 4, fX8_ofStone)]
noncomputable def xL_repeats : XX := (cL_repeats, fcF fclL, mcF qlL_repeats, 1)
noncomputable def fL_repeats : FN := fnX xL_repeats 4
set_option maxRecDepth 100000 in
theorem cwL_repeats : Cond.code yL_repeats cL_repeats 4 (some .int) ∈ lw_g := lw_gm 388 (by exact rfl) (by decide +kernel)
set_option maxRecDepth 100000 in
theorem conL_repeats : Con yL_repeats cL_repeats 4 (some .int) { frames := 5, cells := 0, slots := 0, locals := 110 } fL_repeats := con_of (X := xL_repeats) (own := "LeapStonesLaw") (ql := qlL_repeats) (by decide) rfl FOKL rfl (List.forall_mem_cons.mpr ⟨call_S conL_from cwL_from (lw_gl _ [389, 390, 20] (by decide +kernel) (by decide +kernel)) ⟨by decide, by decide, by decide +kernel⟩ ⟨rfl, rfl⟩ ⟨by decide, by decide⟩ ⟨Nat.le_refl _, Nat.le_refl _⟩, List.forall_mem_cons.mpr ⟨call_V conX8_ofWalker cwX8_ofWalker (lw_gl _ [392, 393, 394, 21] (by decide +kernel) (by decide +kernel)) (by decide) rfl ⟨by decide, by decide, by decide +kernel⟩ ⟨rfl, rfl⟩ ⟨by decide, by decide⟩ ⟨Nat.le_refl _, Nat.le_refl _⟩, List.forall_mem_cons.mpr ⟨call_V conX8_ofStone cwX8_ofStone (lw_gl _ [416, 417, 418, 21] (by decide +kernel) (by decide +kernel)) (by decide) rfl ⟨by decide, by decide, by decide +kernel⟩ ⟨rfl, rfl⟩ ⟨by decide, by decide⟩ ⟨Nat.le_refl _, Nat.le_refl _⟩, fun _ h => absurd h List.not_mem_nil⟩⟩⟩) (Or.inr (Or.inl ⟨rfl, rfl⟩))
theorem uL_repeats {a0 : Option Nat} {a1 : Int} {a2 : Int} {S : MM} : fL_repeats [.inr (.inl a0), vI a1, vI a2] S = rn xL_repeats (0, [some (.inr (.inl a0)), some (vI a1), some (vI a2), none], [], S) := rfl
theorem dL_repeats_0 : decode cL_repeats 0 = .ok (.aload_n 0, 1) := by decide +kernel
theorem dL_repeats_1 : decode cL_repeats 1 = .ok (.iload_n 1, 1) := by decide +kernel
theorem dL_repeats_2 : decode cL_repeats 2 = .ok (.iload_n 2, 1) := by decide +kernel
theorem dL_repeats_3 : decode cL_repeats 3 = .ok (.invokestatic 65, 3) := by decide +kernel
theorem dL_repeats_6 : decode cL_repeats 6 = .ok (.istore_n 3, 1) := by decide +kernel
theorem dL_repeats_7 : decode cL_repeats 7 = .ok (.iload_n 3, 1) := by decide +kernel
theorem dL_repeats_8 : decode cL_repeats 8 = .ok (.aload_n 0, 1) := by decide +kernel
theorem dL_repeats_9 : decode cL_repeats 9 = .ok (.iload_n 1, 1) := by decide +kernel
theorem dL_repeats_10 : decode cL_repeats 10 = .ok (.iconst 0, 1) := by decide +kernel
theorem dL_repeats_11 : decode cL_repeats 11 = .ok (.invokevirtual 50, 3) := by decide +kernel
theorem dL_repeats_14 : decode cL_repeats 14 = .ok (.if_icmp .ge 24, 3) := by decide +kernel
theorem dL_repeats_17 : decode cL_repeats 17 = .ok (.aload_n 0, 1) := by decide +kernel
theorem dL_repeats_18 : decode cL_repeats 18 = .ok (.iload_n 1, 1) := by decide +kernel
theorem dL_repeats_19 : decode cL_repeats 19 = .ok (.iload_n 3, 1) := by decide +kernel
theorem dL_repeats_20 : decode cL_repeats 20 = .ok (.iconst 0, 1) := by decide +kernel
theorem dL_repeats_21 : decode cL_repeats 21 = .ok (.invokevirtual 55, 3) := by decide +kernel
theorem dL_repeats_24 : decode cL_repeats 24 = .ok (.iload_n 2, 1) := by decide +kernel
theorem dL_repeats_25 : decode cL_repeats 25 = .ok (.if_icmp .ne 13, 3) := by decide +kernel
theorem dL_repeats_28 : decode cL_repeats 28 = .ok (.aload_n 0, 1) := by decide +kernel
theorem dL_repeats_29 : decode cL_repeats 29 = .ok (.iload_n 1, 1) := by decide +kernel
theorem dL_repeats_30 : decode cL_repeats 30 = .ok (.iload_n 3, 1) := by decide +kernel
theorem dL_repeats_31 : decode cL_repeats 31 = .ok (.iconst 1, 1) := by decide +kernel
theorem dL_repeats_32 : decode cL_repeats 32 = .ok (.invokevirtual 55, 3) := by decide +kernel
theorem dL_repeats_35 : decode cL_repeats 35 = .ok (.goto 4, 3) := by decide +kernel
theorem dL_repeats_38 : decode cL_repeats 38 = .ok (.iconst 0, 1) := by decide +kernel
theorem dL_repeats_39 : decode cL_repeats 39 = .ok (.ireturn, 1) := by decide +kernel
set_option maxRecDepth 100000 in
theorem eL_repeats_0 {a : Option Nat} {l1 l2 l3 : Option VV} {S : MM} : rn xL_repeats (0, [some (.inr (.inl a)), l1, l2, l3], [], S) = rn xL_repeats (1, [some (.inr (.inl a)), l1, l2, l3], [.inr (.inl a)], S) := rn_step dL_repeats_0 rfl rfl
set_option maxRecDepth 100000 in
theorem eL_repeats_1 {a : Int} {l0 l2 l3 : Option VV} {v0 : VV} {S : MM} : rn xL_repeats (1, [l0, some (vI a), l2, l3], [v0], S) = rn xL_repeats (2, [l0, some (vI a), l2, l3], [vI a, v0], S) := rn_step dL_repeats_1 rfl rfl
set_option maxRecDepth 100000 in
theorem eL_repeats_2 {a : Int} {l0 l1 l3 : Option VV} {v0 v1 : VV} {S : MM} : rn xL_repeats (2, [l0, l1, some (vI a), l3], [v0, v1], S) = rn xL_repeats (3, [l0, l1, some (vI a), l3], [vI a, v0, v1], S) := rn_step dL_repeats_2 rfl rfl
set_option maxRecDepth 100000 in
theorem eL_repeats_3 {a0 : Option Nat} {a1 : Int} {a2 : Int} {l0 l1 l2 l3 : Option VV} {S : MM} : rn xL_repeats (3, [l0, l1, l2, l3], [vI a2, vI a1, .inr (.inl a0)], S) = (fL_from [.inr (.inl a0), vI a1, vI a2] S).bind (fun q => rn xL_repeats (6, [l0, l1, l2, l3], q.1.toList ++ [], q.2)) := q_callS (n := 3) (as := [.inr (.inl a0), vI a1, vI a2]) (rest := []) dL_repeats_3 rfl rfl rfl rfl
set_option maxRecDepth 100000 in
theorem eL_repeats_6 {a : Int} {w : Int} {l0 l1 l3 : Option VV} {S : MM} : rn xL_repeats (6, [l0, l1, some (vI w), l3], [vI a], S) = rn xL_repeats (7, [l0, l1, some (vI w), some (vI a)], [], S) := rn_step dL_repeats_6 rfl rfl
set_option maxRecDepth 100000 in
theorem eL_repeats_7 {a : Int} {l0 l1 l2 : Option VV} {S : MM} : rn xL_repeats (7, [l0, l1, l2, some (vI a)], [], S) = rn xL_repeats (8, [l0, l1, l2, some (vI a)], [vI a], S) := rn_step dL_repeats_7 rfl rfl
set_option maxRecDepth 100000 in
theorem eL_repeats_8 {a : Option Nat} {l1 l2 l3 : Option VV} {v0 : VV} {S : MM} : rn xL_repeats (8, [some (.inr (.inl a)), l1, l2, l3], [v0], S) = rn xL_repeats (9, [some (.inr (.inl a)), l1, l2, l3], [.inr (.inl a), v0], S) := rn_step dL_repeats_8 rfl rfl
set_option maxRecDepth 100000 in
theorem eL_repeats_9 {a : Int} {l0 l2 l3 : Option VV} {v0 v1 : VV} {S : MM} : rn xL_repeats (9, [l0, some (vI a), l2, l3], [v0, v1], S) = rn xL_repeats (10, [l0, some (vI a), l2, l3], [vI a, v0, v1], S) := rn_step dL_repeats_9 rfl rfl
set_option maxRecDepth 100000 in
theorem eL_repeats_10 {l0 l1 l2 l3 : Option VV} {v0 v1 v2 : VV} {S : MM} : rn xL_repeats (10, [l0, l1, l2, l3], [v0, v1, v2], S) = rn xL_repeats (11, [l0, l1, l2, l3], [vI 0, v0, v1, v2], S) := rn_step dL_repeats_10 rfl rfl
set_option maxRecDepth 100000 in
theorem eL_repeats_11 {a0 : Int} {a1 : Int} {l0 l1 l2 l3 : Option VV} {v3 : VV} {S : MM} : rn xL_repeats (11, [l0, l1, l2, l3], [vI a1, vI a0, vR 0, v3], S) = (fX8_ofWalker [vR 0, vI a0, vI a1] S).bind (fun q => rn xL_repeats (14, [l0, l1, l2, l3], q.1.toList ++ [v3], q.2)) := q_callV (n := 2) (as := [vI a0, vI a1]) (rest := [v3]) dL_repeats_11 rfl rfl rfl rfl kd0
set_option maxRecDepth 100000 in
theorem eL_repeats_14 {a b : Int} {l0 l1 l2 l3 : Option VV} (h : -2147483648 ≤ a ∧ a ≤ 2147483647) (h1 : -2147483648 ≤ b ∧ b ≤ 2147483647) {S : MM} : rn xL_repeats (14, [l0, l1, l2, l3], [vI b, vI a], S) = if a < b then rn xL_repeats (17, [l0, l1, l2, l3], [], S) else rn xL_repeats (38, [l0, l1, l2, l3], [], S) := q_icmp_ge dL_repeats_14 (by decide) rfl h h1
set_option maxRecDepth 100000 in
theorem eL_repeats_17 {a : Option Nat} {l1 l2 l3 : Option VV} {S : MM} : rn xL_repeats (17, [some (.inr (.inl a)), l1, l2, l3], [], S) = rn xL_repeats (18, [some (.inr (.inl a)), l1, l2, l3], [.inr (.inl a)], S) := rn_step dL_repeats_17 rfl rfl
set_option maxRecDepth 100000 in
theorem eL_repeats_18 {a : Int} {l0 l2 l3 : Option VV} {v0 : VV} {S : MM} : rn xL_repeats (18, [l0, some (vI a), l2, l3], [v0], S) = rn xL_repeats (19, [l0, some (vI a), l2, l3], [vI a, v0], S) := rn_step dL_repeats_18 rfl rfl
set_option maxRecDepth 100000 in
theorem eL_repeats_19 {a : Int} {l0 l1 l2 : Option VV} {v0 v1 : VV} {S : MM} : rn xL_repeats (19, [l0, l1, l2, some (vI a)], [v0, v1], S) = rn xL_repeats (20, [l0, l1, l2, some (vI a)], [vI a, v0, v1], S) := rn_step dL_repeats_19 rfl rfl
set_option maxRecDepth 100000 in
theorem eL_repeats_20 {l0 l1 l2 l3 : Option VV} {v0 v1 v2 : VV} {S : MM} : rn xL_repeats (20, [l0, l1, l2, l3], [v0, v1, v2], S) = rn xL_repeats (21, [l0, l1, l2, l3], [vI 0, v0, v1, v2], S) := rn_step dL_repeats_20 rfl rfl
set_option maxRecDepth 100000 in
theorem eL_repeats_21 {a0 : Int} {a1 : Int} {a2 : Int} {l0 l1 l2 l3 : Option VV} {S : MM} : rn xL_repeats (21, [l0, l1, l2, l3], [vI a2, vI a1, vI a0, vR 0], S) = (fX8_ofStone [vR 0, vI a0, vI a1, vI a2] S).bind (fun q => rn xL_repeats (24, [l0, l1, l2, l3], q.1.toList ++ [], q.2)) := q_callV (n := 3) (as := [vI a0, vI a1, vI a2]) (rest := []) dL_repeats_21 rfl rfl rfl rfl kd0
set_option maxRecDepth 100000 in
theorem eL_repeats_24 {a : Int} {l0 l1 l3 : Option VV} {v0 : VV} {S : MM} : rn xL_repeats (24, [l0, l1, some (vI a), l3], [v0], S) = rn xL_repeats (25, [l0, l1, some (vI a), l3], [vI a, v0], S) := rn_step dL_repeats_24 rfl rfl
set_option maxRecDepth 100000 in
theorem eL_repeats_25 {a b : Int} {l0 l1 l2 l3 : Option VV} (h : -2147483648 ≤ a ∧ a ≤ 2147483647) (h1 : -2147483648 ≤ b ∧ b ≤ 2147483647) {S : MM} : rn xL_repeats (25, [l0, l1, l2, l3], [vI b, vI a], S) = if a = b then rn xL_repeats (28, [l0, l1, l2, l3], [], S) else rn xL_repeats (38, [l0, l1, l2, l3], [], S) := q_icmp_ne dL_repeats_25 (by decide) rfl h h1
set_option maxRecDepth 100000 in
theorem eL_repeats_28 {a : Option Nat} {l1 l2 l3 : Option VV} {S : MM} : rn xL_repeats (28, [some (.inr (.inl a)), l1, l2, l3], [], S) = rn xL_repeats (29, [some (.inr (.inl a)), l1, l2, l3], [.inr (.inl a)], S) := rn_step dL_repeats_28 rfl rfl
set_option maxRecDepth 100000 in
theorem eL_repeats_29 {a : Int} {l0 l2 l3 : Option VV} {v0 : VV} {S : MM} : rn xL_repeats (29, [l0, some (vI a), l2, l3], [v0], S) = rn xL_repeats (30, [l0, some (vI a), l2, l3], [vI a, v0], S) := rn_step dL_repeats_29 rfl rfl
set_option maxRecDepth 100000 in
theorem eL_repeats_30 {a : Int} {l0 l1 l2 : Option VV} {v0 v1 : VV} {S : MM} : rn xL_repeats (30, [l0, l1, l2, some (vI a)], [v0, v1], S) = rn xL_repeats (31, [l0, l1, l2, some (vI a)], [vI a, v0, v1], S) := rn_step dL_repeats_30 rfl rfl
set_option maxRecDepth 100000 in
theorem eL_repeats_31 {l0 l1 l2 l3 : Option VV} {v0 v1 v2 : VV} {S : MM} : rn xL_repeats (31, [l0, l1, l2, l3], [v0, v1, v2], S) = rn xL_repeats (32, [l0, l1, l2, l3], [vI 1, v0, v1, v2], S) := rn_step dL_repeats_31 rfl rfl
set_option maxRecDepth 100000 in
theorem eL_repeats_32 {a0 : Int} {a1 : Int} {a2 : Int} {l0 l1 l2 l3 : Option VV} {S : MM} : rn xL_repeats (32, [l0, l1, l2, l3], [vI a2, vI a1, vI a0, vR 0], S) = (fX8_ofStone [vR 0, vI a0, vI a1, vI a2] S).bind (fun q => rn xL_repeats (35, [l0, l1, l2, l3], q.1.toList ++ [], q.2)) := q_callV (n := 3) (as := [vI a0, vI a1, vI a2]) (rest := []) dL_repeats_32 rfl rfl rfl rfl kd0
set_option maxRecDepth 100000 in
theorem eL_repeats_35 {l0 l1 l2 l3 : Option VV} {v0 : VV} {S : MM} : rn xL_repeats (35, [l0, l1, l2, l3], [v0], S) = rn xL_repeats (39, [l0, l1, l2, l3], [v0], S) := rn_step dL_repeats_35 rfl rfl
set_option maxRecDepth 100000 in
theorem eL_repeats_38 {l0 l1 l2 l3 : Option VV} {S : MM} : rn xL_repeats (38, [l0, l1, l2, l3], [], S) = rn xL_repeats (39, [l0, l1, l2, l3], [vI 0], S) := rn_step dL_repeats_38 rfl rfl
set_option maxRecDepth 100000 in
theorem eL_repeats_39 {z : Int} {l0 l1 l2 l3 : Option VV} {S : MM} : rn xL_repeats (39, [l0, l1, l2, l3], [vI z], S) = some (some (vI z), S) := q_retI dL_repeats_39 rfl
noncomputable def qlL_print : List CE := [(0, 50, 8, 3, fX8_ofWalker), (0, 55, 8, 4, fX8_ofStone), (0, 58, 8, 2, fX8_ofRun), (0, 62, 8, 2, fX8_count)]
noncomputable def xL_print : XX := (cL_print, fcF fclL, mcF qlL_print, 5)
noncomputable def fL_print : FN := fnX xL_print 5
set_option maxRecDepth 100000 in
theorem cwL_print : Cond.code yL_print cL_print 5 (some .long) ∈ lw_g := lw_gm 746 (by exact rfl) (by decide +kernel)
set_option maxRecDepth 100000 in
theorem conL_print : Con yL_print cL_print 5 (some .long) { frames := 5, cells := 0, slots := 0, locals := 107 } fL_print := con_of (X := xL_print) (own := "LeapStonesLaw") (ql := qlL_print) (by decide) rfl FOKL rfl (List.forall_mem_cons.mpr ⟨call_V conX8_ofWalker cwX8_ofWalker (lw_gl _ [392, 393, 394, 21] (by decide +kernel) (by decide +kernel)) (by decide) rfl ⟨by decide, by decide, by decide +kernel⟩ ⟨rfl, rfl⟩ ⟨by decide, by decide⟩ ⟨Nat.le_refl _, Nat.le_refl _⟩, List.forall_mem_cons.mpr ⟨call_V conX8_ofStone cwX8_ofStone (lw_gl _ [416, 417, 418, 21] (by decide +kernel) (by decide +kernel)) (by decide) rfl ⟨by decide, by decide, by decide +kernel⟩ ⟨rfl, rfl⟩ ⟨by decide, by decide⟩ ⟨Nat.le_refl _, Nat.le_refl _⟩, List.forall_mem_cons.mpr ⟨call_V conX8_ofRun cwX8_ofRun (lw_gl _ [498, 499, 500, 21] (by decide +kernel) (by decide +kernel)) (by decide) rfl ⟨by decide, by decide, by decide +kernel⟩ ⟨rfl, rfl⟩ ⟨by decide, by decide⟩ ⟨Nat.le_refl _, Nat.le_refl _⟩, List.forall_mem_cons.mpr ⟨call_V conX8_count cwX8_count (lw_gl _ [518, 519, 520, 21] (by decide +kernel) (by decide +kernel)) (by decide) rfl ⟨by decide, by decide, by decide +kernel⟩ ⟨rfl, rfl⟩ ⟨by decide, by decide⟩ ⟨Nat.le_refl _, Nat.le_refl _⟩, fun _ h => absurd h List.not_mem_nil⟩⟩⟩⟩) (Or.inr (Or.inr (Or.inr (Or.inr (Or.inr ⟨rfl, rfl⟩)))))
theorem uL_print {a0 : Option Nat} {S : MM} : fL_print [.inr (.inl a0)] S = rn xL_print (0, [some (.inr (.inl a0)), none, none, none, none], [], S) := rfl
theorem dL_print_0 : decode cL_print 0 = .ok (.ldc2_w 48, 3) := by decide +kernel
theorem dL_print_3 : decode cL_print 3 = .ok (.lstore_n 1, 1) := by decide +kernel
theorem dL_print_4 : decode cL_print 4 = .ok (.iconst 0, 1) := by decide +kernel
theorem dL_print_5 : decode cL_print 5 = .ok (.istore_n 3, 1) := by decide +kernel
theorem dL_print_6 : decode cL_print 6 = .ok (.iload_n 3, 1) := by decide +kernel
theorem dL_print_7 : decode cL_print 7 = .ok (.iconst 3, 1) := by decide +kernel
theorem dL_print_8 : decode cL_print 8 = .ok (.if_icmp .ge 90, 3) := by decide +kernel
theorem dL_print_11 : decode cL_print 11 = .ok (.iconst 0, 1) := by decide +kernel
theorem dL_print_12 : decode cL_print 12 = .ok (.istore 4, 2) := by decide +kernel
theorem dL_print_14 : decode cL_print 14 = .ok (.iload 4, 2) := by decide +kernel
theorem dL_print_16 : decode cL_print 16 = .ok (.aload_n 0, 1) := by decide +kernel
theorem dL_print_17 : decode cL_print 17 = .ok (.iload_n 3, 1) := by decide +kernel
theorem dL_print_18 : decode cL_print 18 = .ok (.iconst 0, 1) := by decide +kernel
theorem dL_print_19 : decode cL_print 19 = .ok (.invokevirtual 50, 3) := by decide +kernel
theorem dL_print_22 : decode cL_print 22 = .ok (.if_icmp .ge 39, 3) := by decide +kernel
theorem dL_print_25 : decode cL_print 25 = .ok (.ldc2_w 53, 3) := by decide +kernel
theorem dL_print_28 : decode cL_print 28 = .ok (.ldc2_w 53, 3) := by decide +kernel
theorem dL_print_31 : decode cL_print 31 = .ok (.lload_n 1, 1) := by decide +kernel
theorem dL_print_32 : decode cL_print 32 = .ok (.lmul, 1) := by decide +kernel
theorem dL_print_33 : decode cL_print 33 = .ok (.aload_n 0, 1) := by decide +kernel
theorem dL_print_34 : decode cL_print 34 = .ok (.iload_n 3, 1) := by decide +kernel
theorem dL_print_35 : decode cL_print 35 = .ok (.iload 4, 2) := by decide +kernel
theorem dL_print_37 : decode cL_print 37 = .ok (.iconst 0, 1) := by decide +kernel
theorem dL_print_38 : decode cL_print 38 = .ok (.invokevirtual 55, 3) := by decide +kernel
theorem dL_print_41 : decode cL_print 41 = .ok (.i2l, 1) := by decide +kernel
theorem dL_print_42 : decode cL_print 42 = .ok (.ladd, 1) := by decide +kernel
theorem dL_print_43 : decode cL_print 43 = .ok (.lmul, 1) := by decide +kernel
theorem dL_print_44 : decode cL_print 44 = .ok (.aload_n 0, 1) := by decide +kernel
theorem dL_print_45 : decode cL_print 45 = .ok (.iload_n 3, 1) := by decide +kernel
theorem dL_print_46 : decode cL_print 46 = .ok (.iload 4, 2) := by decide +kernel
theorem dL_print_48 : decode cL_print 48 = .ok (.iconst 1, 1) := by decide +kernel
theorem dL_print_49 : decode cL_print 49 = .ok (.invokevirtual 55, 3) := by decide +kernel
theorem dL_print_52 : decode cL_print 52 = .ok (.i2l, 1) := by decide +kernel
theorem dL_print_53 : decode cL_print 53 = .ok (.ladd, 1) := by decide +kernel
theorem dL_print_54 : decode cL_print 54 = .ok (.lstore_n 1, 1) := by decide +kernel
theorem dL_print_55 : decode cL_print 55 = .ok (.iinc 4 1, 3) := by decide +kernel
theorem dL_print_58 : decode cL_print 58 = .ok (.goto (-44), 3) := by decide +kernel
theorem dL_print_61 : decode cL_print 61 = .ok (.iconst 0, 1) := by decide +kernel
theorem dL_print_62 : decode cL_print 62 = .ok (.istore 4, 2) := by decide +kernel
theorem dL_print_64 : decode cL_print 64 = .ok (.iload 4, 2) := by decide +kernel
theorem dL_print_66 : decode cL_print 66 = .ok (.bipush 7, 2) := by decide +kernel
theorem dL_print_68 : decode cL_print 68 = .ok (.if_icmp .ge 24, 3) := by decide +kernel
theorem dL_print_71 : decode cL_print 71 = .ok (.ldc2_w 53, 3) := by decide +kernel
theorem dL_print_74 : decode cL_print 74 = .ok (.lload_n 1, 1) := by decide +kernel
theorem dL_print_75 : decode cL_print 75 = .ok (.lmul, 1) := by decide +kernel
theorem dL_print_76 : decode cL_print 76 = .ok (.aload_n 0, 1) := by decide +kernel
theorem dL_print_77 : decode cL_print 77 = .ok (.iload_n 3, 1) := by decide +kernel
theorem dL_print_78 : decode cL_print 78 = .ok (.iload 4, 2) := by decide +kernel
theorem dL_print_80 : decode cL_print 80 = .ok (.invokevirtual 50, 3) := by decide +kernel
theorem dL_print_83 : decode cL_print 83 = .ok (.i2l, 1) := by decide +kernel
theorem dL_print_84 : decode cL_print 84 = .ok (.ladd, 1) := by decide +kernel
theorem dL_print_85 : decode cL_print 85 = .ok (.lstore_n 1, 1) := by decide +kernel
theorem dL_print_86 : decode cL_print 86 = .ok (.iinc 4 1, 3) := by decide +kernel
theorem dL_print_89 : decode cL_print 89 = .ok (.goto (-25), 3) := by decide +kernel
theorem dL_print_92 : decode cL_print 92 = .ok (.iinc 3 1, 3) := by decide +kernel
theorem dL_print_95 : decode cL_print 95 = .ok (.goto (-89), 3) := by decide +kernel
theorem dL_print_98 : decode cL_print 98 = .ok (.iconst 0, 1) := by decide +kernel
theorem dL_print_99 : decode cL_print 99 = .ok (.istore_n 3, 1) := by decide +kernel
theorem dL_print_100 : decode cL_print 100 = .ok (.iload_n 3, 1) := by decide +kernel
theorem dL_print_101 : decode cL_print 101 = .ok (.bipush 8, 2) := by decide +kernel
theorem dL_print_103 : decode cL_print 103 = .ok (.if_icmp .ge 22, 3) := by decide +kernel
theorem dL_print_106 : decode cL_print 106 = .ok (.ldc2_w 53, 3) := by decide +kernel
theorem dL_print_109 : decode cL_print 109 = .ok (.lload_n 1, 1) := by decide +kernel
theorem dL_print_110 : decode cL_print 110 = .ok (.lmul, 1) := by decide +kernel
theorem dL_print_111 : decode cL_print 111 = .ok (.aload_n 0, 1) := by decide +kernel
theorem dL_print_112 : decode cL_print 112 = .ok (.iload_n 3, 1) := by decide +kernel
theorem dL_print_113 : decode cL_print 113 = .ok (.invokevirtual 58, 3) := by decide +kernel
theorem dL_print_116 : decode cL_print 116 = .ok (.i2l, 1) := by decide +kernel
theorem dL_print_117 : decode cL_print 117 = .ok (.ladd, 1) := by decide +kernel
theorem dL_print_118 : decode cL_print 118 = .ok (.lstore_n 1, 1) := by decide +kernel
theorem dL_print_119 : decode cL_print 119 = .ok (.iinc 3 1, 3) := by decide +kernel
theorem dL_print_122 : decode cL_print 122 = .ok (.goto (-22), 3) := by decide +kernel
theorem dL_print_125 : decode cL_print 125 = .ok (.iconst 0, 1) := by decide +kernel
theorem dL_print_126 : decode cL_print 126 = .ok (.istore_n 3, 1) := by decide +kernel
theorem dL_print_127 : decode cL_print 127 = .ok (.iload_n 3, 1) := by decide +kernel
theorem dL_print_128 : decode cL_print 128 = .ok (.bipush 6, 2) := by decide +kernel
theorem dL_print_130 : decode cL_print 130 = .ok (.if_icmp .ge 22, 3) := by decide +kernel
theorem dL_print_133 : decode cL_print 133 = .ok (.ldc2_w 53, 3) := by decide +kernel
theorem dL_print_136 : decode cL_print 136 = .ok (.lload_n 1, 1) := by decide +kernel
theorem dL_print_137 : decode cL_print 137 = .ok (.lmul, 1) := by decide +kernel
theorem dL_print_138 : decode cL_print 138 = .ok (.aload_n 0, 1) := by decide +kernel
theorem dL_print_139 : decode cL_print 139 = .ok (.iload_n 3, 1) := by decide +kernel
theorem dL_print_140 : decode cL_print 140 = .ok (.invokevirtual 62, 3) := by decide +kernel
theorem dL_print_143 : decode cL_print 143 = .ok (.i2l, 1) := by decide +kernel
theorem dL_print_144 : decode cL_print 144 = .ok (.ladd, 1) := by decide +kernel
theorem dL_print_145 : decode cL_print 145 = .ok (.lstore_n 1, 1) := by decide +kernel
theorem dL_print_146 : decode cL_print 146 = .ok (.iinc 3 1, 3) := by decide +kernel
theorem dL_print_149 : decode cL_print 149 = .ok (.goto (-22), 3) := by decide +kernel
theorem dL_print_152 : decode cL_print 152 = .ok (.lload_n 1, 1) := by decide +kernel
theorem dL_print_153 : decode cL_print 153 = .ok (.lreturn, 1) := by decide +kernel
set_option maxRecDepth 100000 in
theorem eL_print_0 {l0 l1 l2 l3 l4 : Option VV} {S : MM} : rn xL_print (0, [l0, l1, l2, l3, l4], [], S) = rn xL_print (3, [l0, l1, l2, l3, l4], [vJ 7], S) := q_ldc2 dL_print_0 rfl
set_option maxRecDepth 100000 in
theorem eL_print_3 {a : Nat} {w : Option Nat} {l1 l2 l3 l4 : Option VV} {S : MM} : rn xL_print (3, [some (.inr (.inl w)), l1, l2, l3, l4], [vJ a], S) = rn xL_print (4, [some (.inr (.inl w)), some (vJ a), none, l3, l4], [], S) := rn_step dL_print_3 rfl rfl
set_option maxRecDepth 100000 in
theorem eL_print_4 {l0 l1 l2 l3 l4 : Option VV} {S : MM} : rn xL_print (4, [l0, l1, l2, l3, l4], [], S) = rn xL_print (5, [l0, l1, l2, l3, l4], [vI 0], S) := rn_step dL_print_4 rfl rfl
set_option maxRecDepth 100000 in
theorem eL_print_5 {a : Int} {l0 l1 l3 l4 : Option VV} {S : MM} : rn xL_print (5, [l0, l1, none, l3, l4], [vI a], S) = rn xL_print (6, [l0, l1, none, some (vI a), l4], [], S) := rn_step dL_print_5 rfl rfl
set_option maxRecDepth 100000 in
theorem eL_print_6 {a : Int} {l0 l1 l2 l4 : Option VV} {S : MM} : rn xL_print (6, [l0, l1, l2, some (vI a), l4], [], S) = rn xL_print (7, [l0, l1, l2, some (vI a), l4], [vI a], S) := rn_step dL_print_6 rfl rfl
set_option maxRecDepth 100000 in
theorem eL_print_7 {l0 l1 l2 l3 l4 : Option VV} {v0 : VV} {S : MM} : rn xL_print (7, [l0, l1, l2, l3, l4], [v0], S) = rn xL_print (8, [l0, l1, l2, l3, l4], [vI 3, v0], S) := rn_step dL_print_7 rfl rfl
set_option maxRecDepth 100000 in
theorem eL_print_8 {a b : Int} {l0 l1 l2 l3 l4 : Option VV} (h : -2147483648 ≤ a ∧ a ≤ 2147483647) (h1 : -2147483648 ≤ b ∧ b ≤ 2147483647) {S : MM} : rn xL_print (8, [l0, l1, l2, l3, l4], [vI b, vI a], S) = if a < b then rn xL_print (11, [l0, l1, l2, l3, l4], [], S) else rn xL_print (98, [l0, l1, l2, l3, l4], [], S) := q_icmp_ge dL_print_8 (by decide) rfl h h1
set_option maxRecDepth 100000 in
theorem eL_print_11 {l0 l1 l2 l3 l4 : Option VV} {S : MM} : rn xL_print (11, [l0, l1, l2, l3, l4], [], S) = rn xL_print (12, [l0, l1, l2, l3, l4], [vI 0], S) := rn_step dL_print_11 rfl rfl
set_option maxRecDepth 100000 in
theorem eL_print_12 {a : Int} {w : Int} {l0 l1 l2 l4 : Option VV} {S : MM} : rn xL_print (12, [l0, l1, l2, some (vI w), l4], [vI a], S) = rn xL_print (14, [l0, l1, l2, some (vI w), some (vI a)], [], S) := rn_step dL_print_12 rfl rfl
set_option maxRecDepth 100000 in
theorem eL_print_14 {a : Int} {l0 l1 l2 l3 : Option VV} {S : MM} : rn xL_print (14, [l0, l1, l2, l3, some (vI a)], [], S) = rn xL_print (16, [l0, l1, l2, l3, some (vI a)], [vI a], S) := rn_step dL_print_14 rfl rfl
set_option maxRecDepth 100000 in
theorem eL_print_16 {a : Option Nat} {l1 l2 l3 l4 : Option VV} {v0 : VV} {S : MM} : rn xL_print (16, [some (.inr (.inl a)), l1, l2, l3, l4], [v0], S) = rn xL_print (17, [some (.inr (.inl a)), l1, l2, l3, l4], [.inr (.inl a), v0], S) := rn_step dL_print_16 rfl rfl
set_option maxRecDepth 100000 in
theorem eL_print_17 {a : Int} {l0 l1 l2 l4 : Option VV} {v0 v1 : VV} {S : MM} : rn xL_print (17, [l0, l1, l2, some (vI a), l4], [v0, v1], S) = rn xL_print (18, [l0, l1, l2, some (vI a), l4], [vI a, v0, v1], S) := rn_step dL_print_17 rfl rfl
set_option maxRecDepth 100000 in
theorem eL_print_18 {l0 l1 l2 l3 l4 : Option VV} {v0 v1 v2 : VV} {S : MM} : rn xL_print (18, [l0, l1, l2, l3, l4], [v0, v1, v2], S) = rn xL_print (19, [l0, l1, l2, l3, l4], [vI 0, v0, v1, v2], S) := rn_step dL_print_18 rfl rfl
set_option maxRecDepth 100000 in
theorem eL_print_19 {a0 : Int} {a1 : Int} {l0 l1 l2 l3 l4 : Option VV} {v3 : VV} {S : MM} : rn xL_print (19, [l0, l1, l2, l3, l4], [vI a1, vI a0, vR 0, v3], S) = (fX8_ofWalker [vR 0, vI a0, vI a1] S).bind (fun q => rn xL_print (22, [l0, l1, l2, l3, l4], q.1.toList ++ [v3], q.2)) := q_callV (n := 2) (as := [vI a0, vI a1]) (rest := [v3]) dL_print_19 rfl rfl rfl rfl kd0
set_option maxRecDepth 100000 in
theorem eL_print_22 {a b : Int} {l0 l1 l2 l3 l4 : Option VV} (h : -2147483648 ≤ a ∧ a ≤ 2147483647) (h1 : -2147483648 ≤ b ∧ b ≤ 2147483647) {S : MM} : rn xL_print (22, [l0, l1, l2, l3, l4], [vI b, vI a], S) = if a < b then rn xL_print (25, [l0, l1, l2, l3, l4], [], S) else rn xL_print (61, [l0, l1, l2, l3, l4], [], S) := q_icmp_ge dL_print_22 (by decide) rfl h h1
set_option maxRecDepth 100000 in
theorem eL_print_25 {l0 l1 l2 l3 l4 : Option VV} {S : MM} : rn xL_print (25, [l0, l1, l2, l3, l4], [], S) = rn xL_print (28, [l0, l1, l2, l3, l4], [vJ 31], S) := q_ldc2 dL_print_25 rfl
set_option maxRecDepth 100000 in
theorem eL_print_28 {l0 l1 l2 l3 l4 : Option VV} {v0 : VV} {S : MM} : rn xL_print (28, [l0, l1, l2, l3, l4], [v0], S) = rn xL_print (31, [l0, l1, l2, l3, l4], [vJ 31, v0], S) := q_ldc2 dL_print_28 rfl
set_option maxRecDepth 100000 in
theorem eL_print_31 {a : Nat} {l0 l2 l3 l4 : Option VV} {v0 v1 : VV} {S : MM} : rn xL_print (31, [l0, some (vJ a), l2, l3, l4], [v0, v1], S) = rn xL_print (32, [l0, some (vJ a), l2, l3, l4], [vJ a, v0, v1], S) := rn_step dL_print_31 rfl rfl
set_option maxRecDepth 100000 in
theorem eL_print_32 {a b : Nat} {l0 l1 l2 l3 l4 : Option VV} {v2 : VV} (h : a < 18446744073709551616) (h1 : b < 18446744073709551616) {S : MM} : rn xL_print (32, [l0, l1, l2, l3, l4], [vJ b, vJ a, v2], S) = rn xL_print (33, [l0, l1, l2, l3, l4], [vJ ((a * b) % 18446744073709551616), v2], S) := q_lmul dL_print_32 h h1
set_option maxRecDepth 100000 in
theorem eL_print_33 {a : Option Nat} {l1 l2 l3 l4 : Option VV} {v0 v1 : VV} {S : MM} : rn xL_print (33, [some (.inr (.inl a)), l1, l2, l3, l4], [v0, v1], S) = rn xL_print (34, [some (.inr (.inl a)), l1, l2, l3, l4], [.inr (.inl a), v0, v1], S) := rn_step dL_print_33 rfl rfl
set_option maxRecDepth 100000 in
theorem eL_print_34 {a : Int} {l0 l1 l2 l4 : Option VV} {v0 v1 v2 : VV} {S : MM} : rn xL_print (34, [l0, l1, l2, some (vI a), l4], [v0, v1, v2], S) = rn xL_print (35, [l0, l1, l2, some (vI a), l4], [vI a, v0, v1, v2], S) := rn_step dL_print_34 rfl rfl
set_option maxRecDepth 100000 in
theorem eL_print_35 {a : Int} {l0 l1 l2 l3 : Option VV} {v0 v1 v2 v3 : VV} {S : MM} : rn xL_print (35, [l0, l1, l2, l3, some (vI a)], [v0, v1, v2, v3], S) = rn xL_print (37, [l0, l1, l2, l3, some (vI a)], [vI a, v0, v1, v2, v3], S) := rn_step dL_print_35 rfl rfl
set_option maxRecDepth 100000 in
theorem eL_print_37 {l0 l1 l2 l3 l4 : Option VV} {v0 v1 v2 v3 v4 : VV} {S : MM} : rn xL_print (37, [l0, l1, l2, l3, l4], [v0, v1, v2, v3, v4], S) = rn xL_print (38, [l0, l1, l2, l3, l4], [vI 0, v0, v1, v2, v3, v4], S) := rn_step dL_print_37 rfl rfl
set_option maxRecDepth 100000 in
theorem eL_print_38 {a0 : Int} {a1 : Int} {a2 : Int} {l0 l1 l2 l3 l4 : Option VV} {v4 v5 : VV} {S : MM} : rn xL_print (38, [l0, l1, l2, l3, l4], [vI a2, vI a1, vI a0, vR 0, v4, v5], S) = (fX8_ofStone [vR 0, vI a0, vI a1, vI a2] S).bind (fun q => rn xL_print (41, [l0, l1, l2, l3, l4], q.1.toList ++ [v4, v5], q.2)) := q_callV (n := 3) (as := [vI a0, vI a1, vI a2]) (rest := [v4, v5]) dL_print_38 rfl rfl rfl rfl kd0
set_option maxRecDepth 100000 in
theorem eL_print_41 {a : Int} {l0 l1 l2 l3 l4 : Option VV} {v1 v2 : VV} (h : -2147483648 ≤ a ∧ a ≤ 2147483647) {S : MM} : rn xL_print (41, [l0, l1, l2, l3, l4], [vI a, v1, v2], S) = rn xL_print (42, [l0, l1, l2, l3, l4], [vJ (a % 18446744073709551616).toNat, v1, v2], S) := q_i2l dL_print_41 h
set_option maxRecDepth 100000 in
theorem eL_print_42 {a b : Nat} {l0 l1 l2 l3 l4 : Option VV} {v2 : VV} (h : a < 18446744073709551616) (h1 : b < 18446744073709551616) {S : MM} : rn xL_print (42, [l0, l1, l2, l3, l4], [vJ b, vJ a, v2], S) = rn xL_print (43, [l0, l1, l2, l3, l4], [vJ ((a + b) % 18446744073709551616), v2], S) := q_ladd dL_print_42 h h1
set_option maxRecDepth 100000 in
theorem eL_print_43 {a b : Nat} {l0 l1 l2 l3 l4 : Option VV} (h : a < 18446744073709551616) (h1 : b < 18446744073709551616) {S : MM} : rn xL_print (43, [l0, l1, l2, l3, l4], [vJ b, vJ a], S) = rn xL_print (44, [l0, l1, l2, l3, l4], [vJ ((a * b) % 18446744073709551616)], S) := q_lmul dL_print_43 h h1
set_option maxRecDepth 100000 in
theorem eL_print_44 {a : Option Nat} {l1 l2 l3 l4 : Option VV} {v0 : VV} {S : MM} : rn xL_print (44, [some (.inr (.inl a)), l1, l2, l3, l4], [v0], S) = rn xL_print (45, [some (.inr (.inl a)), l1, l2, l3, l4], [.inr (.inl a), v0], S) := rn_step dL_print_44 rfl rfl
set_option maxRecDepth 100000 in
theorem eL_print_45 {a : Int} {l0 l1 l2 l4 : Option VV} {v0 v1 : VV} {S : MM} : rn xL_print (45, [l0, l1, l2, some (vI a), l4], [v0, v1], S) = rn xL_print (46, [l0, l1, l2, some (vI a), l4], [vI a, v0, v1], S) := rn_step dL_print_45 rfl rfl
set_option maxRecDepth 100000 in
theorem eL_print_46 {a : Int} {l0 l1 l2 l3 : Option VV} {v0 v1 v2 : VV} {S : MM} : rn xL_print (46, [l0, l1, l2, l3, some (vI a)], [v0, v1, v2], S) = rn xL_print (48, [l0, l1, l2, l3, some (vI a)], [vI a, v0, v1, v2], S) := rn_step dL_print_46 rfl rfl
set_option maxRecDepth 100000 in
theorem eL_print_48 {l0 l1 l2 l3 l4 : Option VV} {v0 v1 v2 v3 : VV} {S : MM} : rn xL_print (48, [l0, l1, l2, l3, l4], [v0, v1, v2, v3], S) = rn xL_print (49, [l0, l1, l2, l3, l4], [vI 1, v0, v1, v2, v3], S) := rn_step dL_print_48 rfl rfl
set_option maxRecDepth 100000 in
theorem eL_print_49 {a0 : Int} {a1 : Int} {a2 : Int} {l0 l1 l2 l3 l4 : Option VV} {v4 : VV} {S : MM} : rn xL_print (49, [l0, l1, l2, l3, l4], [vI a2, vI a1, vI a0, vR 0, v4], S) = (fX8_ofStone [vR 0, vI a0, vI a1, vI a2] S).bind (fun q => rn xL_print (52, [l0, l1, l2, l3, l4], q.1.toList ++ [v4], q.2)) := q_callV (n := 3) (as := [vI a0, vI a1, vI a2]) (rest := [v4]) dL_print_49 rfl rfl rfl rfl kd0
set_option maxRecDepth 100000 in
theorem eL_print_52 {a : Int} {l0 l1 l2 l3 l4 : Option VV} {v1 : VV} (h : -2147483648 ≤ a ∧ a ≤ 2147483647) {S : MM} : rn xL_print (52, [l0, l1, l2, l3, l4], [vI a, v1], S) = rn xL_print (53, [l0, l1, l2, l3, l4], [vJ (a % 18446744073709551616).toNat, v1], S) := q_i2l dL_print_52 h
set_option maxRecDepth 100000 in
theorem eL_print_53 {a b : Nat} {l0 l1 l2 l3 l4 : Option VV} (h : a < 18446744073709551616) (h1 : b < 18446744073709551616) {S : MM} : rn xL_print (53, [l0, l1, l2, l3, l4], [vJ b, vJ a], S) = rn xL_print (54, [l0, l1, l2, l3, l4], [vJ ((a + b) % 18446744073709551616)], S) := q_ladd dL_print_53 h h1
set_option maxRecDepth 100000 in
theorem eL_print_54 {a : Nat} {w : Option Nat} {l1 l2 l3 l4 : Option VV} {S : MM} : rn xL_print (54, [some (.inr (.inl w)), l1, l2, l3, l4], [vJ a], S) = rn xL_print (55, [some (.inr (.inl w)), some (vJ a), none, l3, l4], [], S) := rn_step dL_print_54 rfl rfl
set_option maxRecDepth 100000 in
theorem eL_print_55 {a : Int} {w : Int} {l0 l1 l2 : Option VV} {S : MM} : rn xL_print (55, [l0, l1, l2, some (vI w), some (vI a)], [], S) = rn xL_print (58, [l0, l1, l2, some (vI w), some (vI (a + 1))], [], S) := rn_step dL_print_55 rfl rfl
set_option maxRecDepth 100000 in
theorem eL_print_58 {l0 l1 l2 l3 l4 : Option VV} {S : MM} : rn xL_print (58, [l0, l1, l2, l3, l4], [], S) = rn xL_print (14, [l0, l1, l2, l3, l4], [], S) := rn_step dL_print_58 rfl rfl
set_option maxRecDepth 100000 in
theorem eL_print_61 {l0 l1 l2 l3 l4 : Option VV} {S : MM} : rn xL_print (61, [l0, l1, l2, l3, l4], [], S) = rn xL_print (62, [l0, l1, l2, l3, l4], [vI 0], S) := rn_step dL_print_61 rfl rfl
set_option maxRecDepth 100000 in
theorem eL_print_62 {a : Int} {w : Int} {l0 l1 l2 l4 : Option VV} {S : MM} : rn xL_print (62, [l0, l1, l2, some (vI w), l4], [vI a], S) = rn xL_print (64, [l0, l1, l2, some (vI w), some (vI a)], [], S) := rn_step dL_print_62 rfl rfl
set_option maxRecDepth 100000 in
theorem eL_print_64 {a : Int} {l0 l1 l2 l3 : Option VV} {S : MM} : rn xL_print (64, [l0, l1, l2, l3, some (vI a)], [], S) = rn xL_print (66, [l0, l1, l2, l3, some (vI a)], [vI a], S) := rn_step dL_print_64 rfl rfl
set_option maxRecDepth 100000 in
theorem eL_print_66 {l0 l1 l2 l3 l4 : Option VV} {v0 : VV} {S : MM} : rn xL_print (66, [l0, l1, l2, l3, l4], [v0], S) = rn xL_print (68, [l0, l1, l2, l3, l4], [vI 7, v0], S) := rn_step dL_print_66 rfl rfl
set_option maxRecDepth 100000 in
theorem eL_print_68 {a b : Int} {l0 l1 l2 l3 l4 : Option VV} (h : -2147483648 ≤ a ∧ a ≤ 2147483647) (h1 : -2147483648 ≤ b ∧ b ≤ 2147483647) {S : MM} : rn xL_print (68, [l0, l1, l2, l3, l4], [vI b, vI a], S) = if a < b then rn xL_print (71, [l0, l1, l2, l3, l4], [], S) else rn xL_print (92, [l0, l1, l2, l3, l4], [], S) := q_icmp_ge dL_print_68 (by decide) rfl h h1
set_option maxRecDepth 100000 in
theorem eL_print_71 {l0 l1 l2 l3 l4 : Option VV} {S : MM} : rn xL_print (71, [l0, l1, l2, l3, l4], [], S) = rn xL_print (74, [l0, l1, l2, l3, l4], [vJ 31], S) := q_ldc2 dL_print_71 rfl
set_option maxRecDepth 100000 in
theorem eL_print_74 {a : Nat} {l0 l2 l3 l4 : Option VV} {v0 : VV} {S : MM} : rn xL_print (74, [l0, some (vJ a), l2, l3, l4], [v0], S) = rn xL_print (75, [l0, some (vJ a), l2, l3, l4], [vJ a, v0], S) := rn_step dL_print_74 rfl rfl
set_option maxRecDepth 100000 in
theorem eL_print_75 {a b : Nat} {l0 l1 l2 l3 l4 : Option VV} (h : a < 18446744073709551616) (h1 : b < 18446744073709551616) {S : MM} : rn xL_print (75, [l0, l1, l2, l3, l4], [vJ b, vJ a], S) = rn xL_print (76, [l0, l1, l2, l3, l4], [vJ ((a * b) % 18446744073709551616)], S) := q_lmul dL_print_75 h h1
set_option maxRecDepth 100000 in
theorem eL_print_76 {a : Option Nat} {l1 l2 l3 l4 : Option VV} {v0 : VV} {S : MM} : rn xL_print (76, [some (.inr (.inl a)), l1, l2, l3, l4], [v0], S) = rn xL_print (77, [some (.inr (.inl a)), l1, l2, l3, l4], [.inr (.inl a), v0], S) := rn_step dL_print_76 rfl rfl
set_option maxRecDepth 100000 in
theorem eL_print_77 {a : Int} {l0 l1 l2 l4 : Option VV} {v0 v1 : VV} {S : MM} : rn xL_print (77, [l0, l1, l2, some (vI a), l4], [v0, v1], S) = rn xL_print (78, [l0, l1, l2, some (vI a), l4], [vI a, v0, v1], S) := rn_step dL_print_77 rfl rfl
set_option maxRecDepth 100000 in
theorem eL_print_78 {a : Int} {l0 l1 l2 l3 : Option VV} {v0 v1 v2 : VV} {S : MM} : rn xL_print (78, [l0, l1, l2, l3, some (vI a)], [v0, v1, v2], S) = rn xL_print (80, [l0, l1, l2, l3, some (vI a)], [vI a, v0, v1, v2], S) := rn_step dL_print_78 rfl rfl
set_option maxRecDepth 100000 in
theorem eL_print_80 {a0 : Int} {a1 : Int} {l0 l1 l2 l3 l4 : Option VV} {v3 : VV} {S : MM} : rn xL_print (80, [l0, l1, l2, l3, l4], [vI a1, vI a0, vR 0, v3], S) = (fX8_ofWalker [vR 0, vI a0, vI a1] S).bind (fun q => rn xL_print (83, [l0, l1, l2, l3, l4], q.1.toList ++ [v3], q.2)) := q_callV (n := 2) (as := [vI a0, vI a1]) (rest := [v3]) dL_print_80 rfl rfl rfl rfl kd0
set_option maxRecDepth 100000 in
theorem eL_print_83 {a : Int} {l0 l1 l2 l3 l4 : Option VV} {v1 : VV} (h : -2147483648 ≤ a ∧ a ≤ 2147483647) {S : MM} : rn xL_print (83, [l0, l1, l2, l3, l4], [vI a, v1], S) = rn xL_print (84, [l0, l1, l2, l3, l4], [vJ (a % 18446744073709551616).toNat, v1], S) := q_i2l dL_print_83 h
set_option maxRecDepth 100000 in
theorem eL_print_84 {a b : Nat} {l0 l1 l2 l3 l4 : Option VV} (h : a < 18446744073709551616) (h1 : b < 18446744073709551616) {S : MM} : rn xL_print (84, [l0, l1, l2, l3, l4], [vJ b, vJ a], S) = rn xL_print (85, [l0, l1, l2, l3, l4], [vJ ((a + b) % 18446744073709551616)], S) := q_ladd dL_print_84 h h1
set_option maxRecDepth 100000 in
theorem eL_print_85 {a : Nat} {w : Option Nat} {l1 l2 l3 l4 : Option VV} {S : MM} : rn xL_print (85, [some (.inr (.inl w)), l1, l2, l3, l4], [vJ a], S) = rn xL_print (86, [some (.inr (.inl w)), some (vJ a), none, l3, l4], [], S) := rn_step dL_print_85 rfl rfl
set_option maxRecDepth 100000 in
theorem eL_print_86 {a : Int} {w : Int} {l0 l1 l2 : Option VV} {S : MM} : rn xL_print (86, [l0, l1, l2, some (vI w), some (vI a)], [], S) = rn xL_print (89, [l0, l1, l2, some (vI w), some (vI (a + 1))], [], S) := rn_step dL_print_86 rfl rfl
set_option maxRecDepth 100000 in
theorem eL_print_89 {l0 l1 l2 l3 l4 : Option VV} {S : MM} : rn xL_print (89, [l0, l1, l2, l3, l4], [], S) = rn xL_print (64, [l0, l1, l2, l3, l4], [], S) := rn_step dL_print_89 rfl rfl
set_option maxRecDepth 100000 in
theorem eL_print_92 {a : Int} {l0 l1 l4 : Option VV} {S : MM} : rn xL_print (92, [l0, l1, none, some (vI a), l4], [], S) = rn xL_print (95, [l0, l1, none, some (vI (a + 1)), l4], [], S) := rn_step dL_print_92 rfl rfl
set_option maxRecDepth 100000 in
theorem eL_print_95 {l0 l1 l2 l3 l4 : Option VV} {S : MM} : rn xL_print (95, [l0, l1, l2, l3, l4], [], S) = rn xL_print (6, [l0, l1, l2, l3, l4], [], S) := rn_step dL_print_95 rfl rfl
set_option maxRecDepth 100000 in
theorem eL_print_98 {l0 l1 l2 l3 l4 : Option VV} {S : MM} : rn xL_print (98, [l0, l1, l2, l3, l4], [], S) = rn xL_print (99, [l0, l1, l2, l3, l4], [vI 0], S) := rn_step dL_print_98 rfl rfl
set_option maxRecDepth 100000 in
theorem eL_print_99 {a : Int} {l0 l1 l3 l4 : Option VV} {S : MM} : rn xL_print (99, [l0, l1, none, l3, l4], [vI a], S) = rn xL_print (100, [l0, l1, none, some (vI a), l4], [], S) := rn_step dL_print_99 rfl rfl
set_option maxRecDepth 100000 in
theorem eL_print_100 {a : Int} {l0 l1 l2 l4 : Option VV} {S : MM} : rn xL_print (100, [l0, l1, l2, some (vI a), l4], [], S) = rn xL_print (101, [l0, l1, l2, some (vI a), l4], [vI a], S) := rn_step dL_print_100 rfl rfl
set_option maxRecDepth 100000 in
theorem eL_print_101 {l0 l1 l2 l3 l4 : Option VV} {v0 : VV} {S : MM} : rn xL_print (101, [l0, l1, l2, l3, l4], [v0], S) = rn xL_print (103, [l0, l1, l2, l3, l4], [vI 8, v0], S) := rn_step dL_print_101 rfl rfl
set_option maxRecDepth 100000 in
theorem eL_print_103 {a b : Int} {l0 l1 l2 l3 l4 : Option VV} (h : -2147483648 ≤ a ∧ a ≤ 2147483647) (h1 : -2147483648 ≤ b ∧ b ≤ 2147483647) {S : MM} : rn xL_print (103, [l0, l1, l2, l3, l4], [vI b, vI a], S) = if a < b then rn xL_print (106, [l0, l1, l2, l3, l4], [], S) else rn xL_print (125, [l0, l1, l2, l3, l4], [], S) := q_icmp_ge dL_print_103 (by decide) rfl h h1
set_option maxRecDepth 100000 in
theorem eL_print_106 {l0 l1 l2 l3 l4 : Option VV} {S : MM} : rn xL_print (106, [l0, l1, l2, l3, l4], [], S) = rn xL_print (109, [l0, l1, l2, l3, l4], [vJ 31], S) := q_ldc2 dL_print_106 rfl
set_option maxRecDepth 100000 in
theorem eL_print_109 {a : Nat} {l0 l2 l3 l4 : Option VV} {v0 : VV} {S : MM} : rn xL_print (109, [l0, some (vJ a), l2, l3, l4], [v0], S) = rn xL_print (110, [l0, some (vJ a), l2, l3, l4], [vJ a, v0], S) := rn_step dL_print_109 rfl rfl
set_option maxRecDepth 100000 in
theorem eL_print_110 {a b : Nat} {l0 l1 l2 l3 l4 : Option VV} (h : a < 18446744073709551616) (h1 : b < 18446744073709551616) {S : MM} : rn xL_print (110, [l0, l1, l2, l3, l4], [vJ b, vJ a], S) = rn xL_print (111, [l0, l1, l2, l3, l4], [vJ ((a * b) % 18446744073709551616)], S) := q_lmul dL_print_110 h h1
set_option maxRecDepth 100000 in
theorem eL_print_111 {a : Option Nat} {l1 l2 l3 l4 : Option VV} {v0 : VV} {S : MM} : rn xL_print (111, [some (.inr (.inl a)), l1, l2, l3, l4], [v0], S) = rn xL_print (112, [some (.inr (.inl a)), l1, l2, l3, l4], [.inr (.inl a), v0], S) := rn_step dL_print_111 rfl rfl
set_option maxRecDepth 100000 in
theorem eL_print_112 {a : Int} {l0 l1 l2 l4 : Option VV} {v0 v1 : VV} {S : MM} : rn xL_print (112, [l0, l1, l2, some (vI a), l4], [v0, v1], S) = rn xL_print (113, [l0, l1, l2, some (vI a), l4], [vI a, v0, v1], S) := rn_step dL_print_112 rfl rfl
set_option maxRecDepth 100000 in
theorem eL_print_113 {a0 : Int} {l0 l1 l2 l3 l4 : Option VV} {v2 : VV} {S : MM} : rn xL_print (113, [l0, l1, l2, l3, l4], [vI a0, vR 0, v2], S) = (fX8_ofRun [vR 0, vI a0] S).bind (fun q => rn xL_print (116, [l0, l1, l2, l3, l4], q.1.toList ++ [v2], q.2)) := q_callV (n := 1) (as := [vI a0]) (rest := [v2]) dL_print_113 rfl rfl rfl rfl kd0
set_option maxRecDepth 100000 in
theorem eL_print_116 {a : Int} {l0 l1 l2 l3 l4 : Option VV} {v1 : VV} (h : -2147483648 ≤ a ∧ a ≤ 2147483647) {S : MM} : rn xL_print (116, [l0, l1, l2, l3, l4], [vI a, v1], S) = rn xL_print (117, [l0, l1, l2, l3, l4], [vJ (a % 18446744073709551616).toNat, v1], S) := q_i2l dL_print_116 h
set_option maxRecDepth 100000 in
theorem eL_print_117 {a b : Nat} {l0 l1 l2 l3 l4 : Option VV} (h : a < 18446744073709551616) (h1 : b < 18446744073709551616) {S : MM} : rn xL_print (117, [l0, l1, l2, l3, l4], [vJ b, vJ a], S) = rn xL_print (118, [l0, l1, l2, l3, l4], [vJ ((a + b) % 18446744073709551616)], S) := q_ladd dL_print_117 h h1
set_option maxRecDepth 100000 in
theorem eL_print_118 {a : Nat} {w : Option Nat} {l1 l2 l3 l4 : Option VV} {S : MM} : rn xL_print (118, [some (.inr (.inl w)), l1, l2, l3, l4], [vJ a], S) = rn xL_print (119, [some (.inr (.inl w)), some (vJ a), none, l3, l4], [], S) := rn_step dL_print_118 rfl rfl
set_option maxRecDepth 100000 in
theorem eL_print_119 {a : Int} {l0 l1 l4 : Option VV} {S : MM} : rn xL_print (119, [l0, l1, none, some (vI a), l4], [], S) = rn xL_print (122, [l0, l1, none, some (vI (a + 1)), l4], [], S) := rn_step dL_print_119 rfl rfl
set_option maxRecDepth 100000 in
theorem eL_print_122 {l0 l1 l2 l3 l4 : Option VV} {S : MM} : rn xL_print (122, [l0, l1, l2, l3, l4], [], S) = rn xL_print (100, [l0, l1, l2, l3, l4], [], S) := rn_step dL_print_122 rfl rfl
set_option maxRecDepth 100000 in
theorem eL_print_125 {l0 l1 l2 l3 l4 : Option VV} {S : MM} : rn xL_print (125, [l0, l1, l2, l3, l4], [], S) = rn xL_print (126, [l0, l1, l2, l3, l4], [vI 0], S) := rn_step dL_print_125 rfl rfl
set_option maxRecDepth 100000 in
theorem eL_print_126 {a : Int} {l0 l1 l3 l4 : Option VV} {S : MM} : rn xL_print (126, [l0, l1, none, l3, l4], [vI a], S) = rn xL_print (127, [l0, l1, none, some (vI a), l4], [], S) := rn_step dL_print_126 rfl rfl
set_option maxRecDepth 100000 in
theorem eL_print_127 {a : Int} {l0 l1 l2 l4 : Option VV} {S : MM} : rn xL_print (127, [l0, l1, l2, some (vI a), l4], [], S) = rn xL_print (128, [l0, l1, l2, some (vI a), l4], [vI a], S) := rn_step dL_print_127 rfl rfl
set_option maxRecDepth 100000 in
theorem eL_print_128 {l0 l1 l2 l3 l4 : Option VV} {v0 : VV} {S : MM} : rn xL_print (128, [l0, l1, l2, l3, l4], [v0], S) = rn xL_print (130, [l0, l1, l2, l3, l4], [vI 6, v0], S) := rn_step dL_print_128 rfl rfl
set_option maxRecDepth 100000 in
theorem eL_print_130 {a b : Int} {l0 l1 l2 l3 l4 : Option VV} (h : -2147483648 ≤ a ∧ a ≤ 2147483647) (h1 : -2147483648 ≤ b ∧ b ≤ 2147483647) {S : MM} : rn xL_print (130, [l0, l1, l2, l3, l4], [vI b, vI a], S) = if a < b then rn xL_print (133, [l0, l1, l2, l3, l4], [], S) else rn xL_print (152, [l0, l1, l2, l3, l4], [], S) := q_icmp_ge dL_print_130 (by decide) rfl h h1
set_option maxRecDepth 100000 in
theorem eL_print_133 {l0 l1 l2 l3 l4 : Option VV} {S : MM} : rn xL_print (133, [l0, l1, l2, l3, l4], [], S) = rn xL_print (136, [l0, l1, l2, l3, l4], [vJ 31], S) := q_ldc2 dL_print_133 rfl
set_option maxRecDepth 100000 in
theorem eL_print_136 {a : Nat} {l0 l2 l3 l4 : Option VV} {v0 : VV} {S : MM} : rn xL_print (136, [l0, some (vJ a), l2, l3, l4], [v0], S) = rn xL_print (137, [l0, some (vJ a), l2, l3, l4], [vJ a, v0], S) := rn_step dL_print_136 rfl rfl
set_option maxRecDepth 100000 in
theorem eL_print_137 {a b : Nat} {l0 l1 l2 l3 l4 : Option VV} (h : a < 18446744073709551616) (h1 : b < 18446744073709551616) {S : MM} : rn xL_print (137, [l0, l1, l2, l3, l4], [vJ b, vJ a], S) = rn xL_print (138, [l0, l1, l2, l3, l4], [vJ ((a * b) % 18446744073709551616)], S) := q_lmul dL_print_137 h h1
set_option maxRecDepth 100000 in
theorem eL_print_138 {a : Option Nat} {l1 l2 l3 l4 : Option VV} {v0 : VV} {S : MM} : rn xL_print (138, [some (.inr (.inl a)), l1, l2, l3, l4], [v0], S) = rn xL_print (139, [some (.inr (.inl a)), l1, l2, l3, l4], [.inr (.inl a), v0], S) := rn_step dL_print_138 rfl rfl
set_option maxRecDepth 100000 in
theorem eL_print_139 {a : Int} {l0 l1 l2 l4 : Option VV} {v0 v1 : VV} {S : MM} : rn xL_print (139, [l0, l1, l2, some (vI a), l4], [v0, v1], S) = rn xL_print (140, [l0, l1, l2, some (vI a), l4], [vI a, v0, v1], S) := rn_step dL_print_139 rfl rfl
set_option maxRecDepth 100000 in
theorem eL_print_140 {a0 : Int} {l0 l1 l2 l3 l4 : Option VV} {v2 : VV} {S : MM} : rn xL_print (140, [l0, l1, l2, l3, l4], [vI a0, vR 0, v2], S) = (fX8_count [vR 0, vI a0] S).bind (fun q => rn xL_print (143, [l0, l1, l2, l3, l4], q.1.toList ++ [v2], q.2)) := q_callV (n := 1) (as := [vI a0]) (rest := [v2]) dL_print_140 rfl rfl rfl rfl kd0
set_option maxRecDepth 100000 in
theorem eL_print_143 {a : Int} {l0 l1 l2 l3 l4 : Option VV} {v1 : VV} (h : -2147483648 ≤ a ∧ a ≤ 2147483647) {S : MM} : rn xL_print (143, [l0, l1, l2, l3, l4], [vI a, v1], S) = rn xL_print (144, [l0, l1, l2, l3, l4], [vJ (a % 18446744073709551616).toNat, v1], S) := q_i2l dL_print_143 h
set_option maxRecDepth 100000 in
theorem eL_print_144 {a b : Nat} {l0 l1 l2 l3 l4 : Option VV} (h : a < 18446744073709551616) (h1 : b < 18446744073709551616) {S : MM} : rn xL_print (144, [l0, l1, l2, l3, l4], [vJ b, vJ a], S) = rn xL_print (145, [l0, l1, l2, l3, l4], [vJ ((a + b) % 18446744073709551616)], S) := q_ladd dL_print_144 h h1
set_option maxRecDepth 100000 in
theorem eL_print_145 {a : Nat} {w : Option Nat} {l1 l2 l3 l4 : Option VV} {S : MM} : rn xL_print (145, [some (.inr (.inl w)), l1, l2, l3, l4], [vJ a], S) = rn xL_print (146, [some (.inr (.inl w)), some (vJ a), none, l3, l4], [], S) := rn_step dL_print_145 rfl rfl
set_option maxRecDepth 100000 in
theorem eL_print_146 {a : Int} {l0 l1 l4 : Option VV} {S : MM} : rn xL_print (146, [l0, l1, none, some (vI a), l4], [], S) = rn xL_print (149, [l0, l1, none, some (vI (a + 1)), l4], [], S) := rn_step dL_print_146 rfl rfl
set_option maxRecDepth 100000 in
theorem eL_print_149 {l0 l1 l2 l3 l4 : Option VV} {S : MM} : rn xL_print (149, [l0, l1, l2, l3, l4], [], S) = rn xL_print (127, [l0, l1, l2, l3, l4], [], S) := rn_step dL_print_149 rfl rfl
set_option maxRecDepth 100000 in
theorem eL_print_152 {a : Nat} {l0 l2 l3 l4 : Option VV} {S : MM} : rn xL_print (152, [l0, some (vJ a), l2, l3, l4], [], S) = rn xL_print (153, [l0, some (vJ a), l2, l3, l4], [vJ a], S) := rn_step dL_print_152 rfl rfl
set_option maxRecDepth 100000 in
theorem eL_print_153 {u : Nat} {l0 l1 l2 l3 l4 : Option VV} {S : MM} : rn xL_print (153, [l0, l1, l2, l3, l4], [vJ u], S) = some (some (vJ u), S) := q_retJ dL_print_153 rfl
noncomputable def qlL_type : List CE := [(0, 102, 8, 2, fX8_put)]
noncomputable def xL_type : XX := (cL_type, fcF fclL, mcF qlL_type, 2)
noncomputable def fL_type : FN := fnX xL_type 11
set_option maxRecDepth 100000 in
theorem cwL_type : Cond.code yL_type cL_type 11 (some .boolean) ∈ lw_g := lw_gm 679 (by exact rfl) (by decide +kernel)
set_option maxRecDepth 100000 in
theorem conL_type : Con yL_type cL_type 11 (some .boolean) { frames := 3, cells := 0, slots := 0, locals := 69 } fL_type := con_of (X := xL_type) (own := "LeapStonesLaw") (ql := qlL_type) (by decide) rfl FOKL rfl (List.forall_mem_cons.mpr ⟨call_V conX8_put cwX8_put (lw_gl _ [680, 681, 682, 21] (by decide +kernel) (by decide +kernel)) (by decide) rfl ⟨by decide, by decide, by decide +kernel⟩ ⟨rfl, rfl⟩ ⟨by decide, by decide⟩ ⟨Nat.le_refl _, Nat.le_refl _⟩, fun _ h => absurd h List.not_mem_nil⟩) (Or.inr (Or.inr (Or.inl ⟨rfl, rfl⟩)))
theorem uL_type {a0 : Option Nat} {a1 : Int} {a2 : Int} {a3 : Int} {a4 : Int} {a5 : Int} {a6 : Int} {a7 : Int} {a8 : Int} {S : MM} : fL_type [.inr (.inl a0), vI a1, vI a2, vI a3, vI a4, vI a5, vI a6, vI a7, vI a8] S = rn xL_type (0, [some (.inr (.inl a0)), some (vI a1), some (vI a2), some (vI a3), some (vI a4), some (vI a5), some (vI a6), some (vI a7), some (vI a8), none, none], [], S) := rfl
theorem dL_type_0 : decode cL_type 0 = .ok (.iload_n 1, 1) := by decide +kernel
theorem dL_type_1 : decode cL_type 1 = .ok (.i2l, 1) := by decide +kernel
theorem dL_type_2 : decode cL_type 2 = .ok (.lstore 9, 2) := by decide +kernel
theorem dL_type_4 : decode cL_type 4 = .ok (.iload_n 2, 1) := by decide +kernel
theorem dL_type_5 : decode cL_type 5 = .ok (.ifCond .le 13, 3) := by decide +kernel
theorem dL_type_8 : decode cL_type 8 = .ok (.lload 9, 2) := by decide +kernel
theorem dL_type_10 : decode cL_type 10 = .ok (.bipush 8, 2) := by decide +kernel
theorem dL_type_12 : decode cL_type 12 = .ok (.lshl, 1) := by decide +kernel
theorem dL_type_13 : decode cL_type 13 = .ok (.iload_n 2, 1) := by decide +kernel
theorem dL_type_14 : decode cL_type 14 = .ok (.i2l, 1) := by decide +kernel
theorem dL_type_15 : decode cL_type 15 = .ok (.lor, 1) := by decide +kernel
theorem dL_type_16 : decode cL_type 16 = .ok (.lstore 9, 2) := by decide +kernel
theorem dL_type_18 : decode cL_type 18 = .ok (.iload_n 3, 1) := by decide +kernel
theorem dL_type_19 : decode cL_type 19 = .ok (.ifCond .le 13, 3) := by decide +kernel
theorem dL_type_22 : decode cL_type 22 = .ok (.lload 9, 2) := by decide +kernel
theorem dL_type_24 : decode cL_type 24 = .ok (.bipush 8, 2) := by decide +kernel
theorem dL_type_26 : decode cL_type 26 = .ok (.lshl, 1) := by decide +kernel
theorem dL_type_27 : decode cL_type 27 = .ok (.iload_n 3, 1) := by decide +kernel
theorem dL_type_28 : decode cL_type 28 = .ok (.i2l, 1) := by decide +kernel
theorem dL_type_29 : decode cL_type 29 = .ok (.lor, 1) := by decide +kernel
theorem dL_type_30 : decode cL_type 30 = .ok (.lstore 9, 2) := by decide +kernel
theorem dL_type_32 : decode cL_type 32 = .ok (.iload 4, 2) := by decide +kernel
theorem dL_type_34 : decode cL_type 34 = .ok (.ifCond .le 14, 3) := by decide +kernel
theorem dL_type_37 : decode cL_type 37 = .ok (.lload 9, 2) := by decide +kernel
theorem dL_type_39 : decode cL_type 39 = .ok (.bipush 8, 2) := by decide +kernel
theorem dL_type_41 : decode cL_type 41 = .ok (.lshl, 1) := by decide +kernel
theorem dL_type_42 : decode cL_type 42 = .ok (.iload 4, 2) := by decide +kernel
theorem dL_type_44 : decode cL_type 44 = .ok (.i2l, 1) := by decide +kernel
theorem dL_type_45 : decode cL_type 45 = .ok (.lor, 1) := by decide +kernel
theorem dL_type_46 : decode cL_type 46 = .ok (.lstore 9, 2) := by decide +kernel
theorem dL_type_48 : decode cL_type 48 = .ok (.iload 5, 2) := by decide +kernel
theorem dL_type_50 : decode cL_type 50 = .ok (.ifCond .le 14, 3) := by decide +kernel
theorem dL_type_53 : decode cL_type 53 = .ok (.lload 9, 2) := by decide +kernel
theorem dL_type_55 : decode cL_type 55 = .ok (.bipush 8, 2) := by decide +kernel
theorem dL_type_57 : decode cL_type 57 = .ok (.lshl, 1) := by decide +kernel
theorem dL_type_58 : decode cL_type 58 = .ok (.iload 5, 2) := by decide +kernel
theorem dL_type_60 : decode cL_type 60 = .ok (.i2l, 1) := by decide +kernel
theorem dL_type_61 : decode cL_type 61 = .ok (.lor, 1) := by decide +kernel
theorem dL_type_62 : decode cL_type 62 = .ok (.lstore 9, 2) := by decide +kernel
theorem dL_type_64 : decode cL_type 64 = .ok (.iload 6, 2) := by decide +kernel
theorem dL_type_66 : decode cL_type 66 = .ok (.ifCond .le 14, 3) := by decide +kernel
theorem dL_type_69 : decode cL_type 69 = .ok (.lload 9, 2) := by decide +kernel
theorem dL_type_71 : decode cL_type 71 = .ok (.bipush 8, 2) := by decide +kernel
theorem dL_type_73 : decode cL_type 73 = .ok (.lshl, 1) := by decide +kernel
theorem dL_type_74 : decode cL_type 74 = .ok (.iload 6, 2) := by decide +kernel
theorem dL_type_76 : decode cL_type 76 = .ok (.i2l, 1) := by decide +kernel
theorem dL_type_77 : decode cL_type 77 = .ok (.lor, 1) := by decide +kernel
theorem dL_type_78 : decode cL_type 78 = .ok (.lstore 9, 2) := by decide +kernel
theorem dL_type_80 : decode cL_type 80 = .ok (.iload 7, 2) := by decide +kernel
theorem dL_type_82 : decode cL_type 82 = .ok (.ifCond .le 14, 3) := by decide +kernel
theorem dL_type_85 : decode cL_type 85 = .ok (.lload 9, 2) := by decide +kernel
theorem dL_type_87 : decode cL_type 87 = .ok (.bipush 8, 2) := by decide +kernel
theorem dL_type_89 : decode cL_type 89 = .ok (.lshl, 1) := by decide +kernel
theorem dL_type_90 : decode cL_type 90 = .ok (.iload 7, 2) := by decide +kernel
theorem dL_type_92 : decode cL_type 92 = .ok (.i2l, 1) := by decide +kernel
theorem dL_type_93 : decode cL_type 93 = .ok (.lor, 1) := by decide +kernel
theorem dL_type_94 : decode cL_type 94 = .ok (.lstore 9, 2) := by decide +kernel
theorem dL_type_96 : decode cL_type 96 = .ok (.iload 8, 2) := by decide +kernel
theorem dL_type_98 : decode cL_type 98 = .ok (.ifCond .le 14, 3) := by decide +kernel
theorem dL_type_101 : decode cL_type 101 = .ok (.lload 9, 2) := by decide +kernel
theorem dL_type_103 : decode cL_type 103 = .ok (.bipush 8, 2) := by decide +kernel
theorem dL_type_105 : decode cL_type 105 = .ok (.lshl, 1) := by decide +kernel
theorem dL_type_106 : decode cL_type 106 = .ok (.iload 8, 2) := by decide +kernel
theorem dL_type_108 : decode cL_type 108 = .ok (.i2l, 1) := by decide +kernel
theorem dL_type_109 : decode cL_type 109 = .ok (.lor, 1) := by decide +kernel
theorem dL_type_110 : decode cL_type 110 = .ok (.lstore 9, 2) := by decide +kernel
theorem dL_type_112 : decode cL_type 112 = .ok (.aload_n 0, 1) := by decide +kernel
theorem dL_type_113 : decode cL_type 113 = .ok (.lload 9, 2) := by decide +kernel
theorem dL_type_115 : decode cL_type 115 = .ok (.invokevirtual 102, 3) := by decide +kernel
theorem dL_type_118 : decode cL_type 118 = .ok (.ifCond .le 7, 3) := by decide +kernel
theorem dL_type_121 : decode cL_type 121 = .ok (.iconst 1, 1) := by decide +kernel
theorem dL_type_122 : decode cL_type 122 = .ok (.goto 4, 3) := by decide +kernel
theorem dL_type_125 : decode cL_type 125 = .ok (.iconst 0, 1) := by decide +kernel
theorem dL_type_126 : decode cL_type 126 = .ok (.ireturn, 1) := by decide +kernel
set_option maxRecDepth 100000 in
theorem eL_type_0 {a : Int} {l0 l2 l3 l4 l5 l6 l7 l8 l9 l10 : Option VV} {S : MM} : rn xL_type (0, [l0, some (vI a), l2, l3, l4, l5, l6, l7, l8, l9, l10], [], S) = rn xL_type (1, [l0, some (vI a), l2, l3, l4, l5, l6, l7, l8, l9, l10], [vI a], S) := rn_step dL_type_0 rfl rfl
set_option maxRecDepth 100000 in
theorem eL_type_1 {a : Int} {l0 l1 l2 l3 l4 l5 l6 l7 l8 l9 l10 : Option VV} (h : -2147483648 ≤ a ∧ a ≤ 2147483647) {S : MM} : rn xL_type (1, [l0, l1, l2, l3, l4, l5, l6, l7, l8, l9, l10], [vI a], S) = rn xL_type (2, [l0, l1, l2, l3, l4, l5, l6, l7, l8, l9, l10], [vJ (a % 18446744073709551616).toNat], S) := q_i2l dL_type_1 h
set_option maxRecDepth 100000 in
theorem eL_type_2 {a : Nat} {w : Int} {l0 l1 l2 l3 l4 l5 l6 l7 l9 l10 : Option VV} {S : MM} : rn xL_type (2, [l0, l1, l2, l3, l4, l5, l6, l7, some (vI w), l9, l10], [vJ a], S) = rn xL_type (4, [l0, l1, l2, l3, l4, l5, l6, l7, some (vI w), some (vJ a), none], [], S) := rn_step dL_type_2 rfl rfl
set_option maxRecDepth 100000 in
theorem eL_type_4 {a : Int} {l0 l1 l3 l4 l5 l6 l7 l8 l9 l10 : Option VV} {S : MM} : rn xL_type (4, [l0, l1, some (vI a), l3, l4, l5, l6, l7, l8, l9, l10], [], S) = rn xL_type (5, [l0, l1, some (vI a), l3, l4, l5, l6, l7, l8, l9, l10], [vI a], S) := rn_step dL_type_4 rfl rfl
set_option maxRecDepth 100000 in
theorem eL_type_5 {a : Int} {l0 l1 l2 l3 l4 l5 l6 l7 l8 l9 l10 : Option VV} (h : -2147483648 ≤ a ∧ a ≤ 2147483647) {S : MM} : rn xL_type (5, [l0, l1, l2, l3, l4, l5, l6, l7, l8, l9, l10], [vI a], S) = if 0 < a then rn xL_type (8, [l0, l1, l2, l3, l4, l5, l6, l7, l8, l9, l10], [], S) else rn xL_type (18, [l0, l1, l2, l3, l4, l5, l6, l7, l8, l9, l10], [], S) := q_if_le dL_type_5 (by decide) rfl h
set_option maxRecDepth 100000 in
theorem eL_type_8 {a : Nat} {l0 l1 l2 l3 l4 l5 l6 l7 l8 l10 : Option VV} {S : MM} : rn xL_type (8, [l0, l1, l2, l3, l4, l5, l6, l7, l8, some (vJ a), l10], [], S) = rn xL_type (10, [l0, l1, l2, l3, l4, l5, l6, l7, l8, some (vJ a), l10], [vJ a], S) := rn_step dL_type_8 rfl rfl
set_option maxRecDepth 100000 in
theorem eL_type_10 {l0 l1 l2 l3 l4 l5 l6 l7 l8 l9 l10 : Option VV} {v0 : VV} {S : MM} : rn xL_type (10, [l0, l1, l2, l3, l4, l5, l6, l7, l8, l9, l10], [v0], S) = rn xL_type (12, [l0, l1, l2, l3, l4, l5, l6, l7, l8, l9, l10], [vI 8, v0], S) := rn_step dL_type_10 rfl rfl
set_option maxRecDepth 100000 in
theorem eL_type_12 {a : Nat} {k : Int} {l0 l1 l2 l3 l4 l5 l6 l7 l8 l9 l10 : Option VV} (h : a < 18446744073709551616) (h0 : 0 ≤ k) (h1 : k < 64) {S : MM} : rn xL_type (12, [l0, l1, l2, l3, l4, l5, l6, l7, l8, l9, l10], [vI k, vJ a], S) = rn xL_type (13, [l0, l1, l2, l3, l4, l5, l6, l7, l8, l9, l10], [vJ (a * 2 ^ k.toNat % 18446744073709551616)], S) := q_lshl dL_type_12 h h0 h1
set_option maxRecDepth 100000 in
theorem eL_type_13 {a : Int} {l0 l1 l3 l4 l5 l6 l7 l8 l9 l10 : Option VV} {v0 : VV} {S : MM} : rn xL_type (13, [l0, l1, some (vI a), l3, l4, l5, l6, l7, l8, l9, l10], [v0], S) = rn xL_type (14, [l0, l1, some (vI a), l3, l4, l5, l6, l7, l8, l9, l10], [vI a, v0], S) := rn_step dL_type_13 rfl rfl
set_option maxRecDepth 100000 in
theorem eL_type_14 {a : Int} {l0 l1 l2 l3 l4 l5 l6 l7 l8 l9 l10 : Option VV} {v1 : VV} (h : -2147483648 ≤ a ∧ a ≤ 2147483647) {S : MM} : rn xL_type (14, [l0, l1, l2, l3, l4, l5, l6, l7, l8, l9, l10], [vI a, v1], S) = rn xL_type (15, [l0, l1, l2, l3, l4, l5, l6, l7, l8, l9, l10], [vJ (a % 18446744073709551616).toNat, v1], S) := q_i2l dL_type_14 h
set_option maxRecDepth 100000 in
theorem eL_type_15 {a b : Nat} {l0 l1 l2 l3 l4 l5 l6 l7 l8 l9 l10 : Option VV} (h : a < 18446744073709551616) (h1 : b < 18446744073709551616) {S : MM} : rn xL_type (15, [l0, l1, l2, l3, l4, l5, l6, l7, l8, l9, l10], [vJ b, vJ a], S) = rn xL_type (16, [l0, l1, l2, l3, l4, l5, l6, l7, l8, l9, l10], [vJ (a ||| b)], S) := q_lor dL_type_15 h h1
set_option maxRecDepth 100000 in
theorem eL_type_16 {a : Nat} {w : Int} {l0 l1 l2 l3 l4 l5 l6 l7 l9 l10 : Option VV} {S : MM} : rn xL_type (16, [l0, l1, l2, l3, l4, l5, l6, l7, some (vI w), l9, l10], [vJ a], S) = rn xL_type (18, [l0, l1, l2, l3, l4, l5, l6, l7, some (vI w), some (vJ a), none], [], S) := rn_step dL_type_16 rfl rfl
set_option maxRecDepth 100000 in
theorem eL_type_18 {a : Int} {l0 l1 l2 l4 l5 l6 l7 l8 l9 l10 : Option VV} {S : MM} : rn xL_type (18, [l0, l1, l2, some (vI a), l4, l5, l6, l7, l8, l9, l10], [], S) = rn xL_type (19, [l0, l1, l2, some (vI a), l4, l5, l6, l7, l8, l9, l10], [vI a], S) := rn_step dL_type_18 rfl rfl
set_option maxRecDepth 100000 in
theorem eL_type_19 {a : Int} {l0 l1 l2 l3 l4 l5 l6 l7 l8 l9 l10 : Option VV} (h : -2147483648 ≤ a ∧ a ≤ 2147483647) {S : MM} : rn xL_type (19, [l0, l1, l2, l3, l4, l5, l6, l7, l8, l9, l10], [vI a], S) = if 0 < a then rn xL_type (22, [l0, l1, l2, l3, l4, l5, l6, l7, l8, l9, l10], [], S) else rn xL_type (32, [l0, l1, l2, l3, l4, l5, l6, l7, l8, l9, l10], [], S) := q_if_le dL_type_19 (by decide) rfl h
set_option maxRecDepth 100000 in
theorem eL_type_22 {a : Nat} {l0 l1 l2 l3 l4 l5 l6 l7 l8 l10 : Option VV} {S : MM} : rn xL_type (22, [l0, l1, l2, l3, l4, l5, l6, l7, l8, some (vJ a), l10], [], S) = rn xL_type (24, [l0, l1, l2, l3, l4, l5, l6, l7, l8, some (vJ a), l10], [vJ a], S) := rn_step dL_type_22 rfl rfl
set_option maxRecDepth 100000 in
theorem eL_type_24 {l0 l1 l2 l3 l4 l5 l6 l7 l8 l9 l10 : Option VV} {v0 : VV} {S : MM} : rn xL_type (24, [l0, l1, l2, l3, l4, l5, l6, l7, l8, l9, l10], [v0], S) = rn xL_type (26, [l0, l1, l2, l3, l4, l5, l6, l7, l8, l9, l10], [vI 8, v0], S) := rn_step dL_type_24 rfl rfl
set_option maxRecDepth 100000 in
theorem eL_type_26 {a : Nat} {k : Int} {l0 l1 l2 l3 l4 l5 l6 l7 l8 l9 l10 : Option VV} (h : a < 18446744073709551616) (h0 : 0 ≤ k) (h1 : k < 64) {S : MM} : rn xL_type (26, [l0, l1, l2, l3, l4, l5, l6, l7, l8, l9, l10], [vI k, vJ a], S) = rn xL_type (27, [l0, l1, l2, l3, l4, l5, l6, l7, l8, l9, l10], [vJ (a * 2 ^ k.toNat % 18446744073709551616)], S) := q_lshl dL_type_26 h h0 h1
set_option maxRecDepth 100000 in
theorem eL_type_27 {a : Int} {l0 l1 l2 l4 l5 l6 l7 l8 l9 l10 : Option VV} {v0 : VV} {S : MM} : rn xL_type (27, [l0, l1, l2, some (vI a), l4, l5, l6, l7, l8, l9, l10], [v0], S) = rn xL_type (28, [l0, l1, l2, some (vI a), l4, l5, l6, l7, l8, l9, l10], [vI a, v0], S) := rn_step dL_type_27 rfl rfl
set_option maxRecDepth 100000 in
theorem eL_type_28 {a : Int} {l0 l1 l2 l3 l4 l5 l6 l7 l8 l9 l10 : Option VV} {v1 : VV} (h : -2147483648 ≤ a ∧ a ≤ 2147483647) {S : MM} : rn xL_type (28, [l0, l1, l2, l3, l4, l5, l6, l7, l8, l9, l10], [vI a, v1], S) = rn xL_type (29, [l0, l1, l2, l3, l4, l5, l6, l7, l8, l9, l10], [vJ (a % 18446744073709551616).toNat, v1], S) := q_i2l dL_type_28 h
set_option maxRecDepth 100000 in
theorem eL_type_29 {a b : Nat} {l0 l1 l2 l3 l4 l5 l6 l7 l8 l9 l10 : Option VV} (h : a < 18446744073709551616) (h1 : b < 18446744073709551616) {S : MM} : rn xL_type (29, [l0, l1, l2, l3, l4, l5, l6, l7, l8, l9, l10], [vJ b, vJ a], S) = rn xL_type (30, [l0, l1, l2, l3, l4, l5, l6, l7, l8, l9, l10], [vJ (a ||| b)], S) := q_lor dL_type_29 h h1
set_option maxRecDepth 100000 in
theorem eL_type_30 {a : Nat} {w : Int} {l0 l1 l2 l3 l4 l5 l6 l7 l9 l10 : Option VV} {S : MM} : rn xL_type (30, [l0, l1, l2, l3, l4, l5, l6, l7, some (vI w), l9, l10], [vJ a], S) = rn xL_type (32, [l0, l1, l2, l3, l4, l5, l6, l7, some (vI w), some (vJ a), none], [], S) := rn_step dL_type_30 rfl rfl
set_option maxRecDepth 100000 in
theorem eL_type_32 {a : Int} {l0 l1 l2 l3 l5 l6 l7 l8 l9 l10 : Option VV} {S : MM} : rn xL_type (32, [l0, l1, l2, l3, some (vI a), l5, l6, l7, l8, l9, l10], [], S) = rn xL_type (34, [l0, l1, l2, l3, some (vI a), l5, l6, l7, l8, l9, l10], [vI a], S) := rn_step dL_type_32 rfl rfl
set_option maxRecDepth 100000 in
theorem eL_type_34 {a : Int} {l0 l1 l2 l3 l4 l5 l6 l7 l8 l9 l10 : Option VV} (h : -2147483648 ≤ a ∧ a ≤ 2147483647) {S : MM} : rn xL_type (34, [l0, l1, l2, l3, l4, l5, l6, l7, l8, l9, l10], [vI a], S) = if 0 < a then rn xL_type (37, [l0, l1, l2, l3, l4, l5, l6, l7, l8, l9, l10], [], S) else rn xL_type (48, [l0, l1, l2, l3, l4, l5, l6, l7, l8, l9, l10], [], S) := q_if_le dL_type_34 (by decide) rfl h
set_option maxRecDepth 100000 in
theorem eL_type_37 {a : Nat} {l0 l1 l2 l3 l4 l5 l6 l7 l8 l10 : Option VV} {S : MM} : rn xL_type (37, [l0, l1, l2, l3, l4, l5, l6, l7, l8, some (vJ a), l10], [], S) = rn xL_type (39, [l0, l1, l2, l3, l4, l5, l6, l7, l8, some (vJ a), l10], [vJ a], S) := rn_step dL_type_37 rfl rfl
set_option maxRecDepth 100000 in
theorem eL_type_39 {l0 l1 l2 l3 l4 l5 l6 l7 l8 l9 l10 : Option VV} {v0 : VV} {S : MM} : rn xL_type (39, [l0, l1, l2, l3, l4, l5, l6, l7, l8, l9, l10], [v0], S) = rn xL_type (41, [l0, l1, l2, l3, l4, l5, l6, l7, l8, l9, l10], [vI 8, v0], S) := rn_step dL_type_39 rfl rfl
set_option maxRecDepth 100000 in
theorem eL_type_41 {a : Nat} {k : Int} {l0 l1 l2 l3 l4 l5 l6 l7 l8 l9 l10 : Option VV} (h : a < 18446744073709551616) (h0 : 0 ≤ k) (h1 : k < 64) {S : MM} : rn xL_type (41, [l0, l1, l2, l3, l4, l5, l6, l7, l8, l9, l10], [vI k, vJ a], S) = rn xL_type (42, [l0, l1, l2, l3, l4, l5, l6, l7, l8, l9, l10], [vJ (a * 2 ^ k.toNat % 18446744073709551616)], S) := q_lshl dL_type_41 h h0 h1
set_option maxRecDepth 100000 in
theorem eL_type_42 {a : Int} {l0 l1 l2 l3 l5 l6 l7 l8 l9 l10 : Option VV} {v0 : VV} {S : MM} : rn xL_type (42, [l0, l1, l2, l3, some (vI a), l5, l6, l7, l8, l9, l10], [v0], S) = rn xL_type (44, [l0, l1, l2, l3, some (vI a), l5, l6, l7, l8, l9, l10], [vI a, v0], S) := rn_step dL_type_42 rfl rfl
set_option maxRecDepth 100000 in
theorem eL_type_44 {a : Int} {l0 l1 l2 l3 l4 l5 l6 l7 l8 l9 l10 : Option VV} {v1 : VV} (h : -2147483648 ≤ a ∧ a ≤ 2147483647) {S : MM} : rn xL_type (44, [l0, l1, l2, l3, l4, l5, l6, l7, l8, l9, l10], [vI a, v1], S) = rn xL_type (45, [l0, l1, l2, l3, l4, l5, l6, l7, l8, l9, l10], [vJ (a % 18446744073709551616).toNat, v1], S) := q_i2l dL_type_44 h
set_option maxRecDepth 100000 in
theorem eL_type_45 {a b : Nat} {l0 l1 l2 l3 l4 l5 l6 l7 l8 l9 l10 : Option VV} (h : a < 18446744073709551616) (h1 : b < 18446744073709551616) {S : MM} : rn xL_type (45, [l0, l1, l2, l3, l4, l5, l6, l7, l8, l9, l10], [vJ b, vJ a], S) = rn xL_type (46, [l0, l1, l2, l3, l4, l5, l6, l7, l8, l9, l10], [vJ (a ||| b)], S) := q_lor dL_type_45 h h1
set_option maxRecDepth 100000 in
theorem eL_type_46 {a : Nat} {w : Int} {l0 l1 l2 l3 l4 l5 l6 l7 l9 l10 : Option VV} {S : MM} : rn xL_type (46, [l0, l1, l2, l3, l4, l5, l6, l7, some (vI w), l9, l10], [vJ a], S) = rn xL_type (48, [l0, l1, l2, l3, l4, l5, l6, l7, some (vI w), some (vJ a), none], [], S) := rn_step dL_type_46 rfl rfl
set_option maxRecDepth 100000 in
theorem eL_type_48 {a : Int} {l0 l1 l2 l3 l4 l6 l7 l8 l9 l10 : Option VV} {S : MM} : rn xL_type (48, [l0, l1, l2, l3, l4, some (vI a), l6, l7, l8, l9, l10], [], S) = rn xL_type (50, [l0, l1, l2, l3, l4, some (vI a), l6, l7, l8, l9, l10], [vI a], S) := rn_step dL_type_48 rfl rfl
set_option maxRecDepth 100000 in
theorem eL_type_50 {a : Int} {l0 l1 l2 l3 l4 l5 l6 l7 l8 l9 l10 : Option VV} (h : -2147483648 ≤ a ∧ a ≤ 2147483647) {S : MM} : rn xL_type (50, [l0, l1, l2, l3, l4, l5, l6, l7, l8, l9, l10], [vI a], S) = if 0 < a then rn xL_type (53, [l0, l1, l2, l3, l4, l5, l6, l7, l8, l9, l10], [], S) else rn xL_type (64, [l0, l1, l2, l3, l4, l5, l6, l7, l8, l9, l10], [], S) := q_if_le dL_type_50 (by decide) rfl h
set_option maxRecDepth 100000 in
theorem eL_type_53 {a : Nat} {l0 l1 l2 l3 l4 l5 l6 l7 l8 l10 : Option VV} {S : MM} : rn xL_type (53, [l0, l1, l2, l3, l4, l5, l6, l7, l8, some (vJ a), l10], [], S) = rn xL_type (55, [l0, l1, l2, l3, l4, l5, l6, l7, l8, some (vJ a), l10], [vJ a], S) := rn_step dL_type_53 rfl rfl
set_option maxRecDepth 100000 in
theorem eL_type_55 {l0 l1 l2 l3 l4 l5 l6 l7 l8 l9 l10 : Option VV} {v0 : VV} {S : MM} : rn xL_type (55, [l0, l1, l2, l3, l4, l5, l6, l7, l8, l9, l10], [v0], S) = rn xL_type (57, [l0, l1, l2, l3, l4, l5, l6, l7, l8, l9, l10], [vI 8, v0], S) := rn_step dL_type_55 rfl rfl
set_option maxRecDepth 100000 in
theorem eL_type_57 {a : Nat} {k : Int} {l0 l1 l2 l3 l4 l5 l6 l7 l8 l9 l10 : Option VV} (h : a < 18446744073709551616) (h0 : 0 ≤ k) (h1 : k < 64) {S : MM} : rn xL_type (57, [l0, l1, l2, l3, l4, l5, l6, l7, l8, l9, l10], [vI k, vJ a], S) = rn xL_type (58, [l0, l1, l2, l3, l4, l5, l6, l7, l8, l9, l10], [vJ (a * 2 ^ k.toNat % 18446744073709551616)], S) := q_lshl dL_type_57 h h0 h1
set_option maxRecDepth 100000 in
theorem eL_type_58 {a : Int} {l0 l1 l2 l3 l4 l6 l7 l8 l9 l10 : Option VV} {v0 : VV} {S : MM} : rn xL_type (58, [l0, l1, l2, l3, l4, some (vI a), l6, l7, l8, l9, l10], [v0], S) = rn xL_type (60, [l0, l1, l2, l3, l4, some (vI a), l6, l7, l8, l9, l10], [vI a, v0], S) := rn_step dL_type_58 rfl rfl
set_option maxRecDepth 100000 in
theorem eL_type_60 {a : Int} {l0 l1 l2 l3 l4 l5 l6 l7 l8 l9 l10 : Option VV} {v1 : VV} (h : -2147483648 ≤ a ∧ a ≤ 2147483647) {S : MM} : rn xL_type (60, [l0, l1, l2, l3, l4, l5, l6, l7, l8, l9, l10], [vI a, v1], S) = rn xL_type (61, [l0, l1, l2, l3, l4, l5, l6, l7, l8, l9, l10], [vJ (a % 18446744073709551616).toNat, v1], S) := q_i2l dL_type_60 h
set_option maxRecDepth 100000 in
theorem eL_type_61 {a b : Nat} {l0 l1 l2 l3 l4 l5 l6 l7 l8 l9 l10 : Option VV} (h : a < 18446744073709551616) (h1 : b < 18446744073709551616) {S : MM} : rn xL_type (61, [l0, l1, l2, l3, l4, l5, l6, l7, l8, l9, l10], [vJ b, vJ a], S) = rn xL_type (62, [l0, l1, l2, l3, l4, l5, l6, l7, l8, l9, l10], [vJ (a ||| b)], S) := q_lor dL_type_61 h h1
set_option maxRecDepth 100000 in
theorem eL_type_62 {a : Nat} {w : Int} {l0 l1 l2 l3 l4 l5 l6 l7 l9 l10 : Option VV} {S : MM} : rn xL_type (62, [l0, l1, l2, l3, l4, l5, l6, l7, some (vI w), l9, l10], [vJ a], S) = rn xL_type (64, [l0, l1, l2, l3, l4, l5, l6, l7, some (vI w), some (vJ a), none], [], S) := rn_step dL_type_62 rfl rfl
set_option maxRecDepth 100000 in
theorem eL_type_64 {a : Int} {l0 l1 l2 l3 l4 l5 l7 l8 l9 l10 : Option VV} {S : MM} : rn xL_type (64, [l0, l1, l2, l3, l4, l5, some (vI a), l7, l8, l9, l10], [], S) = rn xL_type (66, [l0, l1, l2, l3, l4, l5, some (vI a), l7, l8, l9, l10], [vI a], S) := rn_step dL_type_64 rfl rfl
set_option maxRecDepth 100000 in
theorem eL_type_66 {a : Int} {l0 l1 l2 l3 l4 l5 l6 l7 l8 l9 l10 : Option VV} (h : -2147483648 ≤ a ∧ a ≤ 2147483647) {S : MM} : rn xL_type (66, [l0, l1, l2, l3, l4, l5, l6, l7, l8, l9, l10], [vI a], S) = if 0 < a then rn xL_type (69, [l0, l1, l2, l3, l4, l5, l6, l7, l8, l9, l10], [], S) else rn xL_type (80, [l0, l1, l2, l3, l4, l5, l6, l7, l8, l9, l10], [], S) := q_if_le dL_type_66 (by decide) rfl h
set_option maxRecDepth 100000 in
theorem eL_type_69 {a : Nat} {l0 l1 l2 l3 l4 l5 l6 l7 l8 l10 : Option VV} {S : MM} : rn xL_type (69, [l0, l1, l2, l3, l4, l5, l6, l7, l8, some (vJ a), l10], [], S) = rn xL_type (71, [l0, l1, l2, l3, l4, l5, l6, l7, l8, some (vJ a), l10], [vJ a], S) := rn_step dL_type_69 rfl rfl
set_option maxRecDepth 100000 in
theorem eL_type_71 {l0 l1 l2 l3 l4 l5 l6 l7 l8 l9 l10 : Option VV} {v0 : VV} {S : MM} : rn xL_type (71, [l0, l1, l2, l3, l4, l5, l6, l7, l8, l9, l10], [v0], S) = rn xL_type (73, [l0, l1, l2, l3, l4, l5, l6, l7, l8, l9, l10], [vI 8, v0], S) := rn_step dL_type_71 rfl rfl
set_option maxRecDepth 100000 in
theorem eL_type_73 {a : Nat} {k : Int} {l0 l1 l2 l3 l4 l5 l6 l7 l8 l9 l10 : Option VV} (h : a < 18446744073709551616) (h0 : 0 ≤ k) (h1 : k < 64) {S : MM} : rn xL_type (73, [l0, l1, l2, l3, l4, l5, l6, l7, l8, l9, l10], [vI k, vJ a], S) = rn xL_type (74, [l0, l1, l2, l3, l4, l5, l6, l7, l8, l9, l10], [vJ (a * 2 ^ k.toNat % 18446744073709551616)], S) := q_lshl dL_type_73 h h0 h1
set_option maxRecDepth 100000 in
theorem eL_type_74 {a : Int} {l0 l1 l2 l3 l4 l5 l7 l8 l9 l10 : Option VV} {v0 : VV} {S : MM} : rn xL_type (74, [l0, l1, l2, l3, l4, l5, some (vI a), l7, l8, l9, l10], [v0], S) = rn xL_type (76, [l0, l1, l2, l3, l4, l5, some (vI a), l7, l8, l9, l10], [vI a, v0], S) := rn_step dL_type_74 rfl rfl
set_option maxRecDepth 100000 in
theorem eL_type_76 {a : Int} {l0 l1 l2 l3 l4 l5 l6 l7 l8 l9 l10 : Option VV} {v1 : VV} (h : -2147483648 ≤ a ∧ a ≤ 2147483647) {S : MM} : rn xL_type (76, [l0, l1, l2, l3, l4, l5, l6, l7, l8, l9, l10], [vI a, v1], S) = rn xL_type (77, [l0, l1, l2, l3, l4, l5, l6, l7, l8, l9, l10], [vJ (a % 18446744073709551616).toNat, v1], S) := q_i2l dL_type_76 h
set_option maxRecDepth 100000 in
theorem eL_type_77 {a b : Nat} {l0 l1 l2 l3 l4 l5 l6 l7 l8 l9 l10 : Option VV} (h : a < 18446744073709551616) (h1 : b < 18446744073709551616) {S : MM} : rn xL_type (77, [l0, l1, l2, l3, l4, l5, l6, l7, l8, l9, l10], [vJ b, vJ a], S) = rn xL_type (78, [l0, l1, l2, l3, l4, l5, l6, l7, l8, l9, l10], [vJ (a ||| b)], S) := q_lor dL_type_77 h h1
set_option maxRecDepth 100000 in
theorem eL_type_78 {a : Nat} {w : Int} {l0 l1 l2 l3 l4 l5 l6 l7 l9 l10 : Option VV} {S : MM} : rn xL_type (78, [l0, l1, l2, l3, l4, l5, l6, l7, some (vI w), l9, l10], [vJ a], S) = rn xL_type (80, [l0, l1, l2, l3, l4, l5, l6, l7, some (vI w), some (vJ a), none], [], S) := rn_step dL_type_78 rfl rfl
set_option maxRecDepth 100000 in
theorem eL_type_80 {a : Int} {l0 l1 l2 l3 l4 l5 l6 l8 l9 l10 : Option VV} {S : MM} : rn xL_type (80, [l0, l1, l2, l3, l4, l5, l6, some (vI a), l8, l9, l10], [], S) = rn xL_type (82, [l0, l1, l2, l3, l4, l5, l6, some (vI a), l8, l9, l10], [vI a], S) := rn_step dL_type_80 rfl rfl
set_option maxRecDepth 100000 in
theorem eL_type_82 {a : Int} {l0 l1 l2 l3 l4 l5 l6 l7 l8 l9 l10 : Option VV} (h : -2147483648 ≤ a ∧ a ≤ 2147483647) {S : MM} : rn xL_type (82, [l0, l1, l2, l3, l4, l5, l6, l7, l8, l9, l10], [vI a], S) = if 0 < a then rn xL_type (85, [l0, l1, l2, l3, l4, l5, l6, l7, l8, l9, l10], [], S) else rn xL_type (96, [l0, l1, l2, l3, l4, l5, l6, l7, l8, l9, l10], [], S) := q_if_le dL_type_82 (by decide) rfl h
set_option maxRecDepth 100000 in
theorem eL_type_85 {a : Nat} {l0 l1 l2 l3 l4 l5 l6 l7 l8 l10 : Option VV} {S : MM} : rn xL_type (85, [l0, l1, l2, l3, l4, l5, l6, l7, l8, some (vJ a), l10], [], S) = rn xL_type (87, [l0, l1, l2, l3, l4, l5, l6, l7, l8, some (vJ a), l10], [vJ a], S) := rn_step dL_type_85 rfl rfl
set_option maxRecDepth 100000 in
theorem eL_type_87 {l0 l1 l2 l3 l4 l5 l6 l7 l8 l9 l10 : Option VV} {v0 : VV} {S : MM} : rn xL_type (87, [l0, l1, l2, l3, l4, l5, l6, l7, l8, l9, l10], [v0], S) = rn xL_type (89, [l0, l1, l2, l3, l4, l5, l6, l7, l8, l9, l10], [vI 8, v0], S) := rn_step dL_type_87 rfl rfl
set_option maxRecDepth 100000 in
theorem eL_type_89 {a : Nat} {k : Int} {l0 l1 l2 l3 l4 l5 l6 l7 l8 l9 l10 : Option VV} (h : a < 18446744073709551616) (h0 : 0 ≤ k) (h1 : k < 64) {S : MM} : rn xL_type (89, [l0, l1, l2, l3, l4, l5, l6, l7, l8, l9, l10], [vI k, vJ a], S) = rn xL_type (90, [l0, l1, l2, l3, l4, l5, l6, l7, l8, l9, l10], [vJ (a * 2 ^ k.toNat % 18446744073709551616)], S) := q_lshl dL_type_89 h h0 h1
set_option maxRecDepth 100000 in
theorem eL_type_90 {a : Int} {l0 l1 l2 l3 l4 l5 l6 l8 l9 l10 : Option VV} {v0 : VV} {S : MM} : rn xL_type (90, [l0, l1, l2, l3, l4, l5, l6, some (vI a), l8, l9, l10], [v0], S) = rn xL_type (92, [l0, l1, l2, l3, l4, l5, l6, some (vI a), l8, l9, l10], [vI a, v0], S) := rn_step dL_type_90 rfl rfl
set_option maxRecDepth 100000 in
theorem eL_type_92 {a : Int} {l0 l1 l2 l3 l4 l5 l6 l7 l8 l9 l10 : Option VV} {v1 : VV} (h : -2147483648 ≤ a ∧ a ≤ 2147483647) {S : MM} : rn xL_type (92, [l0, l1, l2, l3, l4, l5, l6, l7, l8, l9, l10], [vI a, v1], S) = rn xL_type (93, [l0, l1, l2, l3, l4, l5, l6, l7, l8, l9, l10], [vJ (a % 18446744073709551616).toNat, v1], S) := q_i2l dL_type_92 h
set_option maxRecDepth 100000 in
theorem eL_type_93 {a b : Nat} {l0 l1 l2 l3 l4 l5 l6 l7 l8 l9 l10 : Option VV} (h : a < 18446744073709551616) (h1 : b < 18446744073709551616) {S : MM} : rn xL_type (93, [l0, l1, l2, l3, l4, l5, l6, l7, l8, l9, l10], [vJ b, vJ a], S) = rn xL_type (94, [l0, l1, l2, l3, l4, l5, l6, l7, l8, l9, l10], [vJ (a ||| b)], S) := q_lor dL_type_93 h h1
set_option maxRecDepth 100000 in
theorem eL_type_94 {a : Nat} {w : Int} {l0 l1 l2 l3 l4 l5 l6 l7 l9 l10 : Option VV} {S : MM} : rn xL_type (94, [l0, l1, l2, l3, l4, l5, l6, l7, some (vI w), l9, l10], [vJ a], S) = rn xL_type (96, [l0, l1, l2, l3, l4, l5, l6, l7, some (vI w), some (vJ a), none], [], S) := rn_step dL_type_94 rfl rfl
set_option maxRecDepth 100000 in
theorem eL_type_96 {a : Int} {l0 l1 l2 l3 l4 l5 l6 l7 l9 l10 : Option VV} {S : MM} : rn xL_type (96, [l0, l1, l2, l3, l4, l5, l6, l7, some (vI a), l9, l10], [], S) = rn xL_type (98, [l0, l1, l2, l3, l4, l5, l6, l7, some (vI a), l9, l10], [vI a], S) := rn_step dL_type_96 rfl rfl
set_option maxRecDepth 100000 in
theorem eL_type_98 {a : Int} {l0 l1 l2 l3 l4 l5 l6 l7 l8 l9 l10 : Option VV} (h : -2147483648 ≤ a ∧ a ≤ 2147483647) {S : MM} : rn xL_type (98, [l0, l1, l2, l3, l4, l5, l6, l7, l8, l9, l10], [vI a], S) = if 0 < a then rn xL_type (101, [l0, l1, l2, l3, l4, l5, l6, l7, l8, l9, l10], [], S) else rn xL_type (112, [l0, l1, l2, l3, l4, l5, l6, l7, l8, l9, l10], [], S) := q_if_le dL_type_98 (by decide) rfl h
set_option maxRecDepth 100000 in
theorem eL_type_101 {a : Nat} {l0 l1 l2 l3 l4 l5 l6 l7 l8 l10 : Option VV} {S : MM} : rn xL_type (101, [l0, l1, l2, l3, l4, l5, l6, l7, l8, some (vJ a), l10], [], S) = rn xL_type (103, [l0, l1, l2, l3, l4, l5, l6, l7, l8, some (vJ a), l10], [vJ a], S) := rn_step dL_type_101 rfl rfl
set_option maxRecDepth 100000 in
theorem eL_type_103 {l0 l1 l2 l3 l4 l5 l6 l7 l8 l9 l10 : Option VV} {v0 : VV} {S : MM} : rn xL_type (103, [l0, l1, l2, l3, l4, l5, l6, l7, l8, l9, l10], [v0], S) = rn xL_type (105, [l0, l1, l2, l3, l4, l5, l6, l7, l8, l9, l10], [vI 8, v0], S) := rn_step dL_type_103 rfl rfl
set_option maxRecDepth 100000 in
theorem eL_type_105 {a : Nat} {k : Int} {l0 l1 l2 l3 l4 l5 l6 l7 l8 l9 l10 : Option VV} (h : a < 18446744073709551616) (h0 : 0 ≤ k) (h1 : k < 64) {S : MM} : rn xL_type (105, [l0, l1, l2, l3, l4, l5, l6, l7, l8, l9, l10], [vI k, vJ a], S) = rn xL_type (106, [l0, l1, l2, l3, l4, l5, l6, l7, l8, l9, l10], [vJ (a * 2 ^ k.toNat % 18446744073709551616)], S) := q_lshl dL_type_105 h h0 h1
set_option maxRecDepth 100000 in
theorem eL_type_106 {a : Int} {l0 l1 l2 l3 l4 l5 l6 l7 l9 l10 : Option VV} {v0 : VV} {S : MM} : rn xL_type (106, [l0, l1, l2, l3, l4, l5, l6, l7, some (vI a), l9, l10], [v0], S) = rn xL_type (108, [l0, l1, l2, l3, l4, l5, l6, l7, some (vI a), l9, l10], [vI a, v0], S) := rn_step dL_type_106 rfl rfl
set_option maxRecDepth 100000 in
theorem eL_type_108 {a : Int} {l0 l1 l2 l3 l4 l5 l6 l7 l8 l9 l10 : Option VV} {v1 : VV} (h : -2147483648 ≤ a ∧ a ≤ 2147483647) {S : MM} : rn xL_type (108, [l0, l1, l2, l3, l4, l5, l6, l7, l8, l9, l10], [vI a, v1], S) = rn xL_type (109, [l0, l1, l2, l3, l4, l5, l6, l7, l8, l9, l10], [vJ (a % 18446744073709551616).toNat, v1], S) := q_i2l dL_type_108 h
set_option maxRecDepth 100000 in
theorem eL_type_109 {a b : Nat} {l0 l1 l2 l3 l4 l5 l6 l7 l8 l9 l10 : Option VV} (h : a < 18446744073709551616) (h1 : b < 18446744073709551616) {S : MM} : rn xL_type (109, [l0, l1, l2, l3, l4, l5, l6, l7, l8, l9, l10], [vJ b, vJ a], S) = rn xL_type (110, [l0, l1, l2, l3, l4, l5, l6, l7, l8, l9, l10], [vJ (a ||| b)], S) := q_lor dL_type_109 h h1
set_option maxRecDepth 100000 in
theorem eL_type_110 {a : Nat} {w : Int} {l0 l1 l2 l3 l4 l5 l6 l7 l9 l10 : Option VV} {S : MM} : rn xL_type (110, [l0, l1, l2, l3, l4, l5, l6, l7, some (vI w), l9, l10], [vJ a], S) = rn xL_type (112, [l0, l1, l2, l3, l4, l5, l6, l7, some (vI w), some (vJ a), none], [], S) := rn_step dL_type_110 rfl rfl
set_option maxRecDepth 100000 in
theorem eL_type_112 {a : Option Nat} {l1 l2 l3 l4 l5 l6 l7 l8 l9 l10 : Option VV} {S : MM} : rn xL_type (112, [some (.inr (.inl a)), l1, l2, l3, l4, l5, l6, l7, l8, l9, l10], [], S) = rn xL_type (113, [some (.inr (.inl a)), l1, l2, l3, l4, l5, l6, l7, l8, l9, l10], [.inr (.inl a)], S) := rn_step dL_type_112 rfl rfl
set_option maxRecDepth 100000 in
theorem eL_type_113 {a : Nat} {l0 l1 l2 l3 l4 l5 l6 l7 l8 l10 : Option VV} {v0 : VV} {S : MM} : rn xL_type (113, [l0, l1, l2, l3, l4, l5, l6, l7, l8, some (vJ a), l10], [v0], S) = rn xL_type (115, [l0, l1, l2, l3, l4, l5, l6, l7, l8, some (vJ a), l10], [vJ a, v0], S) := rn_step dL_type_113 rfl rfl
set_option maxRecDepth 100000 in
theorem eL_type_115 {a0 : Nat} {l0 l1 l2 l3 l4 l5 l6 l7 l8 l9 l10 : Option VV} {S : MM} : rn xL_type (115, [l0, l1, l2, l3, l4, l5, l6, l7, l8, l9, l10], [vJ a0, vR 0], S) = (fX8_put [vR 0, vJ a0] S).bind (fun q => rn xL_type (118, [l0, l1, l2, l3, l4, l5, l6, l7, l8, l9, l10], q.1.toList ++ [], q.2)) := q_callV (n := 1) (as := [vJ a0]) (rest := []) dL_type_115 rfl rfl rfl rfl kd0
set_option maxRecDepth 100000 in
theorem eL_type_118 {a : Int} {l0 l1 l2 l3 l4 l5 l6 l7 l8 l9 l10 : Option VV} (h : -2147483648 ≤ a ∧ a ≤ 2147483647) {S : MM} : rn xL_type (118, [l0, l1, l2, l3, l4, l5, l6, l7, l8, l9, l10], [vI a], S) = if 0 < a then rn xL_type (121, [l0, l1, l2, l3, l4, l5, l6, l7, l8, l9, l10], [], S) else rn xL_type (125, [l0, l1, l2, l3, l4, l5, l6, l7, l8, l9, l10], [], S) := q_if_le dL_type_118 (by decide) rfl h
set_option maxRecDepth 100000 in
theorem eL_type_121 {l0 l1 l2 l3 l4 l5 l6 l7 l8 l9 l10 : Option VV} {S : MM} : rn xL_type (121, [l0, l1, l2, l3, l4, l5, l6, l7, l8, l9, l10], [], S) = rn xL_type (122, [l0, l1, l2, l3, l4, l5, l6, l7, l8, l9, l10], [vI 1], S) := rn_step dL_type_121 rfl rfl
set_option maxRecDepth 100000 in
theorem eL_type_122 {l0 l1 l2 l3 l4 l5 l6 l7 l8 l9 l10 : Option VV} {v0 : VV} {S : MM} : rn xL_type (122, [l0, l1, l2, l3, l4, l5, l6, l7, l8, l9, l10], [v0], S) = rn xL_type (126, [l0, l1, l2, l3, l4, l5, l6, l7, l8, l9, l10], [v0], S) := rn_step dL_type_122 rfl rfl
set_option maxRecDepth 100000 in
theorem eL_type_125 {l0 l1 l2 l3 l4 l5 l6 l7 l8 l9 l10 : Option VV} {S : MM} : rn xL_type (125, [l0, l1, l2, l3, l4, l5, l6, l7, l8, l9, l10], [], S) = rn xL_type (126, [l0, l1, l2, l3, l4, l5, l6, l7, l8, l9, l10], [vI 0], S) := rn_step dL_type_125 rfl rfl
set_option maxRecDepth 100000 in
theorem eL_type_126 {z : Int} {l0 l1 l2 l3 l4 l5 l6 l7 l8 l9 l10 : Option VV} (hz : z = 0 ∨ z = 1) {S : MM} : rn xL_type (126, [l0, l1, l2, l3, l4, l5, l6, l7, l8, l9, l10], [vI z], S) = some (some (vI z), S) := q_retZ dL_type_126 rfl hz
noncomputable def qlL_refused : List CE := [(1, 22, 0, 2, fL_up), (0, 26, 8, 3, fX8_set), (0, 29, 8, 4, fX8_stone), (0, 72, 8, 4, fX8_flood), (0, 78, 8, 1, fX8_dry), (0, 88, 8, 1, fX8_leap), (0, 91, 8, 1, fX8_run), (0, 50, 8, 3, fX8_ofWalker), (0, 55, 8, 4, fX8_ofStone), (0, 58, 8, 2, fX8_ofRun), (0, 99, 8, 3, fX8_meeting), (0, 62, 8, 2, fX8_count), (0, 126, 8, 2, fX8_walking), (0, 129, 8, 4, fX8_runWith), (0, 132, 8, 2, fX8_cheapest), (0, 135, 8, 3, fX8_lostBy), (0, 102, 8, 2, fX8_put), (0, 120, 8, 1, fX8_carryOut), (0, 138, 8, 2, fX8_save), (0, 141, 8, 2, fX8_restore), (0, 123, 8, 1, fX8_undo)]
noncomputable def xL_refused : XX := (cL_refused, fcF fclL, mcF qlL_refused, 2)
noncomputable def fL_refused : FN := fnX xL_refused 3
set_option maxRecDepth 100000 in
theorem cwL_refused : Cond.code yL_refused cL_refused 3 (some .boolean) ∈ lw_g := lw_gm 878 (by exact rfl) (by decide +kernel)
set_option maxRecDepth 100000 in
theorem conL_refused : Con yL_refused cL_refused 3 (some .boolean) { frames := 8, cells := 0, slots := 0, locals := 196 } fL_refused := con_of (X := xL_refused) (own := "LeapStonesLaw") (ql := qlL_refused) (by decide) rfl FOKL rfl (List.forall_mem_cons.mpr ⟨call_S conL_up cwL_up (lw_gl _ [379, 380, 20] (by decide +kernel) (by decide +kernel)) ⟨by decide, by decide, by decide +kernel⟩ ⟨rfl, rfl⟩ ⟨by decide, by decide⟩ ⟨Nat.le_refl _, Nat.le_refl _⟩, List.forall_mem_cons.mpr ⟨call_V conX8_set cwX8_set (lw_gl _ [246, 247, 248, 21] (by decide +kernel) (by decide +kernel)) (by decide) rfl ⟨by decide, by decide, by decide +kernel⟩ ⟨rfl, rfl⟩ ⟨by decide, by decide⟩ ⟨Nat.le_refl _, Nat.le_refl _⟩, List.forall_mem_cons.mpr ⟨call_V conX8_stone cwX8_stone (lw_gl _ [334, 335, 336, 21] (by decide +kernel) (by decide +kernel)) (by decide) rfl ⟨by decide, by decide, by decide +kernel⟩ ⟨rfl, rfl⟩ ⟨by decide, by decide⟩ ⟨Nat.le_refl _, Nat.le_refl _⟩, List.forall_mem_cons.mpr ⟨call_V conX8_flood cwX8_flood (lw_gl _ [425, 426, 427, 21] (by decide +kernel) (by decide +kernel)) (by decide) rfl ⟨by decide, by decide, by decide +kernel⟩ ⟨rfl, rfl⟩ ⟨by decide, by decide⟩ ⟨Nat.le_refl _, Nat.le_refl _⟩, List.forall_mem_cons.mpr ⟨call_V conX8_dry cwX8_dry (lw_gl _ [537, 538, 539, 21] (by decide +kernel) (by decide +kernel)) (by decide) rfl ⟨by decide, by decide, by decide +kernel⟩ ⟨rfl, rfl⟩ ⟨by decide, by decide⟩ ⟨Nat.le_refl _, Nat.le_refl _⟩, List.forall_mem_cons.mpr ⟨call_V conX8_leap cwX8_leap (lw_gl _ [602, 603, 604, 21] (by decide +kernel) (by decide +kernel)) (by decide) rfl ⟨by decide, by decide, by decide +kernel⟩ ⟨rfl, rfl⟩ ⟨by decide, by decide⟩ ⟨Nat.le_refl _, Nat.le_refl _⟩, List.forall_mem_cons.mpr ⟨call_V conX8_run cwX8_run (lw_gl _ [641, 642, 643, 21] (by decide +kernel) (by decide +kernel)) (by decide) rfl ⟨by decide, by decide, by decide +kernel⟩ ⟨rfl, rfl⟩ ⟨by decide, by decide⟩ ⟨Nat.le_refl _, Nat.le_refl _⟩, List.forall_mem_cons.mpr ⟨call_V conX8_ofWalker cwX8_ofWalker (lw_gl _ [392, 393, 394, 21] (by decide +kernel) (by decide +kernel)) (by decide) rfl ⟨by decide, by decide, by decide +kernel⟩ ⟨rfl, rfl⟩ ⟨by decide, by decide⟩ ⟨Nat.le_refl _, Nat.le_refl _⟩, List.forall_mem_cons.mpr ⟨call_V conX8_ofStone cwX8_ofStone (lw_gl _ [416, 417, 418, 21] (by decide +kernel) (by decide +kernel)) (by decide) rfl ⟨by decide, by decide, by decide +kernel⟩ ⟨rfl, rfl⟩ ⟨by decide, by decide⟩ ⟨Nat.le_refl _, Nat.le_refl _⟩, List.forall_mem_cons.mpr ⟨call_V conX8_ofRun cwX8_ofRun (lw_gl _ [498, 499, 500, 21] (by decide +kernel) (by decide +kernel)) (by decide) rfl ⟨by decide, by decide, by decide +kernel⟩ ⟨rfl, rfl⟩ ⟨by decide, by decide⟩ ⟨Nat.le_refl _, Nat.le_refl _⟩, List.forall_mem_cons.mpr ⟨call_V conX8_meeting cwX8_meeting (lw_gl _ [653, 654, 655, 21] (by decide +kernel) (by decide +kernel)) (by decide) rfl ⟨by decide, by decide, by decide +kernel⟩ ⟨rfl, rfl⟩ ⟨by decide, by decide⟩ ⟨Nat.le_refl _, Nat.le_refl _⟩, List.forall_mem_cons.mpr ⟨call_V conX8_count cwX8_count (lw_gl _ [518, 519, 520, 21] (by decide +kernel) (by decide +kernel)) (by decide) rfl ⟨by decide, by decide, by decide +kernel⟩ ⟨rfl, rfl⟩ ⟨by decide, by decide⟩ ⟨Nat.le_refl _, Nat.le_refl _⟩, List.forall_mem_cons.mpr ⟨call_V conX8_walking cwX8_walking (lw_gl _ [801, 802, 803, 21] (by decide +kernel) (by decide +kernel)) (by decide) rfl ⟨by decide, by decide, by decide +kernel⟩ ⟨rfl, rfl⟩ ⟨by decide, by decide⟩ ⟨Nat.le_refl _, Nat.le_refl _⟩, List.forall_mem_cons.mpr ⟨call_V conX8_runWith cwX8_runWith (lw_gl _ [833, 834, 835, 21] (by decide +kernel) (by decide +kernel)) (by decide) rfl ⟨by decide, by decide, by decide +kernel⟩ ⟨rfl, rfl⟩ ⟨by decide, by decide⟩ ⟨Nat.le_refl _, Nat.le_refl _⟩, List.forall_mem_cons.mpr ⟨call_V conX8_cheapest cwX8_cheapest (lw_gl _ [852, 853, 854, 21] (by decide +kernel) (by decide +kernel)) (by decide) rfl ⟨by decide, by decide, by decide +kernel⟩ ⟨rfl, rfl⟩ ⟨by decide, by decide⟩ ⟨Nat.le_refl _, Nat.le_refl _⟩, List.forall_mem_cons.mpr ⟨call_V conX8_lostBy cwX8_lostBy (lw_gl _ [856, 857, 858, 21] (by decide +kernel) (by decide +kernel)) (by decide) rfl ⟨by decide, by decide, by decide +kernel⟩ ⟨rfl, rfl⟩ ⟨by decide, by decide⟩ ⟨Nat.le_refl _, Nat.le_refl _⟩, List.forall_mem_cons.mpr ⟨call_V conX8_put cwX8_put (lw_gl _ [680, 681, 682, 21] (by decide +kernel) (by decide +kernel)) (by decide) rfl ⟨by decide, by decide, by decide +kernel⟩ ⟨rfl, rfl⟩ ⟨by decide, by decide⟩ ⟨Nat.le_refl _, Nat.le_refl _⟩, List.forall_mem_cons.mpr ⟨call_V conX8_carryOut cwX8_carryOut (lw_gl _ [749, 750, 751, 21] (by decide +kernel) (by decide +kernel)) (by decide) rfl ⟨by decide, by decide, by decide +kernel⟩ ⟨rfl, rfl⟩ ⟨by decide, by decide⟩ ⟨Nat.le_refl _, Nat.le_refl _⟩, List.forall_mem_cons.mpr ⟨call_V conX8_save cwX8_save (lw_gl _ [865, 866, 867, 21] (by decide +kernel) (by decide +kernel)) (by decide) rfl ⟨by decide, by decide, by decide +kernel⟩ ⟨rfl, rfl⟩ ⟨by decide, by decide⟩ ⟨Nat.le_refl _, Nat.le_refl _⟩, List.forall_mem_cons.mpr ⟨call_V conX8_restore cwX8_restore (lw_gl _ [872, 873, 874, 21] (by decide +kernel) (by decide +kernel)) (by decide) rfl ⟨by decide, by decide, by decide +kernel⟩ ⟨rfl, rfl⟩ ⟨by decide, by decide⟩ ⟨Nat.le_refl _, Nat.le_refl _⟩, List.forall_mem_cons.mpr ⟨call_V conX8_undo cwX8_undo (lw_gl _ [789, 790, 791, 21] (by decide +kernel) (by decide +kernel)) (by decide) rfl ⟨by decide, by decide, by decide +kernel⟩ ⟨rfl, rfl⟩ ⟨by decide, by decide⟩ ⟨Nat.le_refl _, Nat.le_refl _⟩, fun _ h => absurd h List.not_mem_nil⟩⟩⟩⟩⟩⟩⟩⟩⟩⟩⟩⟩⟩⟩⟩⟩⟩⟩⟩⟩⟩) (Or.inr (Or.inr (Or.inl ⟨rfl, rfl⟩)))
theorem uL_refused {a0 : Option Nat} {a1 : Int} {S : MM} : fL_refused [.inr (.inl a0), vI a1] S = rn xL_refused (0, [some (.inr (.inl a0)), some (vI a1), none], [], S) := rfl
set_option maxRecDepth 100000 in
theorem eL_refused_0 {a : Int} {l0 l2 : Option VV} {S : MM} : rn xL_refused (0, [l0, some (vI a), l2], [], S) = rn xL_refused (1, [l0, some (vI a), l2], [vI a], S) := rn_step dL_refused_0 rfl rfl
set_option maxRecDepth 100000 in
theorem eL_refused_1 {l0 l1 l2 : Option VV} {v0 : VV} {S : MM} : rn xL_refused (1, [l0, l1, l2], [v0], S) = rn xL_refused (2, [l0, l1, l2], [vI 2, v0], S) := rn_step dL_refused_1 rfl rfl
set_option maxRecDepth 100000 in
theorem eL_refused_2 {a0 : Int} {a1 : Int} {l0 l1 l2 : Option VV} {S : MM} : rn xL_refused (2, [l0, l1, l2], [vI a1, vI a0], S) = (fL_up [vI a0, vI a1] S).bind (fun q => rn xL_refused (5, [l0, l1, l2], q.1.toList ++ [], q.2)) := q_callS (n := 2) (as := [vI a0, vI a1]) (rest := []) dL_refused_2 rfl rfl rfl rfl
set_option maxRecDepth 100000 in
theorem eL_refused_5 {a : Int} {l0 l1 l2 : Option VV} (h : -2147483648 ≤ a ∧ a ≤ 2147483647) {S : MM} : rn xL_refused (5, [l0, l1, l2], [vI a], S) = if a = 0 then rn xL_refused (8, [l0, l1, l2], [], S) else rn xL_refused (22, [l0, l1, l2], [], S) := q_if_ne dL_refused_5 (by decide) rfl h
set_option maxRecDepth 100000 in
theorem eL_refused_8 {l0 l1 l2 : Option VV} {S : MM} : rn xL_refused (8, [l0, l1, l2], [], S) = rn xL_refused (10, [l0, l1, l2], [vI (-7)], S) := rn_step dL_refused_8 rfl rfl
set_option maxRecDepth 100000 in
theorem eL_refused_10 {a : Int} {l0 l2 : Option VV} {v0 : VV} {S : MM} : rn xL_refused (10, [l0, some (vI a), l2], [v0], S) = rn xL_refused (11, [l0, some (vI a), l2], [vI a, v0], S) := rn_step dL_refused_10 rfl rfl
set_option maxRecDepth 100000 in
theorem eL_refused_11 {l0 l1 l2 : Option VV} {v0 v1 : VV} {S : MM} : rn xL_refused (11, [l0, l1, l2], [v0, v1], S) = rn xL_refused (12, [l0, l1, l2], [vI 1, v0, v1], S) := rn_step dL_refused_11 rfl rfl
set_option maxRecDepth 100000 in
theorem eL_refused_12 {a : Int} {l0 l1 l2 : Option VV} {v2 : VV} (h : -2147483648 ≤ a ∧ a ≤ 2147483647) {S : MM} : rn xL_refused (12, [l0, l1, l2], [vI 1, vI a, v2], S) = rn xL_refused (13, [l0, l1, l2], [vI (a / 2), v2], S) := q_ishrK dL_refused_12 ⟨by decide, by decide⟩ rfl h
set_option maxRecDepth 100000 in
theorem eL_refused_13 {l0 l1 l2 : Option VV} {v0 v1 : VV} {S : MM} : rn xL_refused (13, [l0, l1, l2], [v0, v1], S) = rn xL_refused (15, [l0, l1, l2], [vI 1000000000, v0, v1], S) := q_ldc dL_refused_13 rfl
set_option maxRecDepth 100000 in
theorem eL_refused_15 {a0 : Int} {a1 : Int} {l0 l1 l2 : Option VV} {v2 : VV} {S : MM} : rn xL_refused (15, [l0, l1, l2], [vI a1, vI a0, v2], S) = (fL_up [vI a0, vI a1] S).bind (fun q => rn xL_refused (18, [l0, l1, l2], q.1.toList ++ [v2], q.2)) := q_callS (n := 2) (as := [vI a0, vI a1]) (rest := [v2]) dL_refused_15 rfl rfl rfl rfl
set_option maxRecDepth 100000 in
theorem eL_refused_18 {a b : Int} {l0 l1 l2 : Option VV} {S : MM} : rn xL_refused (18, [l0, l1, l2], [vI b, vI a], S) = rn xL_refused (19, [l0, l1, l2], [vI (a - b)], S) := rn_step dL_refused_18 rfl rfl
set_option maxRecDepth 100000 in
theorem eL_refused_19 {l0 l1 l2 : Option VV} {v0 : VV} {S : MM} : rn xL_refused (19, [l0, l1, l2], [v0], S) = rn xL_refused (34, [l0, l1, l2], [v0], S) := rn_step dL_refused_19 rfl rfl
set_option maxRecDepth 100000 in
theorem eL_refused_22 {l0 l1 l2 : Option VV} {S : MM} : rn xL_refused (22, [l0, l1, l2], [], S) = rn xL_refused (25, [l0, l1, l2], [vI 300], S) := rn_step dL_refused_22 rfl rfl
set_option maxRecDepth 100000 in
theorem eL_refused_25 {a : Int} {l0 l2 : Option VV} {v0 : VV} {S : MM} : rn xL_refused (25, [l0, some (vI a), l2], [v0], S) = rn xL_refused (26, [l0, some (vI a), l2], [vI a, v0], S) := rn_step dL_refused_25 rfl rfl
set_option maxRecDepth 100000 in
theorem eL_refused_26 {l0 l1 l2 : Option VV} {v0 v1 : VV} {S : MM} : rn xL_refused (26, [l0, l1, l2], [v0, v1], S) = rn xL_refused (27, [l0, l1, l2], [vI 1, v0, v1], S) := rn_step dL_refused_26 rfl rfl
set_option maxRecDepth 100000 in
theorem eL_refused_27 {a : Int} {l0 l1 l2 : Option VV} {v2 : VV} (h : -2147483648 ≤ a ∧ a ≤ 2147483647) {S : MM} : rn xL_refused (27, [l0, l1, l2], [vI 1, vI a, v2], S) = rn xL_refused (28, [l0, l1, l2], [vI (a / 2), v2], S) := q_ishrK dL_refused_27 ⟨by decide, by decide⟩ rfl h
set_option maxRecDepth 100000 in
theorem eL_refused_28 {l0 l1 l2 : Option VV} {v0 v1 : VV} {S : MM} : rn xL_refused (28, [l0, l1, l2], [v0, v1], S) = rn xL_refused (30, [l0, l1, l2], [vI 1000000000, v0, v1], S) := q_ldc dL_refused_28 rfl
set_option maxRecDepth 100000 in
theorem eL_refused_30 {a0 : Int} {a1 : Int} {l0 l1 l2 : Option VV} {v2 : VV} {S : MM} : rn xL_refused (30, [l0, l1, l2], [vI a1, vI a0, v2], S) = (fL_up [vI a0, vI a1] S).bind (fun q => rn xL_refused (33, [l0, l1, l2], q.1.toList ++ [v2], q.2)) := q_callS (n := 2) (as := [vI a0, vI a1]) (rest := [v2]) dL_refused_30 rfl rfl rfl rfl
set_option maxRecDepth 100000 in
theorem eL_refused_33 {a b : Int} {l0 l1 l2 : Option VV} {S : MM} : rn xL_refused (33, [l0, l1, l2], [vI b, vI a], S) = rn xL_refused (34, [l0, l1, l2], [vI (a + b)], S) := rn_step dL_refused_33 rfl rfl
set_option maxRecDepth 100000 in
theorem eL_refused_34 {a : Int} {w : Int} {l0 l2 : Option VV} {S : MM} : rn xL_refused (34, [l0, some (vI w), l2], [vI a], S) = rn xL_refused (35, [l0, some (vI w), some (vI a)], [], S) := rn_step dL_refused_34 rfl rfl
set_option maxRecDepth 100000 in
theorem eL_refused_35 {a : Option Nat} {l1 l2 : Option VV} {S : MM} : rn xL_refused (35, [some (.inr (.inl a)), l1, l2], [], S) = rn xL_refused (36, [some (.inr (.inl a)), l1, l2], [.inr (.inl a)], S) := rn_step dL_refused_35 rfl rfl
set_option maxRecDepth 100000 in
theorem eL_refused_36 {a : Int} {l0 l1 : Option VV} {v0 : VV} {S : MM} : rn xL_refused (36, [l0, l1, some (vI a)], [v0], S) = rn xL_refused (37, [l0, l1, some (vI a)], [vI a, v0], S) := rn_step dL_refused_36 rfl rfl
set_option maxRecDepth 100000 in
theorem eL_refused_37 {l0 l1 l2 : Option VV} {v0 v1 : VV} {S : MM} : rn xL_refused (37, [l0, l1, l2], [v0, v1], S) = rn xL_refused (38, [l0, l1, l2], [vI 0, v0, v1], S) := rn_step dL_refused_37 rfl rfl
set_option maxRecDepth 100000 in
theorem eL_refused_38 {a0 : Int} {a1 : Int} {l0 l1 l2 : Option VV} {S : MM} : rn xL_refused (38, [l0, l1, l2], [vI a1, vI a0, vR 0], S) = (fX8_set [vR 0, vI a0, vI a1] S).bind (fun q => rn xL_refused (41, [l0, l1, l2], q.1.toList ++ [], q.2)) := q_callV (n := 2) (as := [vI a0, vI a1]) (rest := []) dL_refused_38 rfl rfl rfl rfl kd0
set_option maxRecDepth 100000 in
theorem eL_refused_41 {l0 l1 l2 : Option VV} {v0 : VV} {S : MM} : rn xL_refused (41, [l0, l1, l2], [v0], S) = rn xL_refused (43, [l0, l1, l2], [vI (-2), v0], S) := rn_step dL_refused_41 rfl rfl
set_option maxRecDepth 100000 in
theorem eL_refused_43 {a b : Int} {l0 l1 l2 : Option VV} (h : -2147483648 ≤ a ∧ a ≤ 2147483647) (h1 : -2147483648 ≤ b ∧ b ≤ 2147483647) {S : MM} : rn xL_refused (43, [l0, l1, l2], [vI b, vI a], S) = if a = b then rn xL_refused (46, [l0, l1, l2], [], S) else rn xL_refused (387, [l0, l1, l2], [], S) := q_icmp_ne dL_refused_43 (by decide) rfl h h1
set_option maxRecDepth 100000 in
theorem eL_refused_46 {a : Option Nat} {l1 l2 : Option VV} {S : MM} : rn xL_refused (46, [some (.inr (.inl a)), l1, l2], [], S) = rn xL_refused (47, [some (.inr (.inl a)), l1, l2], [.inr (.inl a)], S) := rn_step dL_refused_46 rfl rfl
set_option maxRecDepth 100000 in
theorem eL_refused_47 {l0 l1 l2 : Option VV} {v0 : VV} {S : MM} : rn xL_refused (47, [l0, l1, l2], [v0], S) = rn xL_refused (48, [l0, l1, l2], [vI 0, v0], S) := rn_step dL_refused_47 rfl rfl
set_option maxRecDepth 100000 in
theorem eL_refused_48 {a : Int} {l0 l1 : Option VV} {v0 v1 : VV} {S : MM} : rn xL_refused (48, [l0, l1, some (vI a)], [v0, v1], S) = rn xL_refused (49, [l0, l1, some (vI a)], [vI a, v0, v1], S) := rn_step dL_refused_48 rfl rfl
set_option maxRecDepth 100000 in
theorem eL_refused_49 {a0 : Int} {a1 : Int} {l0 l1 l2 : Option VV} {S : MM} : rn xL_refused (49, [l0, l1, l2], [vI a1, vI a0, vR 0], S) = (fX8_set [vR 0, vI a0, vI a1] S).bind (fun q => rn xL_refused (52, [l0, l1, l2], q.1.toList ++ [], q.2)) := q_callV (n := 2) (as := [vI a0, vI a1]) (rest := []) dL_refused_49 rfl rfl rfl rfl kd0
set_option maxRecDepth 100000 in
theorem eL_refused_52 {l0 l1 l2 : Option VV} {v0 : VV} {S : MM} : rn xL_refused (52, [l0, l1, l2], [v0], S) = rn xL_refused (54, [l0, l1, l2], [vI (-2), v0], S) := rn_step dL_refused_52 rfl rfl
set_option maxRecDepth 100000 in
theorem eL_refused_54 {a b : Int} {l0 l1 l2 : Option VV} (h : -2147483648 ≤ a ∧ a ≤ 2147483647) (h1 : -2147483648 ≤ b ∧ b ≤ 2147483647) {S : MM} : rn xL_refused (54, [l0, l1, l2], [vI b, vI a], S) = if a = b then rn xL_refused (57, [l0, l1, l2], [], S) else rn xL_refused (387, [l0, l1, l2], [], S) := q_icmp_ne dL_refused_54 (by decide) rfl h h1
set_option maxRecDepth 100000 in
theorem eL_refused_57 {a : Option Nat} {l1 l2 : Option VV} {S : MM} : rn xL_refused (57, [some (.inr (.inl a)), l1, l2], [], S) = rn xL_refused (58, [some (.inr (.inl a)), l1, l2], [.inr (.inl a)], S) := rn_step dL_refused_57 rfl rfl
set_option maxRecDepth 100000 in
theorem eL_refused_58 {l0 l1 l2 : Option VV} {v0 : VV} {S : MM} : rn xL_refused (58, [l0, l1, l2], [v0], S) = rn xL_refused (59, [l0, l1, l2], [vI 3, v0], S) := rn_step dL_refused_58 rfl rfl
set_option maxRecDepth 100000 in
theorem eL_refused_59 {a : Int} {l0 l1 : Option VV} {v0 v1 : VV} {S : MM} : rn xL_refused (59, [l0, l1, some (vI a)], [v0, v1], S) = rn xL_refused (60, [l0, l1, some (vI a)], [vI a, v0, v1], S) := rn_step dL_refused_59 rfl rfl
set_option maxRecDepth 100000 in
theorem eL_refused_60 {a0 : Int} {a1 : Int} {l0 l1 l2 : Option VV} {S : MM} : rn xL_refused (60, [l0, l1, l2], [vI a1, vI a0, vR 0], S) = (fX8_set [vR 0, vI a0, vI a1] S).bind (fun q => rn xL_refused (63, [l0, l1, l2], q.1.toList ++ [], q.2)) := q_callV (n := 2) (as := [vI a0, vI a1]) (rest := []) dL_refused_60 rfl rfl rfl rfl kd0
set_option maxRecDepth 100000 in
theorem eL_refused_63 {l0 l1 l2 : Option VV} {v0 : VV} {S : MM} : rn xL_refused (63, [l0, l1, l2], [v0], S) = rn xL_refused (65, [l0, l1, l2], [vI (-2), v0], S) := rn_step dL_refused_63 rfl rfl
set_option maxRecDepth 100000 in
theorem eL_refused_65 {a b : Int} {l0 l1 l2 : Option VV} (h : -2147483648 ≤ a ∧ a ≤ 2147483647) (h1 : -2147483648 ≤ b ∧ b ≤ 2147483647) {S : MM} : rn xL_refused (65, [l0, l1, l2], [vI b, vI a], S) = if a = b then rn xL_refused (68, [l0, l1, l2], [], S) else rn xL_refused (387, [l0, l1, l2], [], S) := q_icmp_ne dL_refused_65 (by decide) rfl h h1
set_option maxRecDepth 100000 in
theorem eL_refused_68 {a : Option Nat} {l1 l2 : Option VV} {S : MM} : rn xL_refused (68, [some (.inr (.inl a)), l1, l2], [], S) = rn xL_refused (69, [some (.inr (.inl a)), l1, l2], [.inr (.inl a)], S) := rn_step dL_refused_68 rfl rfl
set_option maxRecDepth 100000 in
theorem eL_refused_69 {a : Int} {l0 l1 : Option VV} {v0 : VV} {S : MM} : rn xL_refused (69, [l0, l1, some (vI a)], [v0], S) = rn xL_refused (70, [l0, l1, some (vI a)], [vI a, v0], S) := rn_step dL_refused_69 rfl rfl
set_option maxRecDepth 100000 in
theorem eL_refused_70 {l0 l1 l2 : Option VV} {v0 v1 : VV} {S : MM} : rn xL_refused (70, [l0, l1, l2], [v0, v1], S) = rn xL_refused (71, [l0, l1, l2], [vI 0, v0, v1], S) := rn_step dL_refused_70 rfl rfl
set_option maxRecDepth 100000 in
theorem eL_refused_71 {l0 l1 l2 : Option VV} {v0 v1 v2 : VV} {S : MM} : rn xL_refused (71, [l0, l1, l2], [v0, v1, v2], S) = rn xL_refused (72, [l0, l1, l2], [vI 1, v0, v1, v2], S) := rn_step dL_refused_71 rfl rfl
set_option maxRecDepth 100000 in
theorem eL_refused_72 {a0 : Int} {a1 : Int} {a2 : Int} {l0 l1 l2 : Option VV} {S : MM} : rn xL_refused (72, [l0, l1, l2], [vI a2, vI a1, vI a0, vR 0], S) = (fX8_stone [vR 0, vI a0, vI a1, vI a2] S).bind (fun q => rn xL_refused (75, [l0, l1, l2], q.1.toList ++ [], q.2)) := q_callV (n := 3) (as := [vI a0, vI a1, vI a2]) (rest := []) dL_refused_72 rfl rfl rfl rfl kd0
set_option maxRecDepth 100000 in
theorem eL_refused_75 {l0 l1 l2 : Option VV} {v0 : VV} {S : MM} : rn xL_refused (75, [l0, l1, l2], [v0], S) = rn xL_refused (76, [l0, l1, l2], [vI (-1), v0], S) := rn_step dL_refused_75 rfl rfl
set_option maxRecDepth 100000 in
theorem eL_refused_76 {a b : Int} {l0 l1 l2 : Option VV} (h : -2147483648 ≤ a ∧ a ≤ 2147483647) (h1 : -2147483648 ≤ b ∧ b ≤ 2147483647) {S : MM} : rn xL_refused (76, [l0, l1, l2], [vI b, vI a], S) = if a = b then rn xL_refused (79, [l0, l1, l2], [], S) else rn xL_refused (387, [l0, l1, l2], [], S) := q_icmp_ne dL_refused_76 (by decide) rfl h h1
set_option maxRecDepth 100000 in
theorem eL_refused_79 {a : Option Nat} {l1 l2 : Option VV} {S : MM} : rn xL_refused (79, [some (.inr (.inl a)), l1, l2], [], S) = rn xL_refused (80, [some (.inr (.inl a)), l1, l2], [.inr (.inl a)], S) := rn_step dL_refused_79 rfl rfl
set_option maxRecDepth 100000 in
theorem eL_refused_80 {l0 l1 l2 : Option VV} {v0 : VV} {S : MM} : rn xL_refused (80, [l0, l1, l2], [v0], S) = rn xL_refused (81, [l0, l1, l2], [vI 0, v0], S) := rn_step dL_refused_80 rfl rfl
set_option maxRecDepth 100000 in
theorem eL_refused_81 {a : Int} {l0 l1 : Option VV} {v0 v1 : VV} {S : MM} : rn xL_refused (81, [l0, l1, some (vI a)], [v0, v1], S) = rn xL_refused (82, [l0, l1, some (vI a)], [vI a, v0, v1], S) := rn_step dL_refused_81 rfl rfl
set_option maxRecDepth 100000 in
theorem eL_refused_82 {l0 l1 l2 : Option VV} {v0 v1 v2 : VV} {S : MM} : rn xL_refused (82, [l0, l1, l2], [v0, v1, v2], S) = rn xL_refused (83, [l0, l1, l2], [vI 1, v0, v1, v2], S) := rn_step dL_refused_82 rfl rfl
set_option maxRecDepth 100000 in
theorem eL_refused_83 {a0 : Int} {a1 : Int} {a2 : Int} {l0 l1 l2 : Option VV} {S : MM} : rn xL_refused (83, [l0, l1, l2], [vI a2, vI a1, vI a0, vR 0], S) = (fX8_stone [vR 0, vI a0, vI a1, vI a2] S).bind (fun q => rn xL_refused (86, [l0, l1, l2], q.1.toList ++ [], q.2)) := q_callV (n := 3) (as := [vI a0, vI a1, vI a2]) (rest := []) dL_refused_83 rfl rfl rfl rfl kd0
set_option maxRecDepth 100000 in
theorem eL_refused_86 {l0 l1 l2 : Option VV} {v0 : VV} {S : MM} : rn xL_refused (86, [l0, l1, l2], [v0], S) = rn xL_refused (88, [l0, l1, l2], [vI (-2), v0], S) := rn_step dL_refused_86 rfl rfl
set_option maxRecDepth 100000 in
theorem eL_refused_88 {a b : Int} {l0 l1 l2 : Option VV} (h : -2147483648 ≤ a ∧ a ≤ 2147483647) (h1 : -2147483648 ≤ b ∧ b ≤ 2147483647) {S : MM} : rn xL_refused (88, [l0, l1, l2], [vI b, vI a], S) = if a = b then rn xL_refused (91, [l0, l1, l2], [], S) else rn xL_refused (387, [l0, l1, l2], [], S) := q_icmp_ne dL_refused_88 (by decide) rfl h h1
set_option maxRecDepth 100000 in
theorem eL_refused_91 {a : Option Nat} {l1 l2 : Option VV} {S : MM} : rn xL_refused (91, [some (.inr (.inl a)), l1, l2], [], S) = rn xL_refused (92, [some (.inr (.inl a)), l1, l2], [.inr (.inl a)], S) := rn_step dL_refused_91 rfl rfl
set_option maxRecDepth 100000 in
theorem eL_refused_92 {l0 l1 l2 : Option VV} {v0 : VV} {S : MM} : rn xL_refused (92, [l0, l1, l2], [v0], S) = rn xL_refused (93, [l0, l1, l2], [vI 0, v0], S) := rn_step dL_refused_92 rfl rfl
set_option maxRecDepth 100000 in
theorem eL_refused_93 {l0 l1 l2 : Option VV} {v0 v1 : VV} {S : MM} : rn xL_refused (93, [l0, l1, l2], [v0, v1], S) = rn xL_refused (94, [l0, l1, l2], [vI 0, v0, v1], S) := rn_step dL_refused_93 rfl rfl
set_option maxRecDepth 100000 in
theorem eL_refused_94 {a : Int} {l0 l1 : Option VV} {v0 v1 v2 : VV} {S : MM} : rn xL_refused (94, [l0, l1, some (vI a)], [v0, v1, v2], S) = rn xL_refused (95, [l0, l1, some (vI a)], [vI a, v0, v1, v2], S) := rn_step dL_refused_94 rfl rfl
set_option maxRecDepth 100000 in
theorem eL_refused_95 {a0 : Int} {a1 : Int} {a2 : Int} {l0 l1 l2 : Option VV} {S : MM} : rn xL_refused (95, [l0, l1, l2], [vI a2, vI a1, vI a0, vR 0], S) = (fX8_stone [vR 0, vI a0, vI a1, vI a2] S).bind (fun q => rn xL_refused (98, [l0, l1, l2], q.1.toList ++ [], q.2)) := q_callV (n := 3) (as := [vI a0, vI a1, vI a2]) (rest := []) dL_refused_95 rfl rfl rfl rfl kd0
set_option maxRecDepth 100000 in
theorem eL_refused_98 {l0 l1 l2 : Option VV} {v0 : VV} {S : MM} : rn xL_refused (98, [l0, l1, l2], [v0], S) = rn xL_refused (100, [l0, l1, l2], [vI (-2), v0], S) := rn_step dL_refused_98 rfl rfl
set_option maxRecDepth 100000 in
theorem eL_refused_100 {a b : Int} {l0 l1 l2 : Option VV} (h : -2147483648 ≤ a ∧ a ≤ 2147483647) (h1 : -2147483648 ≤ b ∧ b ≤ 2147483647) {S : MM} : rn xL_refused (100, [l0, l1, l2], [vI b, vI a], S) = if a = b then rn xL_refused (103, [l0, l1, l2], [], S) else rn xL_refused (387, [l0, l1, l2], [], S) := q_icmp_ne dL_refused_100 (by decide) rfl h h1
set_option maxRecDepth 100000 in
theorem eL_refused_103 {a : Option Nat} {l1 l2 : Option VV} {S : MM} : rn xL_refused (103, [some (.inr (.inl a)), l1, l2], [], S) = rn xL_refused (104, [some (.inr (.inl a)), l1, l2], [.inr (.inl a)], S) := rn_step dL_refused_103 rfl rfl
set_option maxRecDepth 100000 in
theorem eL_refused_104 {a : Int} {l0 l1 : Option VV} {v0 : VV} {S : MM} : rn xL_refused (104, [l0, l1, some (vI a)], [v0], S) = rn xL_refused (105, [l0, l1, some (vI a)], [vI a, v0], S) := rn_step dL_refused_104 rfl rfl
set_option maxRecDepth 100000 in
theorem eL_refused_105 {l0 l1 l2 : Option VV} {v0 v1 : VV} {S : MM} : rn xL_refused (105, [l0, l1, l2], [v0, v1], S) = rn xL_refused (106, [l0, l1, l2], [vI 0, v0, v1], S) := rn_step dL_refused_105 rfl rfl
set_option maxRecDepth 100000 in
theorem eL_refused_106 {l0 l1 l2 : Option VV} {v0 v1 v2 : VV} {S : MM} : rn xL_refused (106, [l0, l1, l2], [v0, v1, v2], S) = rn xL_refused (107, [l0, l1, l2], [vI 1, v0, v1, v2], S) := rn_step dL_refused_106 rfl rfl
set_option maxRecDepth 100000 in
theorem eL_refused_107 {a0 : Int} {a1 : Int} {a2 : Int} {l0 l1 l2 : Option VV} {S : MM} : rn xL_refused (107, [l0, l1, l2], [vI a2, vI a1, vI a0, vR 0], S) = (fX8_flood [vR 0, vI a0, vI a1, vI a2] S).bind (fun q => rn xL_refused (110, [l0, l1, l2], q.1.toList ++ [], q.2)) := q_callV (n := 3) (as := [vI a0, vI a1, vI a2]) (rest := []) dL_refused_107 rfl rfl rfl rfl kd0
set_option maxRecDepth 100000 in
theorem eL_refused_110 {l0 l1 l2 : Option VV} {v0 : VV} {S : MM} : rn xL_refused (110, [l0, l1, l2], [v0], S) = rn xL_refused (111, [l0, l1, l2], [vI (-1), v0], S) := rn_step dL_refused_110 rfl rfl
set_option maxRecDepth 100000 in
theorem eL_refused_111 {a b : Int} {l0 l1 l2 : Option VV} (h : -2147483648 ≤ a ∧ a ≤ 2147483647) (h1 : -2147483648 ≤ b ∧ b ≤ 2147483647) {S : MM} : rn xL_refused (111, [l0, l1, l2], [vI b, vI a], S) = if a = b then rn xL_refused (114, [l0, l1, l2], [], S) else rn xL_refused (387, [l0, l1, l2], [], S) := q_icmp_ne dL_refused_111 (by decide) rfl h h1
set_option maxRecDepth 100000 in
theorem eL_refused_114 {a : Option Nat} {l1 l2 : Option VV} {S : MM} : rn xL_refused (114, [some (.inr (.inl a)), l1, l2], [], S) = rn xL_refused (115, [some (.inr (.inl a)), l1, l2], [.inr (.inl a)], S) := rn_step dL_refused_114 rfl rfl
set_option maxRecDepth 100000 in
theorem eL_refused_115 {l0 l1 l2 : Option VV} {v0 : VV} {S : MM} : rn xL_refused (115, [l0, l1, l2], [v0], S) = rn xL_refused (116, [l0, l1, l2], [vI 0, v0], S) := rn_step dL_refused_115 rfl rfl
set_option maxRecDepth 100000 in
theorem eL_refused_116 {a : Int} {l0 l1 : Option VV} {v0 v1 : VV} {S : MM} : rn xL_refused (116, [l0, l1, some (vI a)], [v0, v1], S) = rn xL_refused (117, [l0, l1, some (vI a)], [vI a, v0, v1], S) := rn_step dL_refused_116 rfl rfl
set_option maxRecDepth 100000 in
theorem eL_refused_117 {a : Int} {l0 l1 : Option VV} {v0 v1 v2 : VV} {S : MM} : rn xL_refused (117, [l0, l1, some (vI a)], [v0, v1, v2], S) = rn xL_refused (118, [l0, l1, some (vI a)], [vI a, v0, v1, v2], S) := rn_step dL_refused_117 rfl rfl
set_option maxRecDepth 100000 in
theorem eL_refused_118 {a0 : Int} {a1 : Int} {a2 : Int} {l0 l1 l2 : Option VV} {S : MM} : rn xL_refused (118, [l0, l1, l2], [vI a2, vI a1, vI a0, vR 0], S) = (fX8_flood [vR 0, vI a0, vI a1, vI a2] S).bind (fun q => rn xL_refused (121, [l0, l1, l2], q.1.toList ++ [], q.2)) := q_callV (n := 3) (as := [vI a0, vI a1, vI a2]) (rest := []) dL_refused_118 rfl rfl rfl rfl kd0
set_option maxRecDepth 100000 in
theorem eL_refused_121 {l0 l1 l2 : Option VV} {v0 : VV} {S : MM} : rn xL_refused (121, [l0, l1, l2], [v0], S) = rn xL_refused (123, [l0, l1, l2], [vI (-2), v0], S) := rn_step dL_refused_121 rfl rfl
set_option maxRecDepth 100000 in
theorem eL_refused_123 {a b : Int} {l0 l1 l2 : Option VV} (h : -2147483648 ≤ a ∧ a ≤ 2147483647) (h1 : -2147483648 ≤ b ∧ b ≤ 2147483647) {S : MM} : rn xL_refused (123, [l0, l1, l2], [vI b, vI a], S) = if a = b then rn xL_refused (126, [l0, l1, l2], [], S) else rn xL_refused (387, [l0, l1, l2], [], S) := q_icmp_ne dL_refused_123 (by decide) rfl h h1
set_option maxRecDepth 100000 in
theorem eL_refused_126 {a : Option Nat} {l1 l2 : Option VV} {S : MM} : rn xL_refused (126, [some (.inr (.inl a)), l1, l2], [], S) = rn xL_refused (127, [some (.inr (.inl a)), l1, l2], [.inr (.inl a)], S) := rn_step dL_refused_126 rfl rfl
set_option maxRecDepth 100000 in
theorem eL_refused_127 {l0 l1 l2 : Option VV} {v0 : VV} {S : MM} : rn xL_refused (127, [l0, l1, l2], [v0], S) = rn xL_refused (129, [l0, l1, l2], [vI (-6), v0], S) := rn_step dL_refused_127 rfl rfl
set_option maxRecDepth 100000 in
theorem eL_refused_129 {l0 l1 l2 : Option VV} {v0 v1 : VV} {S : MM} : rn xL_refused (129, [l0, l1, l2], [v0, v1], S) = rn xL_refused (130, [l0, l1, l2], [vI 0, v0, v1], S) := rn_step dL_refused_129 rfl rfl
set_option maxRecDepth 100000 in
theorem eL_refused_130 {a : Int} {l0 l1 : Option VV} {v0 v1 v2 : VV} {S : MM} : rn xL_refused (130, [l0, l1, some (vI a)], [v0, v1, v2], S) = rn xL_refused (131, [l0, l1, some (vI a)], [vI a, v0, v1, v2], S) := rn_step dL_refused_130 rfl rfl
set_option maxRecDepth 100000 in
theorem eL_refused_131 {a0 : Int} {a1 : Int} {a2 : Int} {l0 l1 l2 : Option VV} {S : MM} : rn xL_refused (131, [l0, l1, l2], [vI a2, vI a1, vI a0, vR 0], S) = (fX8_flood [vR 0, vI a0, vI a1, vI a2] S).bind (fun q => rn xL_refused (134, [l0, l1, l2], q.1.toList ++ [], q.2)) := q_callV (n := 3) (as := [vI a0, vI a1, vI a2]) (rest := []) dL_refused_131 rfl rfl rfl rfl kd0
set_option maxRecDepth 100000 in
theorem eL_refused_134 {l0 l1 l2 : Option VV} {v0 : VV} {S : MM} : rn xL_refused (134, [l0, l1, l2], [v0], S) = rn xL_refused (136, [l0, l1, l2], [vI (-2), v0], S) := rn_step dL_refused_134 rfl rfl
set_option maxRecDepth 100000 in
theorem eL_refused_136 {a b : Int} {l0 l1 l2 : Option VV} (h : -2147483648 ≤ a ∧ a ≤ 2147483647) (h1 : -2147483648 ≤ b ∧ b ≤ 2147483647) {S : MM} : rn xL_refused (136, [l0, l1, l2], [vI b, vI a], S) = if a = b then rn xL_refused (139, [l0, l1, l2], [], S) else rn xL_refused (387, [l0, l1, l2], [], S) := q_icmp_ne dL_refused_136 (by decide) rfl h h1
set_option maxRecDepth 100000 in
theorem eL_refused_139 {a : Option Nat} {l1 l2 : Option VV} {S : MM} : rn xL_refused (139, [some (.inr (.inl a)), l1, l2], [], S) = rn xL_refused (140, [some (.inr (.inl a)), l1, l2], [.inr (.inl a)], S) := rn_step dL_refused_139 rfl rfl
set_option maxRecDepth 100000 in
theorem eL_refused_140 {l0 l1 l2 : Option VV} {S : MM} : rn xL_refused (140, [l0, l1, l2], [vR 0], S) = (fX8_dry [vR 0] S).bind (fun q => rn xL_refused (143, [l0, l1, l2], q.1.toList ++ [], q.2)) := q_callV (n := 0) (as := []) (rest := []) dL_refused_140 rfl rfl rfl rfl kd0
set_option maxRecDepth 100000 in
theorem eL_refused_143 {l0 l1 l2 : Option VV} {v0 : VV} {S : MM} : rn xL_refused (143, [l0, l1, l2], [v0], S) = rn xL_refused (145, [l0, l1, l2], [vI (-5), v0], S) := rn_step dL_refused_143 rfl rfl
set_option maxRecDepth 100000 in
theorem eL_refused_145 {a b : Int} {l0 l1 l2 : Option VV} (h : -2147483648 ≤ a ∧ a ≤ 2147483647) (h1 : -2147483648 ≤ b ∧ b ≤ 2147483647) {S : MM} : rn xL_refused (145, [l0, l1, l2], [vI b, vI a], S) = if a = b then rn xL_refused (148, [l0, l1, l2], [], S) else rn xL_refused (387, [l0, l1, l2], [], S) := q_icmp_ne dL_refused_145 (by decide) rfl h h1
set_option maxRecDepth 100000 in
theorem eL_refused_148 {a : Option Nat} {l1 l2 : Option VV} {S : MM} : rn xL_refused (148, [some (.inr (.inl a)), l1, l2], [], S) = rn xL_refused (149, [some (.inr (.inl a)), l1, l2], [.inr (.inl a)], S) := rn_step dL_refused_148 rfl rfl
set_option maxRecDepth 100000 in
theorem eL_refused_149 {l0 l1 l2 : Option VV} {S : MM} : rn xL_refused (149, [l0, l1, l2], [vR 0], S) = (fX8_leap [vR 0] S).bind (fun q => rn xL_refused (152, [l0, l1, l2], q.1.toList ++ [], q.2)) := q_callV (n := 0) (as := []) (rest := []) dL_refused_149 rfl rfl rfl rfl kd0
set_option maxRecDepth 100000 in
theorem eL_refused_152 {l0 l1 l2 : Option VV} {v0 : VV} {S : MM} : rn xL_refused (152, [l0, l1, l2], [v0], S) = rn xL_refused (154, [l0, l1, l2], [vI (-5), v0], S) := rn_step dL_refused_152 rfl rfl
set_option maxRecDepth 100000 in
theorem eL_refused_154 {a b : Int} {l0 l1 l2 : Option VV} (h : -2147483648 ≤ a ∧ a ≤ 2147483647) (h1 : -2147483648 ≤ b ∧ b ≤ 2147483647) {S : MM} : rn xL_refused (154, [l0, l1, l2], [vI b, vI a], S) = if a = b then rn xL_refused (157, [l0, l1, l2], [], S) else rn xL_refused (387, [l0, l1, l2], [], S) := q_icmp_ne dL_refused_154 (by decide) rfl h h1
set_option maxRecDepth 100000 in
theorem eL_refused_157 {a : Option Nat} {l1 l2 : Option VV} {S : MM} : rn xL_refused (157, [some (.inr (.inl a)), l1, l2], [], S) = rn xL_refused (158, [some (.inr (.inl a)), l1, l2], [.inr (.inl a)], S) := rn_step dL_refused_157 rfl rfl
set_option maxRecDepth 100000 in
theorem eL_refused_158 {l0 l1 l2 : Option VV} {S : MM} : rn xL_refused (158, [l0, l1, l2], [vR 0], S) = (fX8_run [vR 0] S).bind (fun q => rn xL_refused (161, [l0, l1, l2], q.1.toList ++ [], q.2)) := q_callV (n := 0) (as := []) (rest := []) dL_refused_158 rfl rfl rfl rfl kd0
set_option maxRecDepth 100000 in
theorem eL_refused_161 {l0 l1 l2 : Option VV} {v0 : VV} {S : MM} : rn xL_refused (161, [l0, l1, l2], [v0], S) = rn xL_refused (163, [l0, l1, l2], [vI (-5), v0], S) := rn_step dL_refused_161 rfl rfl
set_option maxRecDepth 100000 in
theorem eL_refused_163 {a b : Int} {l0 l1 l2 : Option VV} (h : -2147483648 ≤ a ∧ a ≤ 2147483647) (h1 : -2147483648 ≤ b ∧ b ≤ 2147483647) {S : MM} : rn xL_refused (163, [l0, l1, l2], [vI b, vI a], S) = if a = b then rn xL_refused (166, [l0, l1, l2], [], S) else rn xL_refused (387, [l0, l1, l2], [], S) := q_icmp_ne dL_refused_163 (by decide) rfl h h1
set_option maxRecDepth 100000 in
theorem eL_refused_166 {a : Option Nat} {l1 l2 : Option VV} {S : MM} : rn xL_refused (166, [some (.inr (.inl a)), l1, l2], [], S) = rn xL_refused (167, [some (.inr (.inl a)), l1, l2], [.inr (.inl a)], S) := rn_step dL_refused_166 rfl rfl
set_option maxRecDepth 100000 in
theorem eL_refused_167 {a : Int} {l0 l1 : Option VV} {v0 : VV} {S : MM} : rn xL_refused (167, [l0, l1, some (vI a)], [v0], S) = rn xL_refused (168, [l0, l1, some (vI a)], [vI a, v0], S) := rn_step dL_refused_167 rfl rfl
set_option maxRecDepth 100000 in
theorem eL_refused_168 {l0 l1 l2 : Option VV} {v0 v1 : VV} {S : MM} : rn xL_refused (168, [l0, l1, l2], [v0, v1], S) = rn xL_refused (169, [l0, l1, l2], [vI 0, v0, v1], S) := rn_step dL_refused_168 rfl rfl
set_option maxRecDepth 100000 in
theorem eL_refused_169 {a0 : Int} {a1 : Int} {l0 l1 l2 : Option VV} {S : MM} : rn xL_refused (169, [l0, l1, l2], [vI a1, vI a0, vR 0], S) = (fX8_ofWalker [vR 0, vI a0, vI a1] S).bind (fun q => rn xL_refused (172, [l0, l1, l2], q.1.toList ++ [], q.2)) := q_callV (n := 2) (as := [vI a0, vI a1]) (rest := []) dL_refused_169 rfl rfl rfl rfl kd0
set_option maxRecDepth 100000 in
theorem eL_refused_172 {l0 l1 l2 : Option VV} {v0 : VV} {S : MM} : rn xL_refused (172, [l0, l1, l2], [v0], S) = rn xL_refused (173, [l0, l1, l2], [vI (-1), v0], S) := rn_step dL_refused_172 rfl rfl
set_option maxRecDepth 100000 in
theorem eL_refused_173 {a b : Int} {l0 l1 l2 : Option VV} (h : -2147483648 ≤ a ∧ a ≤ 2147483647) (h1 : -2147483648 ≤ b ∧ b ≤ 2147483647) {S : MM} : rn xL_refused (173, [l0, l1, l2], [vI b, vI a], S) = if a = b then rn xL_refused (176, [l0, l1, l2], [], S) else rn xL_refused (387, [l0, l1, l2], [], S) := q_icmp_ne dL_refused_173 (by decide) rfl h h1
set_option maxRecDepth 100000 in
theorem eL_refused_176 {a : Option Nat} {l1 l2 : Option VV} {S : MM} : rn xL_refused (176, [some (.inr (.inl a)), l1, l2], [], S) = rn xL_refused (177, [some (.inr (.inl a)), l1, l2], [.inr (.inl a)], S) := rn_step dL_refused_176 rfl rfl
set_option maxRecDepth 100000 in
theorem eL_refused_177 {l0 l1 l2 : Option VV} {v0 : VV} {S : MM} : rn xL_refused (177, [l0, l1, l2], [v0], S) = rn xL_refused (178, [l0, l1, l2], [vI 0, v0], S) := rn_step dL_refused_177 rfl rfl
set_option maxRecDepth 100000 in
theorem eL_refused_178 {a : Int} {l0 l1 : Option VV} {v0 v1 : VV} {S : MM} : rn xL_refused (178, [l0, l1, some (vI a)], [v0, v1], S) = rn xL_refused (179, [l0, l1, some (vI a)], [vI a, v0, v1], S) := rn_step dL_refused_178 rfl rfl
set_option maxRecDepth 100000 in
theorem eL_refused_179 {a0 : Int} {a1 : Int} {l0 l1 l2 : Option VV} {S : MM} : rn xL_refused (179, [l0, l1, l2], [vI a1, vI a0, vR 0], S) = (fX8_ofWalker [vR 0, vI a0, vI a1] S).bind (fun q => rn xL_refused (182, [l0, l1, l2], q.1.toList ++ [], q.2)) := q_callV (n := 2) (as := [vI a0, vI a1]) (rest := []) dL_refused_179 rfl rfl rfl rfl kd0
set_option maxRecDepth 100000 in
theorem eL_refused_182 {l0 l1 l2 : Option VV} {v0 : VV} {S : MM} : rn xL_refused (182, [l0, l1, l2], [v0], S) = rn xL_refused (184, [l0, l1, l2], [vI (-2), v0], S) := rn_step dL_refused_182 rfl rfl
set_option maxRecDepth 100000 in
theorem eL_refused_184 {a b : Int} {l0 l1 l2 : Option VV} (h : -2147483648 ≤ a ∧ a ≤ 2147483647) (h1 : -2147483648 ≤ b ∧ b ≤ 2147483647) {S : MM} : rn xL_refused (184, [l0, l1, l2], [vI b, vI a], S) = if a = b then rn xL_refused (187, [l0, l1, l2], [], S) else rn xL_refused (387, [l0, l1, l2], [], S) := q_icmp_ne dL_refused_184 (by decide) rfl h h1
set_option maxRecDepth 100000 in
theorem eL_refused_187 {a : Option Nat} {l1 l2 : Option VV} {S : MM} : rn xL_refused (187, [some (.inr (.inl a)), l1, l2], [], S) = rn xL_refused (188, [some (.inr (.inl a)), l1, l2], [.inr (.inl a)], S) := rn_step dL_refused_187 rfl rfl
set_option maxRecDepth 100000 in
theorem eL_refused_188 {l0 l1 l2 : Option VV} {v0 : VV} {S : MM} : rn xL_refused (188, [l0, l1, l2], [v0], S) = rn xL_refused (189, [l0, l1, l2], [vI 0, v0], S) := rn_step dL_refused_188 rfl rfl
set_option maxRecDepth 100000 in
theorem eL_refused_189 {l0 l1 l2 : Option VV} {v0 v1 : VV} {S : MM} : rn xL_refused (189, [l0, l1, l2], [v0, v1], S) = rn xL_refused (190, [l0, l1, l2], [vI 1, v0, v1], S) := rn_step dL_refused_189 rfl rfl
set_option maxRecDepth 100000 in
theorem eL_refused_190 {a0 : Int} {a1 : Int} {l0 l1 l2 : Option VV} {S : MM} : rn xL_refused (190, [l0, l1, l2], [vI a1, vI a0, vR 0], S) = (fX8_ofWalker [vR 0, vI a0, vI a1] S).bind (fun q => rn xL_refused (193, [l0, l1, l2], q.1.toList ++ [], q.2)) := q_callV (n := 2) (as := [vI a0, vI a1]) (rest := []) dL_refused_190 rfl rfl rfl rfl kd0
set_option maxRecDepth 100000 in
theorem eL_refused_193 {l0 l1 l2 : Option VV} {v0 : VV} {S : MM} : rn xL_refused (193, [l0, l1, l2], [v0], S) = rn xL_refused (195, [l0, l1, l2], [vI (-6), v0], S) := rn_step dL_refused_193 rfl rfl
set_option maxRecDepth 100000 in
theorem eL_refused_195 {a b : Int} {l0 l1 l2 : Option VV} (h : -2147483648 ≤ a ∧ a ≤ 2147483647) (h1 : -2147483648 ≤ b ∧ b ≤ 2147483647) {S : MM} : rn xL_refused (195, [l0, l1, l2], [vI b, vI a], S) = if a = b then rn xL_refused (198, [l0, l1, l2], [], S) else rn xL_refused (387, [l0, l1, l2], [], S) := q_icmp_ne dL_refused_195 (by decide) rfl h h1
set_option maxRecDepth 100000 in
theorem eL_refused_198 {a : Option Nat} {l1 l2 : Option VV} {S : MM} : rn xL_refused (198, [some (.inr (.inl a)), l1, l2], [], S) = rn xL_refused (199, [some (.inr (.inl a)), l1, l2], [.inr (.inl a)], S) := rn_step dL_refused_198 rfl rfl
set_option maxRecDepth 100000 in
theorem eL_refused_199 {l0 l1 l2 : Option VV} {v0 : VV} {S : MM} : rn xL_refused (199, [l0, l1, l2], [v0], S) = rn xL_refused (200, [l0, l1, l2], [vI 0, v0], S) := rn_step dL_refused_199 rfl rfl
set_option maxRecDepth 100000 in
theorem eL_refused_200 {a : Int} {l0 l1 : Option VV} {v0 v1 : VV} {S : MM} : rn xL_refused (200, [l0, l1, some (vI a)], [v0, v1], S) = rn xL_refused (201, [l0, l1, some (vI a)], [vI a, v0, v1], S) := rn_step dL_refused_200 rfl rfl
set_option maxRecDepth 100000 in
theorem eL_refused_201 {l0 l1 l2 : Option VV} {v0 v1 v2 : VV} {S : MM} : rn xL_refused (201, [l0, l1, l2], [v0, v1, v2], S) = rn xL_refused (202, [l0, l1, l2], [vI 0, v0, v1, v2], S) := rn_step dL_refused_201 rfl rfl
set_option maxRecDepth 100000 in
theorem eL_refused_202 {a0 : Int} {a1 : Int} {a2 : Int} {l0 l1 l2 : Option VV} {S : MM} : rn xL_refused (202, [l0, l1, l2], [vI a2, vI a1, vI a0, vR 0], S) = (fX8_ofStone [vR 0, vI a0, vI a1, vI a2] S).bind (fun q => rn xL_refused (205, [l0, l1, l2], q.1.toList ++ [], q.2)) := q_callV (n := 3) (as := [vI a0, vI a1, vI a2]) (rest := []) dL_refused_202 rfl rfl rfl rfl kd0
set_option maxRecDepth 100000 in
theorem eL_refused_205 {l0 l1 l2 : Option VV} {v0 : VV} {S : MM} : rn xL_refused (205, [l0, l1, l2], [v0], S) = rn xL_refused (206, [l0, l1, l2], [vI (-1), v0], S) := rn_step dL_refused_205 rfl rfl
set_option maxRecDepth 100000 in
theorem eL_refused_206 {a b : Int} {l0 l1 l2 : Option VV} (h : -2147483648 ≤ a ∧ a ≤ 2147483647) (h1 : -2147483648 ≤ b ∧ b ≤ 2147483647) {S : MM} : rn xL_refused (206, [l0, l1, l2], [vI b, vI a], S) = if a = b then rn xL_refused (209, [l0, l1, l2], [], S) else rn xL_refused (387, [l0, l1, l2], [], S) := q_icmp_ne dL_refused_206 (by decide) rfl h h1
set_option maxRecDepth 100000 in
theorem eL_refused_209 {a : Option Nat} {l1 l2 : Option VV} {S : MM} : rn xL_refused (209, [some (.inr (.inl a)), l1, l2], [], S) = rn xL_refused (210, [some (.inr (.inl a)), l1, l2], [.inr (.inl a)], S) := rn_step dL_refused_209 rfl rfl
set_option maxRecDepth 100000 in
theorem eL_refused_210 {a : Int} {l0 l1 : Option VV} {v0 : VV} {S : MM} : rn xL_refused (210, [l0, l1, some (vI a)], [v0], S) = rn xL_refused (211, [l0, l1, some (vI a)], [vI a, v0], S) := rn_step dL_refused_210 rfl rfl
set_option maxRecDepth 100000 in
theorem eL_refused_211 {a0 : Int} {l0 l1 l2 : Option VV} {S : MM} : rn xL_refused (211, [l0, l1, l2], [vI a0, vR 0], S) = (fX8_ofRun [vR 0, vI a0] S).bind (fun q => rn xL_refused (214, [l0, l1, l2], q.1.toList ++ [], q.2)) := q_callV (n := 1) (as := [vI a0]) (rest := []) dL_refused_211 rfl rfl rfl rfl kd0
set_option maxRecDepth 100000 in
theorem eL_refused_214 {l0 l1 l2 : Option VV} {v0 : VV} {S : MM} : rn xL_refused (214, [l0, l1, l2], [v0], S) = rn xL_refused (216, [l0, l1, l2], [vI (-2), v0], S) := rn_step dL_refused_214 rfl rfl
set_option maxRecDepth 100000 in
theorem eL_refused_216 {a b : Int} {l0 l1 l2 : Option VV} (h : -2147483648 ≤ a ∧ a ≤ 2147483647) (h1 : -2147483648 ≤ b ∧ b ≤ 2147483647) {S : MM} : rn xL_refused (216, [l0, l1, l2], [vI b, vI a], S) = if a = b then rn xL_refused (219, [l0, l1, l2], [], S) else rn xL_refused (387, [l0, l1, l2], [], S) := q_icmp_ne dL_refused_216 (by decide) rfl h h1
set_option maxRecDepth 100000 in
theorem eL_refused_219 {a : Option Nat} {l1 l2 : Option VV} {S : MM} : rn xL_refused (219, [some (.inr (.inl a)), l1, l2], [], S) = rn xL_refused (220, [some (.inr (.inl a)), l1, l2], [.inr (.inl a)], S) := rn_step dL_refused_219 rfl rfl
set_option maxRecDepth 100000 in
theorem eL_refused_220 {l0 l1 l2 : Option VV} {v0 : VV} {S : MM} : rn xL_refused (220, [l0, l1, l2], [v0], S) = rn xL_refused (221, [l0, l1, l2], [vI 0, v0], S) := rn_step dL_refused_220 rfl rfl
set_option maxRecDepth 100000 in
theorem eL_refused_221 {a0 : Int} {l0 l1 l2 : Option VV} {S : MM} : rn xL_refused (221, [l0, l1, l2], [vI a0, vR 0], S) = (fX8_ofRun [vR 0, vI a0] S).bind (fun q => rn xL_refused (224, [l0, l1, l2], q.1.toList ++ [], q.2)) := q_callV (n := 1) (as := [vI a0]) (rest := []) dL_refused_221 rfl rfl rfl rfl kd0
set_option maxRecDepth 100000 in
theorem eL_refused_224 {l0 l1 l2 : Option VV} {v0 : VV} {S : MM} : rn xL_refused (224, [l0, l1, l2], [v0], S) = rn xL_refused (226, [l0, l1, l2], [vI (-6), v0], S) := rn_step dL_refused_224 rfl rfl
set_option maxRecDepth 100000 in
theorem eL_refused_226 {a b : Int} {l0 l1 l2 : Option VV} (h : -2147483648 ≤ a ∧ a ≤ 2147483647) (h1 : -2147483648 ≤ b ∧ b ≤ 2147483647) {S : MM} : rn xL_refused (226, [l0, l1, l2], [vI b, vI a], S) = if a = b then rn xL_refused (229, [l0, l1, l2], [], S) else rn xL_refused (387, [l0, l1, l2], [], S) := q_icmp_ne dL_refused_226 (by decide) rfl h h1
set_option maxRecDepth 100000 in
theorem eL_refused_229 {a : Option Nat} {l1 l2 : Option VV} {S : MM} : rn xL_refused (229, [some (.inr (.inl a)), l1, l2], [], S) = rn xL_refused (230, [some (.inr (.inl a)), l1, l2], [.inr (.inl a)], S) := rn_step dL_refused_229 rfl rfl
set_option maxRecDepth 100000 in
theorem eL_refused_230 {a : Int} {l0 l1 : Option VV} {v0 : VV} {S : MM} : rn xL_refused (230, [l0, l1, some (vI a)], [v0], S) = rn xL_refused (231, [l0, l1, some (vI a)], [vI a, v0], S) := rn_step dL_refused_230 rfl rfl
set_option maxRecDepth 100000 in
theorem eL_refused_231 {l0 l1 l2 : Option VV} {v0 v1 : VV} {S : MM} : rn xL_refused (231, [l0, l1, l2], [v0, v1], S) = rn xL_refused (232, [l0, l1, l2], [vI 0, v0, v1], S) := rn_step dL_refused_231 rfl rfl
set_option maxRecDepth 100000 in
theorem eL_refused_232 {a0 : Int} {a1 : Int} {l0 l1 l2 : Option VV} {S : MM} : rn xL_refused (232, [l0, l1, l2], [vI a1, vI a0, vR 0], S) = (fX8_meeting [vR 0, vI a0, vI a1] S).bind (fun q => rn xL_refused (235, [l0, l1, l2], q.1.toList ++ [], q.2)) := q_callV (n := 2) (as := [vI a0, vI a1]) (rest := []) dL_refused_232 rfl rfl rfl rfl kd0
set_option maxRecDepth 100000 in
theorem eL_refused_235 {l0 l1 l2 : Option VV} {v0 : VV} {S : MM} : rn xL_refused (235, [l0, l1, l2], [v0], S) = rn xL_refused (236, [l0, l1, l2], [vI (-1), v0], S) := rn_step dL_refused_235 rfl rfl
set_option maxRecDepth 100000 in
theorem eL_refused_236 {a b : Int} {l0 l1 l2 : Option VV} (h : -2147483648 ≤ a ∧ a ≤ 2147483647) (h1 : -2147483648 ≤ b ∧ b ≤ 2147483647) {S : MM} : rn xL_refused (236, [l0, l1, l2], [vI b, vI a], S) = if a = b then rn xL_refused (239, [l0, l1, l2], [], S) else rn xL_refused (387, [l0, l1, l2], [], S) := q_icmp_ne dL_refused_236 (by decide) rfl h h1
set_option maxRecDepth 100000 in
theorem eL_refused_239 {a : Option Nat} {l1 l2 : Option VV} {S : MM} : rn xL_refused (239, [some (.inr (.inl a)), l1, l2], [], S) = rn xL_refused (240, [some (.inr (.inl a)), l1, l2], [.inr (.inl a)], S) := rn_step dL_refused_239 rfl rfl
set_option maxRecDepth 100000 in
theorem eL_refused_240 {a : Int} {l0 l1 : Option VV} {v0 : VV} {S : MM} : rn xL_refused (240, [l0, l1, some (vI a)], [v0], S) = rn xL_refused (241, [l0, l1, some (vI a)], [vI a, v0], S) := rn_step dL_refused_240 rfl rfl
set_option maxRecDepth 100000 in
theorem eL_refused_241 {a0 : Int} {l0 l1 l2 : Option VV} {S : MM} : rn xL_refused (241, [l0, l1, l2], [vI a0, vR 0], S) = (fX8_count [vR 0, vI a0] S).bind (fun q => rn xL_refused (244, [l0, l1, l2], q.1.toList ++ [], q.2)) := q_callV (n := 1) (as := [vI a0]) (rest := []) dL_refused_241 rfl rfl rfl rfl kd0
set_option maxRecDepth 100000 in
theorem eL_refused_244 {l0 l1 l2 : Option VV} {v0 : VV} {S : MM} : rn xL_refused (244, [l0, l1, l2], [v0], S) = rn xL_refused (246, [l0, l1, l2], [vI (-2), v0], S) := rn_step dL_refused_244 rfl rfl
set_option maxRecDepth 100000 in
theorem eL_refused_246 {a b : Int} {l0 l1 l2 : Option VV} (h : -2147483648 ≤ a ∧ a ≤ 2147483647) (h1 : -2147483648 ≤ b ∧ b ≤ 2147483647) {S : MM} : rn xL_refused (246, [l0, l1, l2], [vI b, vI a], S) = if a = b then rn xL_refused (249, [l0, l1, l2], [], S) else rn xL_refused (387, [l0, l1, l2], [], S) := q_icmp_ne dL_refused_246 (by decide) rfl h h1
set_option maxRecDepth 100000 in
theorem eL_refused_249 {a : Option Nat} {l1 l2 : Option VV} {S : MM} : rn xL_refused (249, [some (.inr (.inl a)), l1, l2], [], S) = rn xL_refused (250, [some (.inr (.inl a)), l1, l2], [.inr (.inl a)], S) := rn_step dL_refused_249 rfl rfl
set_option maxRecDepth 100000 in
theorem eL_refused_250 {a : Int} {l0 l1 : Option VV} {v0 : VV} {S : MM} : rn xL_refused (250, [l0, l1, some (vI a)], [v0], S) = rn xL_refused (251, [l0, l1, some (vI a)], [vI a, v0], S) := rn_step dL_refused_250 rfl rfl
set_option maxRecDepth 100000 in
theorem eL_refused_251 {a0 : Int} {l0 l1 l2 : Option VV} {S : MM} : rn xL_refused (251, [l0, l1, l2], [vI a0, vR 0], S) = (fX8_walking [vR 0, vI a0] S).bind (fun q => rn xL_refused (254, [l0, l1, l2], q.1.toList ++ [], q.2)) := q_callV (n := 1) (as := [vI a0]) (rest := []) dL_refused_251 rfl rfl rfl rfl kd0
set_option maxRecDepth 100000 in
theorem eL_refused_254 {l0 l1 l2 : Option VV} {v0 : VV} {S : MM} : rn xL_refused (254, [l0, l1, l2], [v0], S) = rn xL_refused (256, [l0, l1, l2], [vI (-2), v0], S) := rn_step dL_refused_254 rfl rfl
set_option maxRecDepth 100000 in
theorem eL_refused_256 {a b : Int} {l0 l1 l2 : Option VV} (h : -2147483648 ≤ a ∧ a ≤ 2147483647) (h1 : -2147483648 ≤ b ∧ b ≤ 2147483647) {S : MM} : rn xL_refused (256, [l0, l1, l2], [vI b, vI a], S) = if a = b then rn xL_refused (259, [l0, l1, l2], [], S) else rn xL_refused (387, [l0, l1, l2], [], S) := q_icmp_ne dL_refused_256 (by decide) rfl h h1
set_option maxRecDepth 100000 in
theorem eL_refused_259 {a : Option Nat} {l1 l2 : Option VV} {S : MM} : rn xL_refused (259, [some (.inr (.inl a)), l1, l2], [], S) = rn xL_refused (260, [some (.inr (.inl a)), l1, l2], [.inr (.inl a)], S) := rn_step dL_refused_259 rfl rfl
set_option maxRecDepth 100000 in
theorem eL_refused_260 {a : Int} {l0 l1 : Option VV} {v0 : VV} {S : MM} : rn xL_refused (260, [l0, l1, some (vI a)], [v0], S) = rn xL_refused (261, [l0, l1, some (vI a)], [vI a, v0], S) := rn_step dL_refused_260 rfl rfl
set_option maxRecDepth 100000 in
theorem eL_refused_261 {l0 l1 l2 : Option VV} {v0 v1 : VV} {S : MM} : rn xL_refused (261, [l0, l1, l2], [v0, v1], S) = rn xL_refused (262, [l0, l1, l2], [vI 0, v0, v1], S) := rn_step dL_refused_261 rfl rfl
set_option maxRecDepth 100000 in
theorem eL_refused_262 {l0 l1 l2 : Option VV} {v0 v1 v2 : VV} {S : MM} : rn xL_refused (262, [l0, l1, l2], [v0, v1, v2], S) = rn xL_refused (263, [l0, l1, l2], [vI 0, v0, v1, v2], S) := rn_step dL_refused_262 rfl rfl
set_option maxRecDepth 100000 in
theorem eL_refused_263 {a0 : Int} {a1 : Int} {a2 : Int} {l0 l1 l2 : Option VV} {S : MM} : rn xL_refused (263, [l0, l1, l2], [vI a2, vI a1, vI a0, vR 0], S) = (fX8_runWith [vR 0, vI a0, vI a1, vI a2] S).bind (fun q => rn xL_refused (266, [l0, l1, l2], q.1.toList ++ [], q.2)) := q_callV (n := 3) (as := [vI a0, vI a1, vI a2]) (rest := []) dL_refused_263 rfl rfl rfl rfl kd0
set_option maxRecDepth 100000 in
theorem eL_refused_266 {l0 l1 l2 : Option VV} {v0 : VV} {S : MM} : rn xL_refused (266, [l0, l1, l2], [v0], S) = rn xL_refused (268, [l0, l1, l2], [vI (-2), v0], S) := rn_step dL_refused_266 rfl rfl
set_option maxRecDepth 100000 in
theorem eL_refused_268 {a b : Int} {l0 l1 l2 : Option VV} (h : -2147483648 ≤ a ∧ a ≤ 2147483647) (h1 : -2147483648 ≤ b ∧ b ≤ 2147483647) {S : MM} : rn xL_refused (268, [l0, l1, l2], [vI b, vI a], S) = if a = b then rn xL_refused (271, [l0, l1, l2], [], S) else rn xL_refused (387, [l0, l1, l2], [], S) := q_icmp_ne dL_refused_268 (by decide) rfl h h1
set_option maxRecDepth 100000 in
theorem eL_refused_271 {a : Option Nat} {l1 l2 : Option VV} {S : MM} : rn xL_refused (271, [some (.inr (.inl a)), l1, l2], [], S) = rn xL_refused (272, [some (.inr (.inl a)), l1, l2], [.inr (.inl a)], S) := rn_step dL_refused_271 rfl rfl
set_option maxRecDepth 100000 in
theorem eL_refused_272 {l0 l1 l2 : Option VV} {v0 : VV} {S : MM} : rn xL_refused (272, [l0, l1, l2], [v0], S) = rn xL_refused (273, [l0, l1, l2], [vI 0, v0], S) := rn_step dL_refused_272 rfl rfl
set_option maxRecDepth 100000 in
theorem eL_refused_273 {a : Int} {l0 l1 : Option VV} {v0 v1 : VV} {S : MM} : rn xL_refused (273, [l0, l1, some (vI a)], [v0, v1], S) = rn xL_refused (274, [l0, l1, some (vI a)], [vI a, v0, v1], S) := rn_step dL_refused_273 rfl rfl
set_option maxRecDepth 100000 in
theorem eL_refused_274 {l0 l1 l2 : Option VV} {v0 v1 v2 : VV} {S : MM} : rn xL_refused (274, [l0, l1, l2], [v0, v1, v2], S) = rn xL_refused (275, [l0, l1, l2], [vI 0, v0, v1, v2], S) := rn_step dL_refused_274 rfl rfl
set_option maxRecDepth 100000 in
theorem eL_refused_275 {a0 : Int} {a1 : Int} {a2 : Int} {l0 l1 l2 : Option VV} {S : MM} : rn xL_refused (275, [l0, l1, l2], [vI a2, vI a1, vI a0, vR 0], S) = (fX8_runWith [vR 0, vI a0, vI a1, vI a2] S).bind (fun q => rn xL_refused (278, [l0, l1, l2], q.1.toList ++ [], q.2)) := q_callV (n := 3) (as := [vI a0, vI a1, vI a2]) (rest := []) dL_refused_275 rfl rfl rfl rfl kd0
set_option maxRecDepth 100000 in
theorem eL_refused_278 {l0 l1 l2 : Option VV} {v0 : VV} {S : MM} : rn xL_refused (278, [l0, l1, l2], [v0], S) = rn xL_refused (280, [l0, l1, l2], [vI (-2), v0], S) := rn_step dL_refused_278 rfl rfl
set_option maxRecDepth 100000 in
theorem eL_refused_280 {a b : Int} {l0 l1 l2 : Option VV} (h : -2147483648 ≤ a ∧ a ≤ 2147483647) (h1 : -2147483648 ≤ b ∧ b ≤ 2147483647) {S : MM} : rn xL_refused (280, [l0, l1, l2], [vI b, vI a], S) = if a = b then rn xL_refused (283, [l0, l1, l2], [], S) else rn xL_refused (387, [l0, l1, l2], [], S) := q_icmp_ne dL_refused_280 (by decide) rfl h h1
set_option maxRecDepth 100000 in
theorem eL_refused_283 {a : Option Nat} {l1 l2 : Option VV} {S : MM} : rn xL_refused (283, [some (.inr (.inl a)), l1, l2], [], S) = rn xL_refused (284, [some (.inr (.inl a)), l1, l2], [.inr (.inl a)], S) := rn_step dL_refused_283 rfl rfl
set_option maxRecDepth 100000 in
theorem eL_refused_284 {l0 l1 l2 : Option VV} {v0 : VV} {S : MM} : rn xL_refused (284, [l0, l1, l2], [v0], S) = rn xL_refused (285, [l0, l1, l2], [vI 0, v0], S) := rn_step dL_refused_284 rfl rfl
set_option maxRecDepth 100000 in
theorem eL_refused_285 {l0 l1 l2 : Option VV} {v0 v1 : VV} {S : MM} : rn xL_refused (285, [l0, l1, l2], [v0, v1], S) = rn xL_refused (286, [l0, l1, l2], [vI 0, v0, v1], S) := rn_step dL_refused_285 rfl rfl
set_option maxRecDepth 100000 in
theorem eL_refused_286 {a : Int} {l0 l1 : Option VV} {v0 v1 v2 : VV} {S : MM} : rn xL_refused (286, [l0, l1, some (vI a)], [v0, v1, v2], S) = rn xL_refused (287, [l0, l1, some (vI a)], [vI a, v0, v1, v2], S) := rn_step dL_refused_286 rfl rfl
set_option maxRecDepth 100000 in
theorem eL_refused_287 {a0 : Int} {a1 : Int} {a2 : Int} {l0 l1 l2 : Option VV} {S : MM} : rn xL_refused (287, [l0, l1, l2], [vI a2, vI a1, vI a0, vR 0], S) = (fX8_runWith [vR 0, vI a0, vI a1, vI a2] S).bind (fun q => rn xL_refused (290, [l0, l1, l2], q.1.toList ++ [], q.2)) := q_callV (n := 3) (as := [vI a0, vI a1, vI a2]) (rest := []) dL_refused_287 rfl rfl rfl rfl kd0
set_option maxRecDepth 100000 in
theorem eL_refused_290 {l0 l1 l2 : Option VV} {v0 : VV} {S : MM} : rn xL_refused (290, [l0, l1, l2], [v0], S) = rn xL_refused (292, [l0, l1, l2], [vI (-2), v0], S) := rn_step dL_refused_290 rfl rfl
set_option maxRecDepth 100000 in
theorem eL_refused_292 {a b : Int} {l0 l1 l2 : Option VV} (h : -2147483648 ≤ a ∧ a ≤ 2147483647) (h1 : -2147483648 ≤ b ∧ b ≤ 2147483647) {S : MM} : rn xL_refused (292, [l0, l1, l2], [vI b, vI a], S) = if a = b then rn xL_refused (295, [l0, l1, l2], [], S) else rn xL_refused (387, [l0, l1, l2], [], S) := q_icmp_ne dL_refused_292 (by decide) rfl h h1
set_option maxRecDepth 100000 in
theorem eL_refused_295 {a : Option Nat} {l1 l2 : Option VV} {S : MM} : rn xL_refused (295, [some (.inr (.inl a)), l1, l2], [], S) = rn xL_refused (296, [some (.inr (.inl a)), l1, l2], [.inr (.inl a)], S) := rn_step dL_refused_295 rfl rfl
set_option maxRecDepth 100000 in
theorem eL_refused_296 {a : Int} {l0 l1 : Option VV} {v0 : VV} {S : MM} : rn xL_refused (296, [l0, l1, some (vI a)], [v0], S) = rn xL_refused (297, [l0, l1, some (vI a)], [vI a, v0], S) := rn_step dL_refused_296 rfl rfl
set_option maxRecDepth 100000 in
theorem eL_refused_297 {a0 : Int} {l0 l1 l2 : Option VV} {S : MM} : rn xL_refused (297, [l0, l1, l2], [vI a0, vR 0], S) = (fX8_cheapest [vR 0, vI a0] S).bind (fun q => rn xL_refused (300, [l0, l1, l2], q.1.toList ++ [], q.2)) := q_callV (n := 1) (as := [vI a0]) (rest := []) dL_refused_297 rfl rfl rfl rfl kd0
set_option maxRecDepth 100000 in
theorem eL_refused_300 {l0 l1 l2 : Option VV} {v0 : VV} {S : MM} : rn xL_refused (300, [l0, l1, l2], [v0], S) = rn xL_refused (302, [l0, l1, l2], [vI (-2), v0], S) := rn_step dL_refused_300 rfl rfl
set_option maxRecDepth 100000 in
theorem eL_refused_302 {a b : Int} {l0 l1 l2 : Option VV} (h : -2147483648 ≤ a ∧ a ≤ 2147483647) (h1 : -2147483648 ≤ b ∧ b ≤ 2147483647) {S : MM} : rn xL_refused (302, [l0, l1, l2], [vI b, vI a], S) = if a = b then rn xL_refused (305, [l0, l1, l2], [], S) else rn xL_refused (387, [l0, l1, l2], [], S) := q_icmp_ne dL_refused_302 (by decide) rfl h h1
set_option maxRecDepth 100000 in
theorem eL_refused_305 {a : Option Nat} {l1 l2 : Option VV} {S : MM} : rn xL_refused (305, [some (.inr (.inl a)), l1, l2], [], S) = rn xL_refused (306, [some (.inr (.inl a)), l1, l2], [.inr (.inl a)], S) := rn_step dL_refused_305 rfl rfl
set_option maxRecDepth 100000 in
theorem eL_refused_306 {a : Int} {l0 l1 : Option VV} {v0 : VV} {S : MM} : rn xL_refused (306, [l0, l1, some (vI a)], [v0], S) = rn xL_refused (307, [l0, l1, some (vI a)], [vI a, v0], S) := rn_step dL_refused_306 rfl rfl
set_option maxRecDepth 100000 in
theorem eL_refused_307 {a : Int} {l0 l1 : Option VV} {v0 v1 : VV} {S : MM} : rn xL_refused (307, [l0, l1, some (vI a)], [v0, v1], S) = rn xL_refused (308, [l0, l1, some (vI a)], [vI a, v0, v1], S) := rn_step dL_refused_307 rfl rfl
set_option maxRecDepth 100000 in
theorem eL_refused_308 {a0 : Int} {a1 : Int} {l0 l1 l2 : Option VV} {S : MM} : rn xL_refused (308, [l0, l1, l2], [vI a1, vI a0, vR 0], S) = (fX8_lostBy [vR 0, vI a0, vI a1] S).bind (fun q => rn xL_refused (311, [l0, l1, l2], q.1.toList ++ [], q.2)) := q_callV (n := 2) (as := [vI a0, vI a1]) (rest := []) dL_refused_308 rfl rfl rfl rfl kd0
set_option maxRecDepth 100000 in
theorem eL_refused_311 {l0 l1 l2 : Option VV} {v0 : VV} {S : MM} : rn xL_refused (311, [l0, l1, l2], [v0], S) = rn xL_refused (313, [l0, l1, l2], [vI (-2), v0], S) := rn_step dL_refused_311 rfl rfl
set_option maxRecDepth 100000 in
theorem eL_refused_313 {a b : Int} {l0 l1 l2 : Option VV} (h : -2147483648 ≤ a ∧ a ≤ 2147483647) (h1 : -2147483648 ≤ b ∧ b ≤ 2147483647) {S : MM} : rn xL_refused (313, [l0, l1, l2], [vI b, vI a], S) = if a = b then rn xL_refused (316, [l0, l1, l2], [], S) else rn xL_refused (387, [l0, l1, l2], [], S) := q_icmp_ne dL_refused_313 (by decide) rfl h h1
set_option maxRecDepth 100000 in
theorem eL_refused_316 {a : Option Nat} {l1 l2 : Option VV} {S : MM} : rn xL_refused (316, [some (.inr (.inl a)), l1, l2], [], S) = rn xL_refused (317, [some (.inr (.inl a)), l1, l2], [.inr (.inl a)], S) := rn_step dL_refused_316 rfl rfl
set_option maxRecDepth 100000 in
theorem eL_refused_317 {l0 l1 l2 : Option VV} {v0 : VV} {S : MM} : rn xL_refused (317, [l0, l1, l2], [v0], S) = rn xL_refused (318, [l0, l1, l2], [vJ 0, v0], S) := rn_step dL_refused_317 rfl rfl
set_option maxRecDepth 100000 in
theorem eL_refused_318 {a0 : Nat} {l0 l1 l2 : Option VV} {S : MM} : rn xL_refused (318, [l0, l1, l2], [vJ a0, vR 0], S) = (fX8_put [vR 0, vJ a0] S).bind (fun q => rn xL_refused (321, [l0, l1, l2], q.1.toList ++ [], q.2)) := q_callV (n := 1) (as := [vJ a0]) (rest := []) dL_refused_318 rfl rfl rfl rfl kd0
set_option maxRecDepth 100000 in
theorem eL_refused_321 {l0 l1 l2 : Option VV} {v0 : VV} {S : MM} : rn xL_refused (321, [l0, l1, l2], [v0], S) = rn xL_refused (323, [l0, l1, l2], [vI (-2), v0], S) := rn_step dL_refused_321 rfl rfl
set_option maxRecDepth 100000 in
theorem eL_refused_323 {a b : Int} {l0 l1 l2 : Option VV} (h : -2147483648 ≤ a ∧ a ≤ 2147483647) (h1 : -2147483648 ≤ b ∧ b ≤ 2147483647) {S : MM} : rn xL_refused (323, [l0, l1, l2], [vI b, vI a], S) = if a = b then rn xL_refused (326, [l0, l1, l2], [], S) else rn xL_refused (387, [l0, l1, l2], [], S) := q_icmp_ne dL_refused_323 (by decide) rfl h h1
set_option maxRecDepth 100000 in
theorem eL_refused_326 {a : Option Nat} {l1 l2 : Option VV} {S : MM} : rn xL_refused (326, [some (.inr (.inl a)), l1, l2], [], S) = rn xL_refused (327, [some (.inr (.inl a)), l1, l2], [.inr (.inl a)], S) := rn_step dL_refused_326 rfl rfl
set_option maxRecDepth 100000 in
theorem eL_refused_327 {l0 l1 l2 : Option VV} {S : MM} : rn xL_refused (327, [l0, l1, l2], [vR 0], S) = (fX8_carryOut [vR 0] S).bind (fun q => rn xL_refused (330, [l0, l1, l2], q.1.toList ++ [], q.2)) := q_callV (n := 0) (as := []) (rest := []) dL_refused_327 rfl rfl rfl rfl kd0
set_option maxRecDepth 100000 in
theorem eL_refused_330 {l0 l1 l2 : Option VV} {v0 : VV} {S : MM} : rn xL_refused (330, [l0, l1, l2], [v0], S) = rn xL_refused (332, [l0, l1, l2], [vI (-3), v0], S) := rn_step dL_refused_330 rfl rfl
set_option maxRecDepth 100000 in
theorem eL_refused_332 {a b : Int} {l0 l1 l2 : Option VV} (h : -2147483648 ≤ a ∧ a ≤ 2147483647) (h1 : -2147483648 ≤ b ∧ b ≤ 2147483647) {S : MM} : rn xL_refused (332, [l0, l1, l2], [vI b, vI a], S) = if a = b then rn xL_refused (335, [l0, l1, l2], [], S) else rn xL_refused (387, [l0, l1, l2], [], S) := q_icmp_ne dL_refused_332 (by decide) rfl h h1
set_option maxRecDepth 100000 in
theorem eL_refused_335 {a : Option Nat} {l1 l2 : Option VV} {S : MM} : rn xL_refused (335, [some (.inr (.inl a)), l1, l2], [], S) = rn xL_refused (336, [some (.inr (.inl a)), l1, l2], [.inr (.inl a)], S) := rn_step dL_refused_335 rfl rfl
set_option maxRecDepth 100000 in
theorem eL_refused_336 {a : Int} {l0 l1 : Option VV} {v0 : VV} {S : MM} : rn xL_refused (336, [l0, l1, some (vI a)], [v0], S) = rn xL_refused (337, [l0, l1, some (vI a)], [vI a, v0], S) := rn_step dL_refused_336 rfl rfl
set_option maxRecDepth 100000 in
theorem eL_refused_337 {a0 : Int} {l0 l1 l2 : Option VV} {S : MM} : rn xL_refused (337, [l0, l1, l2], [vI a0, vR 0], S) = (fX8_save [vR 0, vI a0] S).bind (fun q => rn xL_refused (340, [l0, l1, l2], q.1.toList ++ [], q.2)) := q_callV (n := 1) (as := [vI a0]) (rest := []) dL_refused_337 rfl rfl rfl rfl kd0
set_option maxRecDepth 100000 in
theorem eL_refused_340 {l0 l1 l2 : Option VV} {v0 : VV} {S : MM} : rn xL_refused (340, [l0, l1, l2], [v0], S) = rn xL_refused (342, [l0, l1, l2], [vI (-2), v0], S) := rn_step dL_refused_340 rfl rfl
set_option maxRecDepth 100000 in
theorem eL_refused_342 {a b : Int} {l0 l1 l2 : Option VV} (h : -2147483648 ≤ a ∧ a ≤ 2147483647) (h1 : -2147483648 ≤ b ∧ b ≤ 2147483647) {S : MM} : rn xL_refused (342, [l0, l1, l2], [vI b, vI a], S) = if a = b then rn xL_refused (345, [l0, l1, l2], [], S) else rn xL_refused (387, [l0, l1, l2], [], S) := q_icmp_ne dL_refused_342 (by decide) rfl h h1
set_option maxRecDepth 100000 in
theorem eL_refused_345 {a : Option Nat} {l1 l2 : Option VV} {S : MM} : rn xL_refused (345, [some (.inr (.inl a)), l1, l2], [], S) = rn xL_refused (346, [some (.inr (.inl a)), l1, l2], [.inr (.inl a)], S) := rn_step dL_refused_345 rfl rfl
set_option maxRecDepth 100000 in
theorem eL_refused_346 {a : Int} {l0 l1 : Option VV} {v0 : VV} {S : MM} : rn xL_refused (346, [l0, l1, some (vI a)], [v0], S) = rn xL_refused (347, [l0, l1, some (vI a)], [vI a, v0], S) := rn_step dL_refused_346 rfl rfl
set_option maxRecDepth 100000 in
theorem eL_refused_347 {a0 : Int} {l0 l1 l2 : Option VV} {S : MM} : rn xL_refused (347, [l0, l1, l2], [vI a0, vR 0], S) = (fX8_restore [vR 0, vI a0] S).bind (fun q => rn xL_refused (350, [l0, l1, l2], q.1.toList ++ [], q.2)) := q_callV (n := 1) (as := [vI a0]) (rest := []) dL_refused_347 rfl rfl rfl rfl kd0
set_option maxRecDepth 100000 in
theorem eL_refused_350 {l0 l1 l2 : Option VV} {v0 : VV} {S : MM} : rn xL_refused (350, [l0, l1, l2], [v0], S) = rn xL_refused (352, [l0, l1, l2], [vI (-2), v0], S) := rn_step dL_refused_350 rfl rfl
set_option maxRecDepth 100000 in
theorem eL_refused_352 {a b : Int} {l0 l1 l2 : Option VV} (h : -2147483648 ≤ a ∧ a ≤ 2147483647) (h1 : -2147483648 ≤ b ∧ b ≤ 2147483647) {S : MM} : rn xL_refused (352, [l0, l1, l2], [vI b, vI a], S) = if a = b then rn xL_refused (355, [l0, l1, l2], [], S) else rn xL_refused (387, [l0, l1, l2], [], S) := q_icmp_ne dL_refused_352 (by decide) rfl h h1
set_option maxRecDepth 100000 in
theorem eL_refused_355 {a : Option Nat} {l1 l2 : Option VV} {S : MM} : rn xL_refused (355, [some (.inr (.inl a)), l1, l2], [], S) = rn xL_refused (356, [some (.inr (.inl a)), l1, l2], [.inr (.inl a)], S) := rn_step dL_refused_355 rfl rfl
set_option maxRecDepth 100000 in
theorem eL_refused_356 {l0 l1 l2 : Option VV} {v0 : VV} {S : MM} : rn xL_refused (356, [l0, l1, l2], [v0], S) = rn xL_refused (357, [l0, l1, l2], [vI 0, v0], S) := rn_step dL_refused_356 rfl rfl
set_option maxRecDepth 100000 in
theorem eL_refused_357 {a0 : Int} {l0 l1 l2 : Option VV} {S : MM} : rn xL_refused (357, [l0, l1, l2], [vI a0, vR 0], S) = (fX8_restore [vR 0, vI a0] S).bind (fun q => rn xL_refused (360, [l0, l1, l2], q.1.toList ++ [], q.2)) := q_callV (n := 1) (as := [vI a0]) (rest := []) dL_refused_357 rfl rfl rfl rfl kd0
set_option maxRecDepth 100000 in
theorem eL_refused_360 {l0 l1 l2 : Option VV} {v0 : VV} {S : MM} : rn xL_refused (360, [l0, l1, l2], [v0], S) = rn xL_refused (362, [l0, l1, l2], [vI (-5), v0], S) := rn_step dL_refused_360 rfl rfl
set_option maxRecDepth 100000 in
theorem eL_refused_362 {a b : Int} {l0 l1 l2 : Option VV} (h : -2147483648 ≤ a ∧ a ≤ 2147483647) (h1 : -2147483648 ≤ b ∧ b ≤ 2147483647) {S : MM} : rn xL_refused (362, [l0, l1, l2], [vI b, vI a], S) = if a = b then rn xL_refused (365, [l0, l1, l2], [], S) else rn xL_refused (387, [l0, l1, l2], [], S) := q_icmp_ne dL_refused_362 (by decide) rfl h h1
set_option maxRecDepth 100000 in
theorem eL_refused_365 {a : Option Nat} {l1 l2 : Option VV} {S : MM} : rn xL_refused (365, [some (.inr (.inl a)), l1, l2], [], S) = rn xL_refused (366, [some (.inr (.inl a)), l1, l2], [.inr (.inl a)], S) := rn_step dL_refused_365 rfl rfl
set_option maxRecDepth 100000 in
theorem eL_refused_366 {l0 l1 l2 : Option VV} {S : MM} : rn xL_refused (366, [l0, l1, l2], [vR 0], S) = (fX8_undo [vR 0] S).bind (fun q => rn xL_refused (369, [l0, l1, l2], q.1.toList ++ [], q.2)) := q_callV (n := 0) (as := []) (rest := []) dL_refused_366 rfl rfl rfl rfl kd0
set_option maxRecDepth 100000 in
theorem eL_refused_369 {l0 l1 l2 : Option VV} {v0 : VV} {S : MM} : rn xL_refused (369, [l0, l1, l2], [v0], S) = rn xL_refused (371, [l0, l1, l2], [vI (-5), v0], S) := rn_step dL_refused_369 rfl rfl
set_option maxRecDepth 100000 in
theorem eL_refused_371 {a b : Int} {l0 l1 l2 : Option VV} (h : -2147483648 ≤ a ∧ a ≤ 2147483647) (h1 : -2147483648 ≤ b ∧ b ≤ 2147483647) {S : MM} : rn xL_refused (371, [l0, l1, l2], [vI b, vI a], S) = if a = b then rn xL_refused (374, [l0, l1, l2], [], S) else rn xL_refused (387, [l0, l1, l2], [], S) := q_icmp_ne dL_refused_371 (by decide) rfl h h1
set_option maxRecDepth 100000 in
theorem eL_refused_374 {a : Option Nat} {l1 l2 : Option VV} {S : MM} : rn xL_refused (374, [some (.inr (.inl a)), l1, l2], [], S) = rn xL_refused (375, [some (.inr (.inl a)), l1, l2], [.inr (.inl a)], S) := rn_step dL_refused_374 rfl rfl
set_option maxRecDepth 100000 in
theorem eL_refused_375 {l0 l1 l2 : Option VV} {v0 : VV} {S : MM} : rn xL_refused (375, [l0, l1, l2], [v0], S) = rn xL_refused (377, [l0, l1, l2], [vI 7, v0], S) := rn_step dL_refused_375 rfl rfl
set_option maxRecDepth 100000 in
theorem eL_refused_377 {a0 : Int} {l0 l1 l2 : Option VV} {S : MM} : rn xL_refused (377, [l0, l1, l2], [vI a0, vR 0], S) = (fX8_count [vR 0, vI a0] S).bind (fun q => rn xL_refused (380, [l0, l1, l2], q.1.toList ++ [], q.2)) := q_callV (n := 1) (as := [vI a0]) (rest := []) dL_refused_377 rfl rfl rfl rfl kd0
set_option maxRecDepth 100000 in
theorem eL_refused_380 {a : Int} {l0 l1 l2 : Option VV} (h : -2147483648 ≤ a ∧ a ≤ 2147483647) {S : MM} : rn xL_refused (380, [l0, l1, l2], [vI a], S) = if a = 0 then rn xL_refused (383, [l0, l1, l2], [], S) else rn xL_refused (387, [l0, l1, l2], [], S) := q_if_ne dL_refused_380 (by decide) rfl h
set_option maxRecDepth 100000 in
theorem eL_refused_383 {l0 l1 l2 : Option VV} {S : MM} : rn xL_refused (383, [l0, l1, l2], [], S) = rn xL_refused (384, [l0, l1, l2], [vI 1], S) := rn_step dL_refused_383 rfl rfl
set_option maxRecDepth 100000 in
theorem eL_refused_384 {l0 l1 l2 : Option VV} {v0 : VV} {S : MM} : rn xL_refused (384, [l0, l1, l2], [v0], S) = rn xL_refused (388, [l0, l1, l2], [v0], S) := rn_step dL_refused_384 rfl rfl
set_option maxRecDepth 100000 in
theorem eL_refused_387 {l0 l1 l2 : Option VV} {S : MM} : rn xL_refused (387, [l0, l1, l2], [], S) = rn xL_refused (388, [l0, l1, l2], [vI 0], S) := rn_step dL_refused_387 rfl rfl
set_option maxRecDepth 100000 in
theorem eL_refused_388 {z : Int} {l0 l1 l2 : Option VV} (hz : z = 0 ∨ z = 1) {S : MM} : rn xL_refused (388, [l0, l1, l2], [vI z], S) = some (some (vI z), S) := q_retZ dL_refused_388 rfl hz

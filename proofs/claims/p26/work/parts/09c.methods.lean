noncomputable def qlX2_readStones : List CE := [(0, 69, 2, 1, fX2_readKey), (0, 45, 2, 2, fX2_pass), (0, 73, 2, 1, fX2_readRepeats)]
noncomputable def xX2_readStones : XX := (cX2_readStones, fcF fcl2, mcF qlX2_readStones, 2)
noncomputable def fX2_readStones : FN := fnX xX2_readStones 1
set_option maxRecDepth 100000 in
theorem cwX2_readStones : Cond.code yX2_readStones cX2_readStones 1 (some .boolean) ∈ lw_g := lw_gm 739 (by decide +kernel) (by decide +kernel)
set_option maxRecDepth 100000 in
theorem conX2_readStones : Con yX2_readStones cX2_readStones 1 (some .boolean) { frames := 2, cells := 0, slots := 0, locals := 46 } fX2_readStones := con_of (X := xX2_readStones) (own := "LeapStones$Pad") (ql := qlX2_readStones) (by decide) rfl FOK2 rfl (List.forall_mem_cons.mpr ⟨call_V conX2_readKey cwX2_readKey (lw_gl _ [732, 734, 13, 29] (by decide +kernel) (by decide +kernel)) (by decide) rfl ⟨by decide, by decide, by decide +kernel⟩ ⟨rfl, rfl⟩ ⟨by decide, by decide⟩ ⟨Nat.le_refl _, Nat.le_refl _⟩, List.forall_mem_cons.mpr ⟨call_V conX2_pass cwX2_pass (lw_gl _ [723, 724, 725, 29] (by decide +kernel) (by decide +kernel)) (by decide) rfl ⟨by decide, by decide, by decide +kernel⟩ ⟨rfl, rfl⟩ ⟨by decide, by decide⟩ ⟨Nat.le_refl _, Nat.le_refl _⟩, List.forall_mem_cons.mpr ⟨call_V conX2_readRepeats cwX2_readRepeats (lw_gl _ [740, 742, 14, 29] (by decide +kernel) (by decide +kernel)) (by decide) rfl ⟨by decide, by decide, by decide +kernel⟩ ⟨rfl, rfl⟩ ⟨by decide, by decide⟩ ⟨Nat.le_refl _, Nat.le_refl _⟩, fun _ h => absurd h List.not_mem_nil⟩⟩⟩) (Or.inr (Or.inr (Or.inl ⟨rfl, rfl⟩)))
theorem uX2_readStones {i : Nat} {S : MM} : fX2_readStones [vR i] S = rn xX2_readStones (0, [some (vR i)], [], S) := rfl
theorem dX2_readStones_0 : decode cX2_readStones 0 = .ok (.aload_n 0, 1) := by decide +kernel
theorem dX2_readStones_1 : decode cX2_readStones 1 = .ok (.aload_n 0, 1) := by decide +kernel
theorem dX2_readStones_2 : decode cX2_readStones 2 = .ok (.invokevirtual 69, 3) := by decide +kernel
theorem dX2_readStones_5 : decode cX2_readStones 5 = .ok (.putfield 26, 3) := by decide +kernel
theorem dX2_readStones_8 : decode cX2_readStones 8 = .ok (.aload_n 0, 1) := by decide +kernel
theorem dX2_readStones_9 : decode cX2_readStones 9 = .ok (.getfield 26, 3) := by decide +kernel
theorem dX2_readStones_12 : decode cX2_readStones 12 = .ok (.bipush (-6), 2) := by decide +kernel
theorem dX2_readStones_14 : decode cX2_readStones 14 = .ok (.if_icmp .ne 5, 3) := by decide +kernel
theorem dX2_readStones_17 : decode cX2_readStones 17 = .ok (.iconst 0, 1) := by decide +kernel
theorem dX2_readStones_18 : decode cX2_readStones 18 = .ok (.ireturn, 1) := by decide +kernel
theorem dX2_readStones_19 : decode cX2_readStones 19 = .ok (.aload_n 0, 1) := by decide +kernel
theorem dX2_readStones_20 : decode cX2_readStones 20 = .ok (.aload_n 0, 1) := by decide +kernel
theorem dX2_readStones_21 : decode cX2_readStones 21 = .ok (.bipush 45, 2) := by decide +kernel
theorem dX2_readStones_23 : decode cX2_readStones 23 = .ok (.invokevirtual 45, 3) := by decide +kernel
theorem dX2_readStones_26 : decode cX2_readStones 26 = .ok (.ifCond .eq 10, 3) := by decide +kernel
theorem dX2_readStones_29 : decode cX2_readStones 29 = .ok (.aload_n 0, 1) := by decide +kernel
theorem dX2_readStones_30 : decode cX2_readStones 30 = .ok (.invokevirtual 69, 3) := by decide +kernel
theorem dX2_readStones_33 : decode cX2_readStones 33 = .ok (.goto 7, 3) := by decide +kernel
theorem dX2_readStones_36 : decode cX2_readStones 36 = .ok (.aload_n 0, 1) := by decide +kernel
theorem dX2_readStones_37 : decode cX2_readStones 37 = .ok (.getfield 26, 3) := by decide +kernel
theorem dX2_readStones_40 : decode cX2_readStones 40 = .ok (.putfield 29, 3) := by decide +kernel
theorem dX2_readStones_43 : decode cX2_readStones 43 = .ok (.aload_n 0, 1) := by decide +kernel
theorem dX2_readStones_44 : decode cX2_readStones 44 = .ok (.getfield 29, 3) := by decide +kernel
theorem dX2_readStones_47 : decode cX2_readStones 47 = .ok (.bipush (-6), 2) := by decide +kernel
theorem dX2_readStones_49 : decode cX2_readStones 49 = .ok (.if_icmp .ne 5, 3) := by decide +kernel
theorem dX2_readStones_52 : decode cX2_readStones 52 = .ok (.iconst 0, 1) := by decide +kernel
theorem dX2_readStones_53 : decode cX2_readStones 53 = .ok (.ireturn, 1) := by decide +kernel
theorem dX2_readStones_54 : decode cX2_readStones 54 = .ok (.aload_n 0, 1) := by decide +kernel
theorem dX2_readStones_55 : decode cX2_readStones 55 = .ok (.iconst 1, 1) := by decide +kernel
theorem dX2_readStones_56 : decode cX2_readStones 56 = .ok (.putfield 32, 3) := by decide +kernel
theorem dX2_readStones_59 : decode cX2_readStones 59 = .ok (.aload_n 0, 1) := by decide +kernel
theorem dX2_readStones_60 : decode cX2_readStones 60 = .ok (.bipush 42, 2) := by decide +kernel
theorem dX2_readStones_62 : decode cX2_readStones 62 = .ok (.invokevirtual 45, 3) := by decide +kernel
theorem dX2_readStones_65 : decode cX2_readStones 65 = .ok (.ifCond .eq 10, 3) := by decide +kernel
theorem dX2_readStones_68 : decode cX2_readStones 68 = .ok (.aload_n 0, 1) := by decide +kernel
theorem dX2_readStones_69 : decode cX2_readStones 69 = .ok (.invokevirtual 73, 3) := by decide +kernel
theorem dX2_readStones_72 : decode cX2_readStones 72 = .ok (.ifCond .eq 7, 3) := by decide +kernel
theorem dX2_readStones_75 : decode cX2_readStones 75 = .ok (.iconst 1, 1) := by decide +kernel
theorem dX2_readStones_76 : decode cX2_readStones 76 = .ok (.goto 4, 3) := by decide +kernel
theorem dX2_readStones_79 : decode cX2_readStones 79 = .ok (.iconst 0, 1) := by decide +kernel
theorem dX2_readStones_80 : decode cX2_readStones 80 = .ok (.ireturn, 1) := by decide +kernel
theorem eX2_readStones_0 {a : Option Nat} {S : MM} : rn xX2_readStones (0, [some (.inr (.inl a))], [], S) = rn xX2_readStones (1, [some (.inr (.inl a))], [.inr (.inl a)], S) := rn_step dX2_readStones_0 rfl rfl
theorem eX2_readStones_1 {a : Option Nat} {v0 : VV} {S : MM} : rn xX2_readStones (1, [some (.inr (.inl a))], [v0], S) = rn xX2_readStones (2, [some (.inr (.inl a))], [.inr (.inl a), v0], S) := rn_step dX2_readStones_1 rfl rfl
theorem eX2_readStones_2 {i : Nat} {l0 : Option VV} {v1 : VV} (h : kd i = 2) {S : MM} : rn xX2_readStones (2, [l0], [vR i, v1], S) = (fX2_readKey [vR i] S).bind (fun q => rn xX2_readStones (5, [l0], q.1.toList ++ [v1], q.2)) := q_callV (n := 0) (as := []) (rest := [v1]) dX2_readStones_2 rfl rfl rfl rfl h
theorem eX2_readStones_5 {z : Int} {i : Nat} {l0 : Option VV} (h : kd i = 2) {S : MM} : rn xX2_readStones (5, [l0], [vI z, vR i], S) = rn xX2_readStones (8, [l0], [], updM S i 5 z) := q_put dX2_readStones_5 rfl ⟨by decide, by decide⟩ rfl h
theorem eX2_readStones_8 {a : Option Nat} {S : MM} : rn xX2_readStones (8, [some (.inr (.inl a))], [], S) = rn xX2_readStones (9, [some (.inr (.inl a))], [.inr (.inl a)], S) := rn_step dX2_readStones_8 rfl rfl
theorem eX2_readStones_9 {i : Nat} {l0 : Option VV} (h : kd i = 2) {S : MM} : rn xX2_readStones (9, [l0], [vR i], S) = rn xX2_readStones (12, [l0], [vI (S i 5)], S) := q_getI dX2_readStones_9 rfl ⟨⟨by decide, by decide⟩, by decide⟩ h
theorem eX2_readStones_12 {l0 : Option VV} {v0 : VV} {S : MM} : rn xX2_readStones (12, [l0], [v0], S) = rn xX2_readStones (14, [l0], [vI (-6), v0], S) := rn_step dX2_readStones_12 rfl rfl
theorem eX2_readStones_14 {a b : Int} {l0 : Option VV} (h : -2147483648 ≤ a ∧ a ≤ 2147483647) (h1 : -2147483648 ≤ b ∧ b ≤ 2147483647) {S : MM} : rn xX2_readStones (14, [l0], [vI b, vI a], S) = if a = b then rn xX2_readStones (17, [l0], [], S) else rn xX2_readStones (19, [l0], [], S) := q_icmp_ne dX2_readStones_14 (by decide) rfl h h1
theorem eX2_readStones_17 {l0 : Option VV} {S : MM} : rn xX2_readStones (17, [l0], [], S) = rn xX2_readStones (18, [l0], [vI 0], S) := rn_step dX2_readStones_17 rfl rfl
theorem eX2_readStones_18 {z : Int} {l0 : Option VV} (hz : z = 0 ∨ z = 1) {S : MM} : rn xX2_readStones (18, [l0], [vI z], S) = some (some (vI z), S) := q_retZ dX2_readStones_18 rfl hz
theorem eX2_readStones_19 {a : Option Nat} {S : MM} : rn xX2_readStones (19, [some (.inr (.inl a))], [], S) = rn xX2_readStones (20, [some (.inr (.inl a))], [.inr (.inl a)], S) := rn_step dX2_readStones_19 rfl rfl
theorem eX2_readStones_20 {a : Option Nat} {v0 : VV} {S : MM} : rn xX2_readStones (20, [some (.inr (.inl a))], [v0], S) = rn xX2_readStones (21, [some (.inr (.inl a))], [.inr (.inl a), v0], S) := rn_step dX2_readStones_20 rfl rfl
theorem eX2_readStones_21 {l0 : Option VV} {v0 v1 : VV} {S : MM} : rn xX2_readStones (21, [l0], [v0, v1], S) = rn xX2_readStones (23, [l0], [vI 45, v0, v1], S) := rn_step dX2_readStones_21 rfl rfl
theorem eX2_readStones_23 {a0 : Int} {i : Nat} {l0 : Option VV} {v2 : VV} (h : kd i = 2) {S : MM} : rn xX2_readStones (23, [l0], [vI a0, vR i, v2], S) = (fX2_pass [vR i, vI a0] S).bind (fun q => rn xX2_readStones (26, [l0], q.1.toList ++ [v2], q.2)) := q_callV (n := 1) (as := [vI a0]) (rest := [v2]) dX2_readStones_23 rfl rfl rfl rfl h
theorem eX2_readStones_26 {a : Int} {l0 : Option VV} {v1 : VV} (h : -2147483648 ≤ a ∧ a ≤ 2147483647) {S : MM} : rn xX2_readStones (26, [l0], [vI a, v1], S) = if a = 0 then rn xX2_readStones (36, [l0], [v1], S) else rn xX2_readStones (29, [l0], [v1], S) := q_if_eq dX2_readStones_26 (by decide) rfl h
theorem eX2_readStones_29 {a : Option Nat} {v0 : VV} {S : MM} : rn xX2_readStones (29, [some (.inr (.inl a))], [v0], S) = rn xX2_readStones (30, [some (.inr (.inl a))], [.inr (.inl a), v0], S) := rn_step dX2_readStones_29 rfl rfl
theorem eX2_readStones_30 {i : Nat} {l0 : Option VV} {v1 : VV} (h : kd i = 2) {S : MM} : rn xX2_readStones (30, [l0], [vR i, v1], S) = (fX2_readKey [vR i] S).bind (fun q => rn xX2_readStones (33, [l0], q.1.toList ++ [v1], q.2)) := q_callV (n := 0) (as := []) (rest := [v1]) dX2_readStones_30 rfl rfl rfl rfl h
theorem eX2_readStones_33 {l0 : Option VV} {v0 v1 : VV} {S : MM} : rn xX2_readStones (33, [l0], [v0, v1], S) = rn xX2_readStones (40, [l0], [v0, v1], S) := rn_step dX2_readStones_33 rfl rfl
theorem eX2_readStones_36 {a : Option Nat} {v0 : VV} {S : MM} : rn xX2_readStones (36, [some (.inr (.inl a))], [v0], S) = rn xX2_readStones (37, [some (.inr (.inl a))], [.inr (.inl a), v0], S) := rn_step dX2_readStones_36 rfl rfl
theorem eX2_readStones_37 {i : Nat} {l0 : Option VV} {v1 : VV} (h : kd i = 2) {S : MM} : rn xX2_readStones (37, [l0], [vR i, v1], S) = rn xX2_readStones (40, [l0], [vI (S i 5), v1], S) := q_getI dX2_readStones_37 rfl ⟨⟨by decide, by decide⟩, by decide⟩ h
theorem eX2_readStones_40 {z : Int} {i : Nat} {l0 : Option VV} (h : kd i = 2) {S : MM} : rn xX2_readStones (40, [l0], [vI z, vR i], S) = rn xX2_readStones (43, [l0], [], updM S i 6 z) := q_put dX2_readStones_40 rfl ⟨by decide, by decide⟩ rfl h
theorem eX2_readStones_43 {a : Option Nat} {S : MM} : rn xX2_readStones (43, [some (.inr (.inl a))], [], S) = rn xX2_readStones (44, [some (.inr (.inl a))], [.inr (.inl a)], S) := rn_step dX2_readStones_43 rfl rfl
theorem eX2_readStones_44 {i : Nat} {l0 : Option VV} (h : kd i = 2) {S : MM} : rn xX2_readStones (44, [l0], [vR i], S) = rn xX2_readStones (47, [l0], [vI (S i 6)], S) := q_getI dX2_readStones_44 rfl ⟨⟨by decide, by decide⟩, by decide⟩ h
theorem eX2_readStones_47 {l0 : Option VV} {v0 : VV} {S : MM} : rn xX2_readStones (47, [l0], [v0], S) = rn xX2_readStones (49, [l0], [vI (-6), v0], S) := rn_step dX2_readStones_47 rfl rfl
theorem eX2_readStones_49 {a b : Int} {l0 : Option VV} (h : -2147483648 ≤ a ∧ a ≤ 2147483647) (h1 : -2147483648 ≤ b ∧ b ≤ 2147483647) {S : MM} : rn xX2_readStones (49, [l0], [vI b, vI a], S) = if a = b then rn xX2_readStones (52, [l0], [], S) else rn xX2_readStones (54, [l0], [], S) := q_icmp_ne dX2_readStones_49 (by decide) rfl h h1
theorem eX2_readStones_52 {l0 : Option VV} {S : MM} : rn xX2_readStones (52, [l0], [], S) = rn xX2_readStones (53, [l0], [vI 0], S) := rn_step dX2_readStones_52 rfl rfl
theorem eX2_readStones_53 {z : Int} {l0 : Option VV} (hz : z = 0 ∨ z = 1) {S : MM} : rn xX2_readStones (53, [l0], [vI z], S) = some (some (vI z), S) := q_retZ dX2_readStones_53 rfl hz
theorem eX2_readStones_54 {a : Option Nat} {S : MM} : rn xX2_readStones (54, [some (.inr (.inl a))], [], S) = rn xX2_readStones (55, [some (.inr (.inl a))], [.inr (.inl a)], S) := rn_step dX2_readStones_54 rfl rfl
theorem eX2_readStones_55 {l0 : Option VV} {v0 : VV} {S : MM} : rn xX2_readStones (55, [l0], [v0], S) = rn xX2_readStones (56, [l0], [vI 1, v0], S) := rn_step dX2_readStones_55 rfl rfl
theorem eX2_readStones_56 {z : Int} {i : Nat} {l0 : Option VV} (h : kd i = 2) {S : MM} : rn xX2_readStones (56, [l0], [vI z, vR i], S) = rn xX2_readStones (59, [l0], [], updM S i 7 z) := q_put dX2_readStones_56 rfl ⟨by decide, by decide⟩ rfl h
theorem eX2_readStones_59 {a : Option Nat} {S : MM} : rn xX2_readStones (59, [some (.inr (.inl a))], [], S) = rn xX2_readStones (60, [some (.inr (.inl a))], [.inr (.inl a)], S) := rn_step dX2_readStones_59 rfl rfl
theorem eX2_readStones_60 {l0 : Option VV} {v0 : VV} {S : MM} : rn xX2_readStones (60, [l0], [v0], S) = rn xX2_readStones (62, [l0], [vI 42, v0], S) := rn_step dX2_readStones_60 rfl rfl
theorem eX2_readStones_62 {a0 : Int} {i : Nat} {l0 : Option VV} (h : kd i = 2) {S : MM} : rn xX2_readStones (62, [l0], [vI a0, vR i], S) = (fX2_pass [vR i, vI a0] S).bind (fun q => rn xX2_readStones (65, [l0], q.1.toList ++ [], q.2)) := q_callV (n := 1) (as := [vI a0]) (rest := []) dX2_readStones_62 rfl rfl rfl rfl h
theorem eX2_readStones_65 {a : Int} {l0 : Option VV} (h : -2147483648 ≤ a ∧ a ≤ 2147483647) {S : MM} : rn xX2_readStones (65, [l0], [vI a], S) = if a = 0 then rn xX2_readStones (75, [l0], [], S) else rn xX2_readStones (68, [l0], [], S) := q_if_eq dX2_readStones_65 (by decide) rfl h
theorem eX2_readStones_68 {a : Option Nat} {S : MM} : rn xX2_readStones (68, [some (.inr (.inl a))], [], S) = rn xX2_readStones (69, [some (.inr (.inl a))], [.inr (.inl a)], S) := rn_step dX2_readStones_68 rfl rfl
theorem eX2_readStones_69 {i : Nat} {l0 : Option VV} (h : kd i = 2) {S : MM} : rn xX2_readStones (69, [l0], [vR i], S) = (fX2_readRepeats [vR i] S).bind (fun q => rn xX2_readStones (72, [l0], q.1.toList ++ [], q.2)) := q_callV (n := 0) (as := []) (rest := []) dX2_readStones_69 rfl rfl rfl rfl h
theorem eX2_readStones_72 {a : Int} {l0 : Option VV} (h : -2147483648 ≤ a ∧ a ≤ 2147483647) {S : MM} : rn xX2_readStones (72, [l0], [vI a], S) = if a = 0 then rn xX2_readStones (79, [l0], [], S) else rn xX2_readStones (75, [l0], [], S) := q_if_eq dX2_readStones_72 (by decide) rfl h
theorem eX2_readStones_75 {l0 : Option VV} {S : MM} : rn xX2_readStones (75, [l0], [], S) = rn xX2_readStones (76, [l0], [vI 1], S) := rn_step dX2_readStones_75 rfl rfl
theorem eX2_readStones_76 {l0 : Option VV} {v0 : VV} {S : MM} : rn xX2_readStones (76, [l0], [v0], S) = rn xX2_readStones (80, [l0], [v0], S) := rn_step dX2_readStones_76 rfl rfl
theorem eX2_readStones_79 {l0 : Option VV} {S : MM} : rn xX2_readStones (79, [l0], [], S) = rn xX2_readStones (80, [l0], [vI 0], S) := rn_step dX2_readStones_79 rfl rfl
theorem eX2_readStones_80 {z : Int} {l0 : Option VV} (hz : z = 0 ∨ z = 1) {S : MM} : rn xX2_readStones (80, [l0], [vI z], S) = some (some (vI z), S) := q_retZ dX2_readStones_80 rfl hz
noncomputable def qlX2_readWholeOrder : List CE := [(0, 49, 2, 1, fX2_readOrder), (1, 52, 0, 3, fX8_isBetween), (0, 56, 2, 1, fX2_readStones), (0, 45, 2, 2, fX2_pass)]
noncomputable def xX2_readWholeOrder : XX := (cX2_readWholeOrder, fcF fcl2, mcF qlX2_readWholeOrder, 2)
noncomputable def fX2_readWholeOrder : FN := fnX xX2_readWholeOrder 2
set_option maxRecDepth 100000 in
theorem cwX2_readWholeOrder : Cond.code yX2_readWholeOrder cX2_readWholeOrder 2 (some .boolean) ∈ lw_g := lw_gm 710 (by decide +kernel) (by decide +kernel)
set_option maxRecDepth 100000 in
theorem conX2_readWholeOrder : Con yX2_readWholeOrder cX2_readWholeOrder 2 (some .boolean) { frames := 4, cells := 0, slots := 0, locals := 86 } fX2_readWholeOrder := con_of (X := xX2_readWholeOrder) (own := "LeapStones$Pad") (ql := qlX2_readWholeOrder) (by decide) rfl FOK2 rfl (List.forall_mem_cons.mpr ⟨call_V conX2_readOrder cwX2_readOrder (lw_gl _ [711, 712, 713, 29] (by decide +kernel) (by decide +kernel)) (by decide) rfl ⟨by decide, by decide, by decide +kernel⟩ ⟨rfl, rfl⟩ ⟨by decide, by decide⟩ ⟨Nat.le_refl _, Nat.le_refl _⟩, List.forall_mem_cons.mpr ⟨call_N conX8_isBetween cwX8_isBetween (lw_gl _ [251, 21] (by decide +kernel) (by decide +kernel)) (List.mem_of_getElem? (i := 27) (by decide +kernel)) ⟨by decide, by decide, by decide +kernel⟩ ⟨rfl, rfl⟩ ⟨by decide, by decide⟩ ⟨Nat.le_refl _, Nat.le_refl _⟩, List.forall_mem_cons.mpr ⟨call_V conX2_readStones cwX2_readStones (lw_gl _ [736, 737, 738, 29] (by decide +kernel) (by decide +kernel)) (by decide) rfl ⟨by decide, by decide, by decide +kernel⟩ ⟨rfl, rfl⟩ ⟨by decide, by decide⟩ ⟨Nat.le_refl _, Nat.le_refl _⟩, List.forall_mem_cons.mpr ⟨call_V conX2_pass cwX2_pass (lw_gl _ [723, 724, 725, 29] (by decide +kernel) (by decide +kernel)) (by decide) rfl ⟨by decide, by decide, by decide +kernel⟩ ⟨rfl, rfl⟩ ⟨by decide, by decide⟩ ⟨Nat.le_refl _, Nat.le_refl _⟩, fun _ h => absurd h List.not_mem_nil⟩⟩⟩⟩) (Or.inr (Or.inr (Or.inl ⟨rfl, rfl⟩)))
theorem uX2_readWholeOrder {i : Nat} {S : MM} : fX2_readWholeOrder [vR i] S = rn xX2_readWholeOrder (0, [some (vR i), none], [], S) := rfl
theorem dX2_readWholeOrder_0 : decode cX2_readWholeOrder 0 = .ok (.aload_n 0, 1) := by decide +kernel
theorem dX2_readWholeOrder_1 : decode cX2_readWholeOrder 1 = .ok (.invokevirtual 49, 3) := by decide +kernel
theorem dX2_readWholeOrder_4 : decode cX2_readWholeOrder 4 = .ok (.ifCond .ne 5, 3) := by decide +kernel
theorem dX2_readWholeOrder_7 : decode cX2_readWholeOrder 7 = .ok (.iconst 0, 1) := by decide +kernel
theorem dX2_readWholeOrder_8 : decode cX2_readWholeOrder 8 = .ok (.ireturn, 1) := by decide +kernel
theorem dX2_readWholeOrder_9 : decode cX2_readWholeOrder 9 = .ok (.aload_n 0, 1) := by decide +kernel
theorem dX2_readWholeOrder_10 : decode cX2_readWholeOrder 10 = .ok (.getfield 19, 3) := by decide +kernel
theorem dX2_readWholeOrder_13 : decode cX2_readWholeOrder 13 = .ok (.bipush 48, 2) := by decide +kernel
theorem dX2_readWholeOrder_15 : decode cX2_readWholeOrder 15 = .ok (.bipush 50, 2) := by decide +kernel
theorem dX2_readWholeOrder_17 : decode cX2_readWholeOrder 17 = .ok (.invokestatic 52, 3) := by decide +kernel
theorem dX2_readWholeOrder_20 : decode cX2_readWholeOrder 20 = .ok (.ifCond .ne 5, 3) := by decide +kernel
theorem dX2_readWholeOrder_23 : decode cX2_readWholeOrder 23 = .ok (.iconst 1, 1) := by decide +kernel
theorem dX2_readWholeOrder_24 : decode cX2_readWholeOrder 24 = .ok (.ireturn, 1) := by decide +kernel
theorem dX2_readWholeOrder_25 : decode cX2_readWholeOrder 25 = .ok (.iconst 0, 1) := by decide +kernel
theorem dX2_readWholeOrder_26 : decode cX2_readWholeOrder 26 = .ok (.istore_n 1, 1) := by decide +kernel
theorem dX2_readWholeOrder_27 : decode cX2_readWholeOrder 27 = .ok (.iload_n 1, 1) := by decide +kernel
theorem dX2_readWholeOrder_28 : decode cX2_readWholeOrder 28 = .ok (.bipush 80, 2) := by decide +kernel
theorem dX2_readWholeOrder_30 : decode cX2_readWholeOrder 30 = .ok (.if_icmp .ge 29, 3) := by decide +kernel
theorem dX2_readWholeOrder_33 : decode cX2_readWholeOrder 33 = .ok (.aload_n 0, 1) := by decide +kernel
theorem dX2_readWholeOrder_34 : decode cX2_readWholeOrder 34 = .ok (.invokevirtual 56, 3) := by decide +kernel
theorem dX2_readWholeOrder_37 : decode cX2_readWholeOrder 37 = .ok (.ifCond .ne 5, 3) := by decide +kernel
theorem dX2_readWholeOrder_40 : decode cX2_readWholeOrder 40 = .ok (.iconst 0, 1) := by decide +kernel
theorem dX2_readWholeOrder_41 : decode cX2_readWholeOrder 41 = .ok (.ireturn, 1) := by decide +kernel
theorem dX2_readWholeOrder_42 : decode cX2_readWholeOrder 42 = .ok (.aload_n 0, 1) := by decide +kernel
theorem dX2_readWholeOrder_43 : decode cX2_readWholeOrder 43 = .ok (.bipush 44, 2) := by decide +kernel
theorem dX2_readWholeOrder_45 : decode cX2_readWholeOrder 45 = .ok (.invokevirtual 45, 3) := by decide +kernel
theorem dX2_readWholeOrder_48 : decode cX2_readWholeOrder 48 = .ok (.ifCond .ne 5, 3) := by decide +kernel
theorem dX2_readWholeOrder_51 : decode cX2_readWholeOrder 51 = .ok (.iconst 1, 1) := by decide +kernel
theorem dX2_readWholeOrder_52 : decode cX2_readWholeOrder 52 = .ok (.ireturn, 1) := by decide +kernel
theorem dX2_readWholeOrder_53 : decode cX2_readWholeOrder 53 = .ok (.iinc 1 1, 3) := by decide +kernel
theorem dX2_readWholeOrder_56 : decode cX2_readWholeOrder 56 = .ok (.goto (-29), 3) := by decide +kernel
theorem dX2_readWholeOrder_59 : decode cX2_readWholeOrder 59 = .ok (.iconst 1, 1) := by decide +kernel
theorem dX2_readWholeOrder_60 : decode cX2_readWholeOrder 60 = .ok (.ireturn, 1) := by decide +kernel
theorem eX2_readWholeOrder_0 {a : Option Nat} {l1 : Option VV} {S : MM} : rn xX2_readWholeOrder (0, [some (.inr (.inl a)), l1], [], S) = rn xX2_readWholeOrder (1, [some (.inr (.inl a)), l1], [.inr (.inl a)], S) := rn_step dX2_readWholeOrder_0 rfl rfl
theorem eX2_readWholeOrder_1 {i : Nat} {l0 l1 : Option VV} (h : kd i = 2) {S : MM} : rn xX2_readWholeOrder (1, [l0, l1], [vR i], S) = (fX2_readOrder [vR i] S).bind (fun q => rn xX2_readWholeOrder (4, [l0, l1], q.1.toList ++ [], q.2)) := q_callV (n := 0) (as := []) (rest := []) dX2_readWholeOrder_1 rfl rfl rfl rfl h
theorem eX2_readWholeOrder_4 {a : Int} {l0 l1 : Option VV} (h : -2147483648 ≤ a ∧ a ≤ 2147483647) {S : MM} : rn xX2_readWholeOrder (4, [l0, l1], [vI a], S) = if a = 0 then rn xX2_readWholeOrder (7, [l0, l1], [], S) else rn xX2_readWholeOrder (9, [l0, l1], [], S) := q_if_ne dX2_readWholeOrder_4 (by decide) rfl h
theorem eX2_readWholeOrder_7 {l0 l1 : Option VV} {S : MM} : rn xX2_readWholeOrder (7, [l0, l1], [], S) = rn xX2_readWholeOrder (8, [l0, l1], [vI 0], S) := rn_step dX2_readWholeOrder_7 rfl rfl
theorem eX2_readWholeOrder_8 {z : Int} {l0 l1 : Option VV} (hz : z = 0 ∨ z = 1) {S : MM} : rn xX2_readWholeOrder (8, [l0, l1], [vI z], S) = some (some (vI z), S) := q_retZ dX2_readWholeOrder_8 rfl hz
theorem eX2_readWholeOrder_9 {a : Option Nat} {l1 : Option VV} {S : MM} : rn xX2_readWholeOrder (9, [some (.inr (.inl a)), l1], [], S) = rn xX2_readWholeOrder (10, [some (.inr (.inl a)), l1], [.inr (.inl a)], S) := rn_step dX2_readWholeOrder_9 rfl rfl
theorem eX2_readWholeOrder_10 {i : Nat} {l0 l1 : Option VV} (h : kd i = 2) {S : MM} : rn xX2_readWholeOrder (10, [l0, l1], [vR i], S) = rn xX2_readWholeOrder (13, [l0, l1], [vI (S i 3)], S) := q_getI dX2_readWholeOrder_10 rfl ⟨⟨by decide, by decide⟩, by decide⟩ h
theorem eX2_readWholeOrder_13 {l0 l1 : Option VV} {v0 : VV} {S : MM} : rn xX2_readWholeOrder (13, [l0, l1], [v0], S) = rn xX2_readWholeOrder (15, [l0, l1], [vI 48, v0], S) := rn_step dX2_readWholeOrder_13 rfl rfl
theorem eX2_readWholeOrder_15 {l0 l1 : Option VV} {v0 v1 : VV} {S : MM} : rn xX2_readWholeOrder (15, [l0, l1], [v0, v1], S) = rn xX2_readWholeOrder (17, [l0, l1], [vI 50, v0, v1], S) := rn_step dX2_readWholeOrder_15 rfl rfl
theorem eX2_readWholeOrder_17 {a0 : Int} {a1 : Int} {a2 : Int} {l0 l1 : Option VV} {S : MM} : rn xX2_readWholeOrder (17, [l0, l1], [vI a2, vI a1, vI a0], S) = (fX8_isBetween [vI a0, vI a1, vI a2] S).bind (fun q => rn xX2_readWholeOrder (20, [l0, l1], q.1.toList ++ [], q.2)) := q_callS (n := 3) (as := [vI a0, vI a1, vI a2]) (rest := []) dX2_readWholeOrder_17 rfl rfl rfl rfl
theorem eX2_readWholeOrder_20 {a : Int} {l0 l1 : Option VV} (h : -2147483648 ≤ a ∧ a ≤ 2147483647) {S : MM} : rn xX2_readWholeOrder (20, [l0, l1], [vI a], S) = if a = 0 then rn xX2_readWholeOrder (23, [l0, l1], [], S) else rn xX2_readWholeOrder (25, [l0, l1], [], S) := q_if_ne dX2_readWholeOrder_20 (by decide) rfl h
theorem eX2_readWholeOrder_23 {l0 l1 : Option VV} {S : MM} : rn xX2_readWholeOrder (23, [l0, l1], [], S) = rn xX2_readWholeOrder (24, [l0, l1], [vI 1], S) := rn_step dX2_readWholeOrder_23 rfl rfl
theorem eX2_readWholeOrder_24 {z : Int} {l0 l1 : Option VV} (hz : z = 0 ∨ z = 1) {S : MM} : rn xX2_readWholeOrder (24, [l0, l1], [vI z], S) = some (some (vI z), S) := q_retZ dX2_readWholeOrder_24 rfl hz
theorem eX2_readWholeOrder_25 {l0 l1 : Option VV} {S : MM} : rn xX2_readWholeOrder (25, [l0, l1], [], S) = rn xX2_readWholeOrder (26, [l0, l1], [vI 0], S) := rn_step dX2_readWholeOrder_25 rfl rfl
theorem eX2_readWholeOrder_26 {a : Int} {w : Option Nat} {l1 : Option VV} {S : MM} : rn xX2_readWholeOrder (26, [some (.inr (.inl w)), l1], [vI a], S) = rn xX2_readWholeOrder (27, [some (.inr (.inl w)), some (vI a)], [], S) := rn_step dX2_readWholeOrder_26 rfl rfl
theorem eX2_readWholeOrder_27 {a : Int} {l0 : Option VV} {S : MM} : rn xX2_readWholeOrder (27, [l0, some (vI a)], [], S) = rn xX2_readWholeOrder (28, [l0, some (vI a)], [vI a], S) := rn_step dX2_readWholeOrder_27 rfl rfl
theorem eX2_readWholeOrder_28 {l0 l1 : Option VV} {v0 : VV} {S : MM} : rn xX2_readWholeOrder (28, [l0, l1], [v0], S) = rn xX2_readWholeOrder (30, [l0, l1], [vI 80, v0], S) := rn_step dX2_readWholeOrder_28 rfl rfl
theorem eX2_readWholeOrder_30 {a b : Int} {l0 l1 : Option VV} (h : -2147483648 ≤ a ∧ a ≤ 2147483647) (h1 : -2147483648 ≤ b ∧ b ≤ 2147483647) {S : MM} : rn xX2_readWholeOrder (30, [l0, l1], [vI b, vI a], S) = if a < b then rn xX2_readWholeOrder (33, [l0, l1], [], S) else rn xX2_readWholeOrder (59, [l0, l1], [], S) := q_icmp_ge dX2_readWholeOrder_30 (by decide) rfl h h1
theorem eX2_readWholeOrder_33 {a : Option Nat} {l1 : Option VV} {S : MM} : rn xX2_readWholeOrder (33, [some (.inr (.inl a)), l1], [], S) = rn xX2_readWholeOrder (34, [some (.inr (.inl a)), l1], [.inr (.inl a)], S) := rn_step dX2_readWholeOrder_33 rfl rfl
theorem eX2_readWholeOrder_34 {i : Nat} {l0 l1 : Option VV} (h : kd i = 2) {S : MM} : rn xX2_readWholeOrder (34, [l0, l1], [vR i], S) = (fX2_readStones [vR i] S).bind (fun q => rn xX2_readWholeOrder (37, [l0, l1], q.1.toList ++ [], q.2)) := q_callV (n := 0) (as := []) (rest := []) dX2_readWholeOrder_34 rfl rfl rfl rfl h
theorem eX2_readWholeOrder_37 {a : Int} {l0 l1 : Option VV} (h : -2147483648 ≤ a ∧ a ≤ 2147483647) {S : MM} : rn xX2_readWholeOrder (37, [l0, l1], [vI a], S) = if a = 0 then rn xX2_readWholeOrder (40, [l0, l1], [], S) else rn xX2_readWholeOrder (42, [l0, l1], [], S) := q_if_ne dX2_readWholeOrder_37 (by decide) rfl h
theorem eX2_readWholeOrder_40 {l0 l1 : Option VV} {S : MM} : rn xX2_readWholeOrder (40, [l0, l1], [], S) = rn xX2_readWholeOrder (41, [l0, l1], [vI 0], S) := rn_step dX2_readWholeOrder_40 rfl rfl
theorem eX2_readWholeOrder_41 {z : Int} {l0 l1 : Option VV} (hz : z = 0 ∨ z = 1) {S : MM} : rn xX2_readWholeOrder (41, [l0, l1], [vI z], S) = some (some (vI z), S) := q_retZ dX2_readWholeOrder_41 rfl hz
theorem eX2_readWholeOrder_42 {a : Option Nat} {l1 : Option VV} {S : MM} : rn xX2_readWholeOrder (42, [some (.inr (.inl a)), l1], [], S) = rn xX2_readWholeOrder (43, [some (.inr (.inl a)), l1], [.inr (.inl a)], S) := rn_step dX2_readWholeOrder_42 rfl rfl
theorem eX2_readWholeOrder_43 {l0 l1 : Option VV} {v0 : VV} {S : MM} : rn xX2_readWholeOrder (43, [l0, l1], [v0], S) = rn xX2_readWholeOrder (45, [l0, l1], [vI 44, v0], S) := rn_step dX2_readWholeOrder_43 rfl rfl
theorem eX2_readWholeOrder_45 {a0 : Int} {i : Nat} {l0 l1 : Option VV} (h : kd i = 2) {S : MM} : rn xX2_readWholeOrder (45, [l0, l1], [vI a0, vR i], S) = (fX2_pass [vR i, vI a0] S).bind (fun q => rn xX2_readWholeOrder (48, [l0, l1], q.1.toList ++ [], q.2)) := q_callV (n := 1) (as := [vI a0]) (rest := []) dX2_readWholeOrder_45 rfl rfl rfl rfl h
theorem eX2_readWholeOrder_48 {a : Int} {l0 l1 : Option VV} (h : -2147483648 ≤ a ∧ a ≤ 2147483647) {S : MM} : rn xX2_readWholeOrder (48, [l0, l1], [vI a], S) = if a = 0 then rn xX2_readWholeOrder (51, [l0, l1], [], S) else rn xX2_readWholeOrder (53, [l0, l1], [], S) := q_if_ne dX2_readWholeOrder_48 (by decide) rfl h
theorem eX2_readWholeOrder_51 {l0 l1 : Option VV} {S : MM} : rn xX2_readWholeOrder (51, [l0, l1], [], S) = rn xX2_readWholeOrder (52, [l0, l1], [vI 1], S) := rn_step dX2_readWholeOrder_51 rfl rfl
theorem eX2_readWholeOrder_52 {z : Int} {l0 l1 : Option VV} (hz : z = 0 ∨ z = 1) {S : MM} : rn xX2_readWholeOrder (52, [l0, l1], [vI z], S) = some (some (vI z), S) := q_retZ dX2_readWholeOrder_52 rfl hz
theorem eX2_readWholeOrder_53 {a : Int} {w : Option Nat} {S : MM} : rn xX2_readWholeOrder (53, [some (.inr (.inl w)), some (vI a)], [], S) = rn xX2_readWholeOrder (56, [some (.inr (.inl w)), some (vI (a + 1))], [], S) := rn_step dX2_readWholeOrder_53 rfl rfl
theorem eX2_readWholeOrder_56 {l0 l1 : Option VV} {S : MM} : rn xX2_readWholeOrder (56, [l0, l1], [], S) = rn xX2_readWholeOrder (27, [l0, l1], [], S) := rn_step dX2_readWholeOrder_56 rfl rfl
theorem eX2_readWholeOrder_59 {l0 l1 : Option VV} {S : MM} : rn xX2_readWholeOrder (59, [l0, l1], [], S) = rn xX2_readWholeOrder (60, [l0, l1], [vI 1], S) := rn_step dX2_readWholeOrder_59 rfl rfl
theorem eX2_readWholeOrder_60 {z : Int} {l0 l1 : Option VV} (hz : z = 0 ∨ z = 1) {S : MM} : rn xX2_readWholeOrder (60, [l0, l1], [vI z], S) = some (some (vI z), S) := q_retZ dX2_readWholeOrder_60 rfl hz
noncomputable def qlX2_firstFault : List CE := [(0, 38, 2, 1, fX2_rewind), (0, 41, 2, 1, fX2_readWholeOrder), (0, 45, 2, 2, fX2_pass)]
noncomputable def xX2_firstFault : XX := (cX2_firstFault, fcF fcl2, mcF qlX2_firstFault, 1)
noncomputable def fX2_firstFault : FN := fnX xX2_firstFault 2
set_option maxRecDepth 100000 in
theorem cwX2_firstFault : Cond.code yX2_firstFault cX2_firstFault 2 (some .int) ∈ lw_g := lw_gm 702 (by decide +kernel) (by decide +kernel)
set_option maxRecDepth 100000 in
theorem conX2_firstFault : Con yX2_firstFault cX2_firstFault 2 (some .int) { frames := 5, cells := 0, slots := 0, locals := 107 } fX2_firstFault := con_of (X := xX2_firstFault) (own := "LeapStones$Pad") (ql := qlX2_firstFault) (by decide) rfl FOK2 rfl (List.forall_mem_cons.mpr ⟨call_V conX2_rewind cwX2_rewind (lw_gl _ [703, 704, 705, 29] (by decide +kernel) (by decide +kernel)) (by decide) rfl ⟨by decide, by decide, by decide +kernel⟩ ⟨rfl, rfl⟩ ⟨by decide, by decide⟩ ⟨Nat.le_refl _, Nat.le_refl _⟩, List.forall_mem_cons.mpr ⟨call_V conX2_readWholeOrder cwX2_readWholeOrder (lw_gl _ [707, 709, 9, 29] (by decide +kernel) (by decide +kernel)) (by decide) rfl ⟨by decide, by decide, by decide +kernel⟩ ⟨rfl, rfl⟩ ⟨by decide, by decide⟩ ⟨Nat.le_refl _, Nat.le_refl _⟩, List.forall_mem_cons.mpr ⟨call_V conX2_pass cwX2_pass (lw_gl _ [723, 724, 725, 29] (by decide +kernel) (by decide +kernel)) (by decide) rfl ⟨by decide, by decide, by decide +kernel⟩ ⟨rfl, rfl⟩ ⟨by decide, by decide⟩ ⟨Nat.le_refl _, Nat.le_refl _⟩, fun _ h => absurd h List.not_mem_nil⟩⟩⟩) (Or.inr (Or.inl ⟨rfl, rfl⟩))
theorem uX2_firstFault {i : Nat} {S : MM} : fX2_firstFault [vR i] S = rn xX2_firstFault (0, [some (vR i), none], [], S) := rfl
theorem dX2_firstFault_0 : decode cX2_firstFault 0 = .ok (.aload_n 0, 1) := by decide +kernel
theorem dX2_firstFault_1 : decode cX2_firstFault 1 = .ok (.invokevirtual 38, 3) := by decide +kernel
theorem dX2_firstFault_4 : decode cX2_firstFault 4 = .ok (.iconst 0, 1) := by decide +kernel
theorem dX2_firstFault_5 : decode cX2_firstFault 5 = .ok (.istore_n 1, 1) := by decide +kernel
theorem dX2_firstFault_6 : decode cX2_firstFault 6 = .ok (.iload_n 1, 1) := by decide +kernel
theorem dX2_firstFault_7 : decode cX2_firstFault 7 = .ok (.bipush 80, 2) := by decide +kernel
theorem dX2_firstFault_9 : decode cX2_firstFault 9 = .ok (.if_icmp .ge 33, 3) := by decide +kernel
theorem dX2_firstFault_12 : decode cX2_firstFault 12 = .ok (.aload_n 0, 1) := by decide +kernel
theorem dX2_firstFault_13 : decode cX2_firstFault 13 = .ok (.invokevirtual 41, 3) := by decide +kernel
theorem dX2_firstFault_16 : decode cX2_firstFault 16 = .ok (.ifCond .ne 8, 3) := by decide +kernel
theorem dX2_firstFault_19 : decode cX2_firstFault 19 = .ok (.aload_n 0, 1) := by decide +kernel
theorem dX2_firstFault_20 : decode cX2_firstFault 20 = .ok (.getfield 35, 3) := by decide +kernel
theorem dX2_firstFault_23 : decode cX2_firstFault 23 = .ok (.ireturn, 1) := by decide +kernel
theorem dX2_firstFault_24 : decode cX2_firstFault 24 = .ok (.aload_n 0, 1) := by decide +kernel
theorem dX2_firstFault_25 : decode cX2_firstFault 25 = .ok (.bipush 59, 2) := by decide +kernel
theorem dX2_firstFault_27 : decode cX2_firstFault 27 = .ok (.invokevirtual 45, 3) := by decide +kernel
theorem dX2_firstFault_30 : decode cX2_firstFault 30 = .ok (.ifCond .ne 6, 3) := by decide +kernel
theorem dX2_firstFault_33 : decode cX2_firstFault 33 = .ok (.goto 9, 3) := by decide +kernel
theorem dX2_firstFault_36 : decode cX2_firstFault 36 = .ok (.iinc 1 1, 3) := by decide +kernel
theorem dX2_firstFault_39 : decode cX2_firstFault 39 = .ok (.goto (-33), 3) := by decide +kernel
theorem dX2_firstFault_42 : decode cX2_firstFault 42 = .ok (.aload_n 0, 1) := by decide +kernel
theorem dX2_firstFault_43 : decode cX2_firstFault 43 = .ok (.getfield 35, 3) := by decide +kernel
theorem dX2_firstFault_46 : decode cX2_firstFault 46 = .ok (.aload_n 0, 1) := by decide +kernel
theorem dX2_firstFault_47 : decode cX2_firstFault 47 = .ok (.getfield 15, 3) := by decide +kernel
theorem dX2_firstFault_50 : decode cX2_firstFault 50 = .ok (.if_icmp .ge 10, 3) := by decide +kernel
theorem dX2_firstFault_53 : decode cX2_firstFault 53 = .ok (.aload_n 0, 1) := by decide +kernel
theorem dX2_firstFault_54 : decode cX2_firstFault 54 = .ok (.getfield 35, 3) := by decide +kernel
theorem dX2_firstFault_57 : decode cX2_firstFault 57 = .ok (.goto 5, 3) := by decide +kernel
theorem dX2_firstFault_60 : decode cX2_firstFault 60 = .ok (.bipush (-6), 2) := by decide +kernel
theorem dX2_firstFault_62 : decode cX2_firstFault 62 = .ok (.ireturn, 1) := by decide +kernel
theorem eX2_firstFault_0 {a : Option Nat} {l1 : Option VV} {S : MM} : rn xX2_firstFault (0, [some (.inr (.inl a)), l1], [], S) = rn xX2_firstFault (1, [some (.inr (.inl a)), l1], [.inr (.inl a)], S) := rn_step dX2_firstFault_0 rfl rfl
theorem eX2_firstFault_1 {i : Nat} {l0 l1 : Option VV} (h : kd i = 2) {S : MM} : rn xX2_firstFault (1, [l0, l1], [vR i], S) = (fX2_rewind [vR i] S).bind (fun q => rn xX2_firstFault (4, [l0, l1], q.1.toList ++ [], q.2)) := q_callV (n := 0) (as := []) (rest := []) dX2_firstFault_1 rfl rfl rfl rfl h
theorem eX2_firstFault_4 {l0 l1 : Option VV} {S : MM} : rn xX2_firstFault (4, [l0, l1], [], S) = rn xX2_firstFault (5, [l0, l1], [vI 0], S) := rn_step dX2_firstFault_4 rfl rfl
theorem eX2_firstFault_5 {a : Int} {w : Option Nat} {l1 : Option VV} {S : MM} : rn xX2_firstFault (5, [some (.inr (.inl w)), l1], [vI a], S) = rn xX2_firstFault (6, [some (.inr (.inl w)), some (vI a)], [], S) := rn_step dX2_firstFault_5 rfl rfl
theorem eX2_firstFault_6 {a : Int} {l0 : Option VV} {S : MM} : rn xX2_firstFault (6, [l0, some (vI a)], [], S) = rn xX2_firstFault (7, [l0, some (vI a)], [vI a], S) := rn_step dX2_firstFault_6 rfl rfl
theorem eX2_firstFault_7 {l0 l1 : Option VV} {v0 : VV} {S : MM} : rn xX2_firstFault (7, [l0, l1], [v0], S) = rn xX2_firstFault (9, [l0, l1], [vI 80, v0], S) := rn_step dX2_firstFault_7 rfl rfl
theorem eX2_firstFault_9 {a b : Int} {l0 l1 : Option VV} (h : -2147483648 ≤ a ∧ a ≤ 2147483647) (h1 : -2147483648 ≤ b ∧ b ≤ 2147483647) {S : MM} : rn xX2_firstFault (9, [l0, l1], [vI b, vI a], S) = if a < b then rn xX2_firstFault (12, [l0, l1], [], S) else rn xX2_firstFault (42, [l0, l1], [], S) := q_icmp_ge dX2_firstFault_9 (by decide) rfl h h1
theorem eX2_firstFault_12 {a : Option Nat} {l1 : Option VV} {S : MM} : rn xX2_firstFault (12, [some (.inr (.inl a)), l1], [], S) = rn xX2_firstFault (13, [some (.inr (.inl a)), l1], [.inr (.inl a)], S) := rn_step dX2_firstFault_12 rfl rfl
theorem eX2_firstFault_13 {i : Nat} {l0 l1 : Option VV} (h : kd i = 2) {S : MM} : rn xX2_firstFault (13, [l0, l1], [vR i], S) = (fX2_readWholeOrder [vR i] S).bind (fun q => rn xX2_firstFault (16, [l0, l1], q.1.toList ++ [], q.2)) := q_callV (n := 0) (as := []) (rest := []) dX2_firstFault_13 rfl rfl rfl rfl h
theorem eX2_firstFault_16 {a : Int} {l0 l1 : Option VV} (h : -2147483648 ≤ a ∧ a ≤ 2147483647) {S : MM} : rn xX2_firstFault (16, [l0, l1], [vI a], S) = if a = 0 then rn xX2_firstFault (19, [l0, l1], [], S) else rn xX2_firstFault (24, [l0, l1], [], S) := q_if_ne dX2_firstFault_16 (by decide) rfl h
theorem eX2_firstFault_19 {a : Option Nat} {l1 : Option VV} {S : MM} : rn xX2_firstFault (19, [some (.inr (.inl a)), l1], [], S) = rn xX2_firstFault (20, [some (.inr (.inl a)), l1], [.inr (.inl a)], S) := rn_step dX2_firstFault_19 rfl rfl
theorem eX2_firstFault_20 {i : Nat} {l0 l1 : Option VV} (h : kd i = 2) {S : MM} : rn xX2_firstFault (20, [l0, l1], [vR i], S) = rn xX2_firstFault (23, [l0, l1], [vI (S i 2)], S) := q_getI dX2_firstFault_20 rfl ⟨⟨by decide, by decide⟩, by decide⟩ h
theorem eX2_firstFault_23 {z : Int} {l0 l1 : Option VV} {S : MM} : rn xX2_firstFault (23, [l0, l1], [vI z], S) = some (some (vI z), S) := q_retI dX2_firstFault_23 rfl
theorem eX2_firstFault_24 {a : Option Nat} {l1 : Option VV} {S : MM} : rn xX2_firstFault (24, [some (.inr (.inl a)), l1], [], S) = rn xX2_firstFault (25, [some (.inr (.inl a)), l1], [.inr (.inl a)], S) := rn_step dX2_firstFault_24 rfl rfl
theorem eX2_firstFault_25 {l0 l1 : Option VV} {v0 : VV} {S : MM} : rn xX2_firstFault (25, [l0, l1], [v0], S) = rn xX2_firstFault (27, [l0, l1], [vI 59, v0], S) := rn_step dX2_firstFault_25 rfl rfl
theorem eX2_firstFault_27 {a0 : Int} {i : Nat} {l0 l1 : Option VV} (h : kd i = 2) {S : MM} : rn xX2_firstFault (27, [l0, l1], [vI a0, vR i], S) = (fX2_pass [vR i, vI a0] S).bind (fun q => rn xX2_firstFault (30, [l0, l1], q.1.toList ++ [], q.2)) := q_callV (n := 1) (as := [vI a0]) (rest := []) dX2_firstFault_27 rfl rfl rfl rfl h
theorem eX2_firstFault_30 {a : Int} {l0 l1 : Option VV} (h : -2147483648 ≤ a ∧ a ≤ 2147483647) {S : MM} : rn xX2_firstFault (30, [l0, l1], [vI a], S) = if a = 0 then rn xX2_firstFault (33, [l0, l1], [], S) else rn xX2_firstFault (36, [l0, l1], [], S) := q_if_ne dX2_firstFault_30 (by decide) rfl h
theorem eX2_firstFault_33 {l0 l1 : Option VV} {S : MM} : rn xX2_firstFault (33, [l0, l1], [], S) = rn xX2_firstFault (42, [l0, l1], [], S) := rn_step dX2_firstFault_33 rfl rfl
theorem eX2_firstFault_36 {a : Int} {w : Option Nat} {S : MM} : rn xX2_firstFault (36, [some (.inr (.inl w)), some (vI a)], [], S) = rn xX2_firstFault (39, [some (.inr (.inl w)), some (vI (a + 1))], [], S) := rn_step dX2_firstFault_36 rfl rfl
theorem eX2_firstFault_39 {l0 l1 : Option VV} {S : MM} : rn xX2_firstFault (39, [l0, l1], [], S) = rn xX2_firstFault (6, [l0, l1], [], S) := rn_step dX2_firstFault_39 rfl rfl
theorem eX2_firstFault_42 {a : Option Nat} {l1 : Option VV} {S : MM} : rn xX2_firstFault (42, [some (.inr (.inl a)), l1], [], S) = rn xX2_firstFault (43, [some (.inr (.inl a)), l1], [.inr (.inl a)], S) := rn_step dX2_firstFault_42 rfl rfl
theorem eX2_firstFault_43 {i : Nat} {l0 l1 : Option VV} (h : kd i = 2) {S : MM} : rn xX2_firstFault (43, [l0, l1], [vR i], S) = rn xX2_firstFault (46, [l0, l1], [vI (S i 2)], S) := q_getI dX2_firstFault_43 rfl ⟨⟨by decide, by decide⟩, by decide⟩ h
theorem eX2_firstFault_46 {a : Option Nat} {l1 : Option VV} {v0 : VV} {S : MM} : rn xX2_firstFault (46, [some (.inr (.inl a)), l1], [v0], S) = rn xX2_firstFault (47, [some (.inr (.inl a)), l1], [.inr (.inl a), v0], S) := rn_step dX2_firstFault_46 rfl rfl
theorem eX2_firstFault_47 {i : Nat} {l0 l1 : Option VV} {v1 : VV} (h : kd i = 2) {S : MM} : rn xX2_firstFault (47, [l0, l1], [vR i, v1], S) = rn xX2_firstFault (50, [l0, l1], [vI (S i 1), v1], S) := q_getI dX2_firstFault_47 rfl ⟨⟨by decide, by decide⟩, by decide⟩ h
theorem eX2_firstFault_50 {a b : Int} {l0 l1 : Option VV} (h : -2147483648 ≤ a ∧ a ≤ 2147483647) (h1 : -2147483648 ≤ b ∧ b ≤ 2147483647) {S : MM} : rn xX2_firstFault (50, [l0, l1], [vI b, vI a], S) = if a < b then rn xX2_firstFault (53, [l0, l1], [], S) else rn xX2_firstFault (60, [l0, l1], [], S) := q_icmp_ge dX2_firstFault_50 (by decide) rfl h h1
theorem eX2_firstFault_53 {a : Option Nat} {l1 : Option VV} {S : MM} : rn xX2_firstFault (53, [some (.inr (.inl a)), l1], [], S) = rn xX2_firstFault (54, [some (.inr (.inl a)), l1], [.inr (.inl a)], S) := rn_step dX2_firstFault_53 rfl rfl
theorem eX2_firstFault_54 {i : Nat} {l0 l1 : Option VV} (h : kd i = 2) {S : MM} : rn xX2_firstFault (54, [l0, l1], [vR i], S) = rn xX2_firstFault (57, [l0, l1], [vI (S i 2)], S) := q_getI dX2_firstFault_54 rfl ⟨⟨by decide, by decide⟩, by decide⟩ h
theorem eX2_firstFault_57 {l0 l1 : Option VV} {v0 : VV} {S : MM} : rn xX2_firstFault (57, [l0, l1], [v0], S) = rn xX2_firstFault (62, [l0, l1], [v0], S) := rn_step dX2_firstFault_57 rfl rfl
theorem eX2_firstFault_60 {l0 l1 : Option VV} {S : MM} : rn xX2_firstFault (60, [l0, l1], [], S) = rn xX2_firstFault (62, [l0, l1], [vI (-6)], S) := rn_step dX2_firstFault_60 rfl rfl
theorem eX2_firstFault_62 {z : Int} {l0 l1 : Option VV} {S : MM} : rn xX2_firstFault (62, [l0, l1], [vI z], S) = some (some (vI z), S) := q_retI dX2_firstFault_62 rfl
noncomputable def qlX3_size : List CE := []
noncomputable def xX3_size : XX := (cX3_size, fcF fcl3, mcF qlX3_size, 1)
noncomputable def fX3_size : FN := fnX xX3_size 1
set_option maxRecDepth 100000 in
theorem cwX3_size : Cond.code yX3_size cX3_size 1 (some .int) ∈ lw_g := lw_gm 401 (by decide +kernel) (by decide +kernel)
set_option maxRecDepth 100000 in
theorem conX3_size : Con yX3_size cX3_size 1 (some .int) { frames := 0, cells := 0, slots := 0, locals := 0 } fX3_size := con_of (X := xX3_size) (own := "LeapStones$Path") (ql := qlX3_size) (by decide) rfl FOK3 rfl (fun _ h => absurd h List.not_mem_nil) (Or.inr (Or.inl ⟨rfl, rfl⟩))
theorem uX3_size {i : Nat} {S : MM} : fX3_size [vR i] S = rn xX3_size (0, [some (vR i)], [], S) := rfl
theorem dX3_size_0 : decode cX3_size 0 = .ok (.aload_n 0, 1) := by decide +kernel
theorem dX3_size_1 : decode cX3_size 1 = .ok (.getfield 18, 3) := by decide +kernel
theorem dX3_size_4 : decode cX3_size 4 = .ok (.ireturn, 1) := by decide +kernel
theorem eX3_size_0 {a : Option Nat} {S : MM} : rn xX3_size (0, [some (.inr (.inl a))], [], S) = rn xX3_size (1, [some (.inr (.inl a))], [.inr (.inl a)], S) := rn_step dX3_size_0 rfl rfl
theorem eX3_size_1 {i : Nat} {l0 : Option VV} (h : kd i = 3) {S : MM} : rn xX3_size (1, [l0], [vR i], S) = rn xX3_size (4, [l0], [vI (S i 2)], S) := q_getI dX3_size_1 rfl ⟨⟨by decide, by decide⟩, by decide⟩ h
theorem eX3_size_4 {z : Int} {l0 : Option VV} {S : MM} : rn xX3_size (4, [l0], [vI z], S) = some (some (vI z), S) := q_retI dX3_size_4 rfl
noncomputable def qlX3_repeatsAt : List CE := []
noncomputable def xX3_repeatsAt : XX := (cX3_repeatsAt, fcF fcl3, mcF qlX3_repeatsAt, 1)
noncomputable def fX3_repeatsAt : FN := fnX xX3_repeatsAt 2
set_option maxRecDepth 100000 in
theorem cwX3_repeatsAt : Cond.code yX3_repeatsAt cX3_repeatsAt 2 (some .int) ∈ lw_g := lw_gm 424 (by decide +kernel) (by decide +kernel)
set_option maxRecDepth 100000 in
theorem conX3_repeatsAt : Con yX3_repeatsAt cX3_repeatsAt 2 (some .int) { frames := 0, cells := 0, slots := 0, locals := 0 } fX3_repeatsAt := con_of (X := xX3_repeatsAt) (own := "LeapStones$Path") (ql := qlX3_repeatsAt) (by decide) rfl FOK3 rfl (fun _ h => absurd h List.not_mem_nil) (Or.inr (Or.inl ⟨rfl, rfl⟩))
theorem uX3_repeatsAt {i : Nat} {a0 : Int} {S : MM} : fX3_repeatsAt [vR i, vI a0] S = rn xX3_repeatsAt (0, [some (vR i), some (vI a0)], [], S) := rfl
theorem dX3_repeatsAt_0 : decode cX3_repeatsAt 0 = .ok (.iload_n 1, 1) := by decide +kernel
theorem dX3_repeatsAt_1 : decode cX3_repeatsAt 1 = .ok (.ifCond .lt 20, 3) := by decide +kernel
theorem dX3_repeatsAt_4 : decode cX3_repeatsAt 4 = .ok (.iload_n 1, 1) := by decide +kernel
theorem dX3_repeatsAt_5 : decode cX3_repeatsAt 5 = .ok (.aload_n 0, 1) := by decide +kernel
theorem dX3_repeatsAt_6 : decode cX3_repeatsAt 6 = .ok (.getfield 18, 3) := by decide +kernel
theorem dX3_repeatsAt_9 : decode cX3_repeatsAt 9 = .ok (.if_icmp .ge 12, 3) := by decide +kernel
theorem dX3_repeatsAt_12 : decode cX3_repeatsAt 12 = .ok (.aload_n 0, 1) := by decide +kernel
theorem dX3_repeatsAt_13 : decode cX3_repeatsAt 13 = .ok (.getfield 15, 3) := by decide +kernel
theorem dX3_repeatsAt_16 : decode cX3_repeatsAt 16 = .ok (.iload_n 1, 1) := by decide +kernel
theorem dX3_repeatsAt_17 : decode cX3_repeatsAt 17 = .ok (.iaload, 1) := by decide +kernel
theorem dX3_repeatsAt_18 : decode cX3_repeatsAt 18 = .ok (.goto 4, 3) := by decide +kernel
theorem dX3_repeatsAt_21 : decode cX3_repeatsAt 21 = .ok (.iconst 0, 1) := by decide +kernel
theorem dX3_repeatsAt_22 : decode cX3_repeatsAt 22 = .ok (.ireturn, 1) := by decide +kernel
theorem eX3_repeatsAt_0 {a : Int} {l0 : Option VV} {S : MM} : rn xX3_repeatsAt (0, [l0, some (vI a)], [], S) = rn xX3_repeatsAt (1, [l0, some (vI a)], [vI a], S) := rn_step dX3_repeatsAt_0 rfl rfl
theorem eX3_repeatsAt_1 {a : Int} {l0 l1 : Option VV} (h : -2147483648 ≤ a ∧ a ≤ 2147483647) {S : MM} : rn xX3_repeatsAt (1, [l0, l1], [vI a], S) = if a < 0 then rn xX3_repeatsAt (21, [l0, l1], [], S) else rn xX3_repeatsAt (4, [l0, l1], [], S) := q_if_lt dX3_repeatsAt_1 (by decide) rfl h
theorem eX3_repeatsAt_4 {a : Int} {l0 : Option VV} {S : MM} : rn xX3_repeatsAt (4, [l0, some (vI a)], [], S) = rn xX3_repeatsAt (5, [l0, some (vI a)], [vI a], S) := rn_step dX3_repeatsAt_4 rfl rfl
theorem eX3_repeatsAt_5 {a : Option Nat} {l1 : Option VV} {v0 : VV} {S : MM} : rn xX3_repeatsAt (5, [some (.inr (.inl a)), l1], [v0], S) = rn xX3_repeatsAt (6, [some (.inr (.inl a)), l1], [.inr (.inl a), v0], S) := rn_step dX3_repeatsAt_5 rfl rfl
theorem eX3_repeatsAt_6 {i : Nat} {l0 l1 : Option VV} {v1 : VV} (h : kd i = 3) {S : MM} : rn xX3_repeatsAt (6, [l0, l1], [vR i, v1], S) = rn xX3_repeatsAt (9, [l0, l1], [vI (S i 2), v1], S) := q_getI dX3_repeatsAt_6 rfl ⟨⟨by decide, by decide⟩, by decide⟩ h
theorem eX3_repeatsAt_9 {a b : Int} {l0 l1 : Option VV} (h : -2147483648 ≤ a ∧ a ≤ 2147483647) (h1 : -2147483648 ≤ b ∧ b ≤ 2147483647) {S : MM} : rn xX3_repeatsAt (9, [l0, l1], [vI b, vI a], S) = if a < b then rn xX3_repeatsAt (12, [l0, l1], [], S) else rn xX3_repeatsAt (21, [l0, l1], [], S) := q_icmp_ge dX3_repeatsAt_9 (by decide) rfl h h1
theorem eX3_repeatsAt_12 {a : Option Nat} {l1 : Option VV} {S : MM} : rn xX3_repeatsAt (12, [some (.inr (.inl a)), l1], [], S) = rn xX3_repeatsAt (13, [some (.inr (.inl a)), l1], [.inr (.inl a)], S) := rn_step dX3_repeatsAt_12 rfl rfl
theorem eX3_repeatsAt_13 {i : Nat} {l0 l1 : Option VV} (h : kd i = 3) {S : MM} : rn xX3_repeatsAt (13, [l0, l1], [vR i], S) = rn xX3_repeatsAt (16, [l0, l1], [vR (i + 2)], S) := q_getR dX3_repeatsAt_13 rfl ⟨⟨by decide, by decide⟩, by decide⟩ (fun h => (fref3 h).trans (by first | rfl | omega)) h
theorem eX3_repeatsAt_16 {a : Int} {l0 : Option VV} {v0 : VV} {S : MM} : rn xX3_repeatsAt (16, [l0, some (vI a)], [v0], S) = rn xX3_repeatsAt (17, [l0, some (vI a)], [vI a, v0], S) := rn_step dX3_repeatsAt_16 rfl rfl
theorem eX3_repeatsAt_17 {i : Nat} {j : Int} {l0 l1 : Option VV} (h : kd i = 10) (h0 : 0 ≤ j) (h1 : j < alen i) {S : MM} : rn xX3_repeatsAt (17, [l0, l1], [vI j, vR i], S) = rn xX3_repeatsAt (18, [l0, l1], [vI (S i j.toNat)], S) := q_iald dX3_repeatsAt_17 h h0 h1
theorem eX3_repeatsAt_17x {j : Int} {l0 l1 : Option VV} {S : MM} (h0 : 0 ≤ j) (h1 : j < S 604 0) : rn xX3_repeatsAt (17, [l0, l1], [vI j, vR 602], S) = rn xX3_repeatsAt (18, [l0, l1], [vI (S 602 j.toNat)], S) := q_ialdX dX3_repeatsAt_17 h0 h1
theorem eX3_repeatsAt_17y {j : Int} {l0 l1 : Option VV} {S : MM} (h0 : 0 ≤ j) (h1 : j < S 604 1) : rn xX3_repeatsAt (17, [l0, l1], [vI j, vR 603], S) = rn xX3_repeatsAt (18, [l0, l1], [vI (S 603 j.toNat)], S) := q_ialdY dX3_repeatsAt_17 h0 h1
theorem eX3_repeatsAt_18 {l0 l1 : Option VV} {v0 : VV} {S : MM} : rn xX3_repeatsAt (18, [l0, l1], [v0], S) = rn xX3_repeatsAt (22, [l0, l1], [v0], S) := rn_step dX3_repeatsAt_18 rfl rfl
theorem eX3_repeatsAt_21 {l0 l1 : Option VV} {S : MM} : rn xX3_repeatsAt (21, [l0, l1], [], S) = rn xX3_repeatsAt (22, [l0, l1], [vI 0], S) := rn_step dX3_repeatsAt_21 rfl rfl
theorem eX3_repeatsAt_22 {z : Int} {l0 l1 : Option VV} {S : MM} : rn xX3_repeatsAt (22, [l0, l1], [vI z], S) = some (some (vI z), S) := q_retI dX3_repeatsAt_22 rfl
noncomputable def qlX3_hasRoomFor : List CE := [(0, 29, 3, 2, fX3_repeatsOf)]
noncomputable def xX3_hasRoomFor : XX := (cX3_hasRoomFor, fcF fcl3, mcF qlX3_hasRoomFor, 2)
noncomputable def fX3_hasRoomFor : FN := fnX xX3_hasRoomFor 2
set_option maxRecDepth 100000 in
theorem cwX3_hasRoomFor : Cond.code yX3_hasRoomFor cX3_hasRoomFor 2 (some .boolean) ∈ lw_g := lw_gm 353 (by decide +kernel) (by decide +kernel)
set_option maxRecDepth 100000 in
theorem conX3_hasRoomFor : Con yX3_hasRoomFor cX3_hasRoomFor 2 (some .boolean) { frames := 1, cells := 0, slots := 0, locals := 22 } fX3_hasRoomFor := con_of (X := xX3_hasRoomFor) (own := "LeapStones$Path") (ql := qlX3_hasRoomFor) (by decide) rfl FOK3 rfl (List.forall_mem_cons.mpr ⟨call_V conX3_repeatsOf cwX3_repeatsOf (lw_gl _ [354, 355, 356, 25] (by decide +kernel) (by decide +kernel)) (by decide) rfl ⟨by decide, by decide, by decide +kernel⟩ ⟨rfl, rfl⟩ ⟨by decide, by decide⟩ ⟨Nat.le_refl _, Nat.le_refl _⟩, fun _ h => absurd h List.not_mem_nil⟩) (Or.inr (Or.inr (Or.inl ⟨rfl, rfl⟩)))
theorem uX3_hasRoomFor {i : Nat} {a0 : Int} {S : MM} : fX3_hasRoomFor [vR i, vI a0] S = rn xX3_hasRoomFor (0, [some (vR i), some (vI a0)], [], S) := rfl
theorem dX3_hasRoomFor_0 : decode cX3_hasRoomFor 0 = .ok (.aload_n 0, 1) := by decide +kernel
theorem dX3_hasRoomFor_1 : decode cX3_hasRoomFor 1 = .ok (.getfield 18, 3) := by decide +kernel
theorem dX3_hasRoomFor_4 : decode cX3_hasRoomFor 4 = .ok (.bipush 40, 2) := by decide +kernel
theorem dX3_hasRoomFor_6 : decode cX3_hasRoomFor 6 = .ok (.if_icmp .lt 11, 3) := by decide +kernel
theorem dX3_hasRoomFor_9 : decode cX3_hasRoomFor 9 = .ok (.aload_n 0, 1) := by decide +kernel
theorem dX3_hasRoomFor_10 : decode cX3_hasRoomFor 10 = .ok (.iload_n 1, 1) := by decide +kernel
theorem dX3_hasRoomFor_11 : decode cX3_hasRoomFor 11 = .ok (.invokevirtual 29, 3) := by decide +kernel
theorem dX3_hasRoomFor_14 : decode cX3_hasRoomFor 14 = .ok (.ifCond .le 7, 3) := by decide +kernel
theorem dX3_hasRoomFor_17 : decode cX3_hasRoomFor 17 = .ok (.iconst 1, 1) := by decide +kernel
theorem dX3_hasRoomFor_18 : decode cX3_hasRoomFor 18 = .ok (.goto 4, 3) := by decide +kernel
theorem dX3_hasRoomFor_21 : decode cX3_hasRoomFor 21 = .ok (.iconst 0, 1) := by decide +kernel
theorem dX3_hasRoomFor_22 : decode cX3_hasRoomFor 22 = .ok (.ireturn, 1) := by decide +kernel
theorem eX3_hasRoomFor_0 {a : Option Nat} {l1 : Option VV} {S : MM} : rn xX3_hasRoomFor (0, [some (.inr (.inl a)), l1], [], S) = rn xX3_hasRoomFor (1, [some (.inr (.inl a)), l1], [.inr (.inl a)], S) := rn_step dX3_hasRoomFor_0 rfl rfl
theorem eX3_hasRoomFor_1 {i : Nat} {l0 l1 : Option VV} (h : kd i = 3) {S : MM} : rn xX3_hasRoomFor (1, [l0, l1], [vR i], S) = rn xX3_hasRoomFor (4, [l0, l1], [vI (S i 2)], S) := q_getI dX3_hasRoomFor_1 rfl ⟨⟨by decide, by decide⟩, by decide⟩ h
theorem eX3_hasRoomFor_4 {l0 l1 : Option VV} {v0 : VV} {S : MM} : rn xX3_hasRoomFor (4, [l0, l1], [v0], S) = rn xX3_hasRoomFor (6, [l0, l1], [vI 40, v0], S) := rn_step dX3_hasRoomFor_4 rfl rfl
theorem eX3_hasRoomFor_6 {a b : Int} {l0 l1 : Option VV} (h : -2147483648 ≤ a ∧ a ≤ 2147483647) (h1 : -2147483648 ≤ b ∧ b ≤ 2147483647) {S : MM} : rn xX3_hasRoomFor (6, [l0, l1], [vI b, vI a], S) = if a < b then rn xX3_hasRoomFor (17, [l0, l1], [], S) else rn xX3_hasRoomFor (9, [l0, l1], [], S) := q_icmp_lt dX3_hasRoomFor_6 (by decide) rfl h h1
theorem eX3_hasRoomFor_9 {a : Option Nat} {l1 : Option VV} {S : MM} : rn xX3_hasRoomFor (9, [some (.inr (.inl a)), l1], [], S) = rn xX3_hasRoomFor (10, [some (.inr (.inl a)), l1], [.inr (.inl a)], S) := rn_step dX3_hasRoomFor_9 rfl rfl
theorem eX3_hasRoomFor_10 {a : Int} {l0 : Option VV} {v0 : VV} {S : MM} : rn xX3_hasRoomFor (10, [l0, some (vI a)], [v0], S) = rn xX3_hasRoomFor (11, [l0, some (vI a)], [vI a, v0], S) := rn_step dX3_hasRoomFor_10 rfl rfl
theorem eX3_hasRoomFor_11 {a0 : Int} {i : Nat} {l0 l1 : Option VV} (h : kd i = 3) {S : MM} : rn xX3_hasRoomFor (11, [l0, l1], [vI a0, vR i], S) = (fX3_repeatsOf [vR i, vI a0] S).bind (fun q => rn xX3_hasRoomFor (14, [l0, l1], q.1.toList ++ [], q.2)) := q_callV (n := 1) (as := [vI a0]) (rest := []) dX3_hasRoomFor_11 rfl rfl rfl rfl h
theorem eX3_hasRoomFor_14 {a : Int} {l0 l1 : Option VV} (h : -2147483648 ≤ a ∧ a ≤ 2147483647) {S : MM} : rn xX3_hasRoomFor (14, [l0, l1], [vI a], S) = if 0 < a then rn xX3_hasRoomFor (17, [l0, l1], [], S) else rn xX3_hasRoomFor (21, [l0, l1], [], S) := q_if_le dX3_hasRoomFor_14 (by decide) rfl h
theorem eX3_hasRoomFor_17 {l0 l1 : Option VV} {S : MM} : rn xX3_hasRoomFor (17, [l0, l1], [], S) = rn xX3_hasRoomFor (18, [l0, l1], [vI 1], S) := rn_step dX3_hasRoomFor_17 rfl rfl
theorem eX3_hasRoomFor_18 {l0 l1 : Option VV} {v0 : VV} {S : MM} : rn xX3_hasRoomFor (18, [l0, l1], [v0], S) = rn xX3_hasRoomFor (22, [l0, l1], [v0], S) := rn_step dX3_hasRoomFor_18 rfl rfl
theorem eX3_hasRoomFor_21 {l0 l1 : Option VV} {S : MM} : rn xX3_hasRoomFor (21, [l0, l1], [], S) = rn xX3_hasRoomFor (22, [l0, l1], [vI 0], S) := rn_step dX3_hasRoomFor_21 rfl rfl
theorem eX3_hasRoomFor_22 {z : Int} {l0 l1 : Option VV} (hz : z = 0 ∨ z = 1) {S : MM} : rn xX3_hasRoomFor (22, [l0, l1], [vI z], S) = some (some (vI z), S) := q_retZ dX3_hasRoomFor_22 rfl hz
noncomputable def qlX3_lay : List CE := [(0, 22, 3, 2, fX3_placeFrom), (0, 26, 3, 2, fX3_keyAt)]
noncomputable def xX3_lay : XX := (cX3_lay, fcF fcl3, mcF qlX3_lay, 0)
noncomputable def fX3_lay : FN := fnX xX3_lay 5
set_option maxRecDepth 100000 in
theorem cwX3_lay : Cond.code yX3_lay cX3_lay 5 none ∈ lw_g := lw_gm 366 (by decide +kernel) (by decide +kernel)
set_option maxRecDepth 100000 in
theorem conX3_lay : Con yX3_lay cX3_lay 5 none { frames := 1, cells := 0, slots := 0, locals := 25 } fX3_lay := con_of (X := xX3_lay) (own := "LeapStones$Path") (ql := qlX3_lay) (by decide) rfl FOK3 rfl (List.forall_mem_cons.mpr ⟨call_V conX3_placeFrom cwX3_placeFrom (lw_gl _ [367, 368, 369, 25] (by decide +kernel) (by decide +kernel)) (by decide) rfl ⟨by decide, by decide, by decide +kernel⟩ ⟨rfl, rfl⟩ ⟨by decide, by decide⟩ ⟨Nat.le_refl _, Nat.le_refl _⟩, List.forall_mem_cons.mpr ⟨call_V conX3_keyAt cwX3_keyAt (lw_gl _ [371, 372, 373, 25] (by decide +kernel) (by decide +kernel)) (by decide) rfl ⟨by decide, by decide, by decide +kernel⟩ ⟨rfl, rfl⟩ ⟨by decide, by decide⟩ ⟨Nat.le_refl _, Nat.le_refl _⟩, fun _ h => absurd h List.not_mem_nil⟩⟩) (Or.inl ⟨rfl, rfl⟩)
theorem uX3_lay {i : Nat} {a0 : Int} {a1 : Int} {S : MM} : fX3_lay [vR i, vI a0, vI a1] S = rn xX3_lay (0, [some (vR i), some (vI a0), some (vI a1), none, none], [], S) := rfl
theorem dX3_lay_0 : decode cX3_lay 0 = .ok (.aload_n 0, 1) := by decide +kernel
theorem dX3_lay_1 : decode cX3_lay 1 = .ok (.iload_n 1, 1) := by decide +kernel
theorem dX3_lay_2 : decode cX3_lay 2 = .ok (.invokevirtual 22, 3) := by decide +kernel
theorem dX3_lay_5 : decode cX3_lay 5 = .ok (.istore_n 3, 1) := by decide +kernel
theorem dX3_lay_6 : decode cX3_lay 6 = .ok (.aload_n 0, 1) := by decide +kernel
theorem dX3_lay_7 : decode cX3_lay 7 = .ok (.iload_n 3, 1) := by decide +kernel
theorem dX3_lay_8 : decode cX3_lay 8 = .ok (.invokevirtual 26, 3) := by decide +kernel
theorem dX3_lay_11 : decode cX3_lay 11 = .ok (.iload_n 1, 1) := by decide +kernel
theorem dX3_lay_12 : decode cX3_lay 12 = .ok (.if_icmp .eq 80, 3) := by decide +kernel
theorem dX3_lay_15 : decode cX3_lay 15 = .ok (.aload_n 0, 1) := by decide +kernel
theorem dX3_lay_16 : decode cX3_lay 16 = .ok (.getfield 18, 3) := by decide +kernel
theorem dX3_lay_19 : decode cX3_lay 19 = .ok (.bipush 40, 2) := by decide +kernel
theorem dX3_lay_21 : decode cX3_lay 21 = .ok (.if_icmp .lt 4, 3) := by decide +kernel
theorem dX3_lay_24 : decode cX3_lay 24 = .ok (.return_, 1) := by decide +kernel
theorem dX3_lay_25 : decode cX3_lay 25 = .ok (.aload_n 0, 1) := by decide +kernel
theorem dX3_lay_26 : decode cX3_lay 26 = .ok (.getfield 18, 3) := by decide +kernel
theorem dX3_lay_29 : decode cX3_lay 29 = .ok (.istore 4, 2) := by decide +kernel
theorem dX3_lay_31 : decode cX3_lay 31 = .ok (.iload 4, 2) := by decide +kernel
theorem dX3_lay_33 : decode cX3_lay 33 = .ok (.iload_n 3, 1) := by decide +kernel
theorem dX3_lay_34 : decode cX3_lay 34 = .ok (.if_icmp .le 41, 3) := by decide +kernel
theorem dX3_lay_37 : decode cX3_lay 37 = .ok (.aload_n 0, 1) := by decide +kernel
theorem dX3_lay_38 : decode cX3_lay 38 = .ok (.getfield 9, 3) := by decide +kernel
theorem dX3_lay_41 : decode cX3_lay 41 = .ok (.iload 4, 2) := by decide +kernel
theorem dX3_lay_43 : decode cX3_lay 43 = .ok (.aload_n 0, 1) := by decide +kernel
theorem dX3_lay_44 : decode cX3_lay 44 = .ok (.getfield 9, 3) := by decide +kernel
theorem dX3_lay_47 : decode cX3_lay 47 = .ok (.iload 4, 2) := by decide +kernel
theorem dX3_lay_49 : decode cX3_lay 49 = .ok (.iconst 1, 1) := by decide +kernel
theorem dX3_lay_50 : decode cX3_lay 50 = .ok (.isub, 1) := by decide +kernel
theorem dX3_lay_51 : decode cX3_lay 51 = .ok (.iaload, 1) := by decide +kernel
theorem dX3_lay_52 : decode cX3_lay 52 = .ok (.iastore, 1) := by decide +kernel
theorem dX3_lay_53 : decode cX3_lay 53 = .ok (.aload_n 0, 1) := by decide +kernel
theorem dX3_lay_54 : decode cX3_lay 54 = .ok (.getfield 15, 3) := by decide +kernel
theorem dX3_lay_57 : decode cX3_lay 57 = .ok (.iload 4, 2) := by decide +kernel
theorem dX3_lay_59 : decode cX3_lay 59 = .ok (.aload_n 0, 1) := by decide +kernel
theorem dX3_lay_60 : decode cX3_lay 60 = .ok (.getfield 15, 3) := by decide +kernel
theorem dX3_lay_63 : decode cX3_lay 63 = .ok (.iload 4, 2) := by decide +kernel
theorem dX3_lay_65 : decode cX3_lay 65 = .ok (.iconst 1, 1) := by decide +kernel
theorem dX3_lay_66 : decode cX3_lay 66 = .ok (.isub, 1) := by decide +kernel
theorem dX3_lay_67 : decode cX3_lay 67 = .ok (.iaload, 1) := by decide +kernel
theorem dX3_lay_68 : decode cX3_lay 68 = .ok (.iastore, 1) := by decide +kernel
theorem dX3_lay_69 : decode cX3_lay 69 = .ok (.iinc 4 (-1), 3) := by decide +kernel
theorem dX3_lay_72 : decode cX3_lay 72 = .ok (.goto (-41), 3) := by decide +kernel
theorem dX3_lay_75 : decode cX3_lay 75 = .ok (.aload_n 0, 1) := by decide +kernel
theorem dX3_lay_76 : decode cX3_lay 76 = .ok (.getfield 9, 3) := by decide +kernel
theorem dX3_lay_79 : decode cX3_lay 79 = .ok (.iload_n 3, 1) := by decide +kernel
theorem dX3_lay_80 : decode cX3_lay 80 = .ok (.iload_n 1, 1) := by decide +kernel
theorem dX3_lay_81 : decode cX3_lay 81 = .ok (.iastore, 1) := by decide +kernel
theorem dX3_lay_82 : decode cX3_lay 82 = .ok (.aload_n 0, 1) := by decide +kernel
theorem dX3_lay_83 : decode cX3_lay 83 = .ok (.dup, 1) := by decide +kernel
theorem dX3_lay_84 : decode cX3_lay 84 = .ok (.getfield 18, 3) := by decide +kernel
theorem dX3_lay_87 : decode cX3_lay 87 = .ok (.iconst 1, 1) := by decide +kernel
theorem dX3_lay_88 : decode cX3_lay 88 = .ok (.iadd, 1) := by decide +kernel
theorem dX3_lay_89 : decode cX3_lay 89 = .ok (.putfield 18, 3) := by decide +kernel
theorem dX3_lay_92 : decode cX3_lay 92 = .ok (.aload_n 0, 1) := by decide +kernel
theorem dX3_lay_93 : decode cX3_lay 93 = .ok (.getfield 15, 3) := by decide +kernel
theorem dX3_lay_96 : decode cX3_lay 96 = .ok (.iload_n 3, 1) := by decide +kernel
theorem dX3_lay_97 : decode cX3_lay 97 = .ok (.iload_n 2, 1) := by decide +kernel
theorem dX3_lay_98 : decode cX3_lay 98 = .ok (.iastore, 1) := by decide +kernel
theorem dX3_lay_99 : decode cX3_lay 99 = .ok (.return_, 1) := by decide +kernel
theorem eX3_lay_0 {a : Option Nat} {l1 l2 l3 l4 : Option VV} {S : MM} : rn xX3_lay (0, [some (.inr (.inl a)), l1, l2, l3, l4], [], S) = rn xX3_lay (1, [some (.inr (.inl a)), l1, l2, l3, l4], [.inr (.inl a)], S) := rn_step dX3_lay_0 rfl rfl
theorem eX3_lay_1 {a : Int} {l0 l2 l3 l4 : Option VV} {v0 : VV} {S : MM} : rn xX3_lay (1, [l0, some (vI a), l2, l3, l4], [v0], S) = rn xX3_lay (2, [l0, some (vI a), l2, l3, l4], [vI a, v0], S) := rn_step dX3_lay_1 rfl rfl
theorem eX3_lay_2 {a0 : Int} {i : Nat} {l0 l1 l2 l3 l4 : Option VV} (h : kd i = 3) {S : MM} : rn xX3_lay (2, [l0, l1, l2, l3, l4], [vI a0, vR i], S) = (fX3_placeFrom [vR i, vI a0] S).bind (fun q => rn xX3_lay (5, [l0, l1, l2, l3, l4], q.1.toList ++ [], q.2)) := q_callV (n := 1) (as := [vI a0]) (rest := []) dX3_lay_2 rfl rfl rfl rfl h
theorem eX3_lay_5 {a : Int} {w : Int} {l0 l1 l3 l4 : Option VV} {S : MM} : rn xX3_lay (5, [l0, l1, some (vI w), l3, l4], [vI a], S) = rn xX3_lay (6, [l0, l1, some (vI w), some (vI a), l4], [], S) := rn_step dX3_lay_5 rfl rfl
theorem eX3_lay_6 {a : Option Nat} {l1 l2 l3 l4 : Option VV} {S : MM} : rn xX3_lay (6, [some (.inr (.inl a)), l1, l2, l3, l4], [], S) = rn xX3_lay (7, [some (.inr (.inl a)), l1, l2, l3, l4], [.inr (.inl a)], S) := rn_step dX3_lay_6 rfl rfl
theorem eX3_lay_7 {a : Int} {l0 l1 l2 l4 : Option VV} {v0 : VV} {S : MM} : rn xX3_lay (7, [l0, l1, l2, some (vI a), l4], [v0], S) = rn xX3_lay (8, [l0, l1, l2, some (vI a), l4], [vI a, v0], S) := rn_step dX3_lay_7 rfl rfl
theorem eX3_lay_8 {a0 : Int} {i : Nat} {l0 l1 l2 l3 l4 : Option VV} (h : kd i = 3) {S : MM} : rn xX3_lay (8, [l0, l1, l2, l3, l4], [vI a0, vR i], S) = (fX3_keyAt [vR i, vI a0] S).bind (fun q => rn xX3_lay (11, [l0, l1, l2, l3, l4], q.1.toList ++ [], q.2)) := q_callV (n := 1) (as := [vI a0]) (rest := []) dX3_lay_8 rfl rfl rfl rfl h
theorem eX3_lay_11 {a : Int} {l0 l2 l3 l4 : Option VV} {v0 : VV} {S : MM} : rn xX3_lay (11, [l0, some (vI a), l2, l3, l4], [v0], S) = rn xX3_lay (12, [l0, some (vI a), l2, l3, l4], [vI a, v0], S) := rn_step dX3_lay_11 rfl rfl
theorem eX3_lay_12 {a b : Int} {l0 l1 l2 l3 l4 : Option VV} (h : -2147483648 ≤ a ∧ a ≤ 2147483647) (h1 : -2147483648 ≤ b ∧ b ≤ 2147483647) {S : MM} : rn xX3_lay (12, [l0, l1, l2, l3, l4], [vI b, vI a], S) = if a = b then rn xX3_lay (92, [l0, l1, l2, l3, l4], [], S) else rn xX3_lay (15, [l0, l1, l2, l3, l4], [], S) := q_icmp_eq dX3_lay_12 (by decide) rfl h h1
theorem eX3_lay_15 {a : Option Nat} {l1 l2 l3 l4 : Option VV} {S : MM} : rn xX3_lay (15, [some (.inr (.inl a)), l1, l2, l3, l4], [], S) = rn xX3_lay (16, [some (.inr (.inl a)), l1, l2, l3, l4], [.inr (.inl a)], S) := rn_step dX3_lay_15 rfl rfl
theorem eX3_lay_16 {i : Nat} {l0 l1 l2 l3 l4 : Option VV} (h : kd i = 3) {S : MM} : rn xX3_lay (16, [l0, l1, l2, l3, l4], [vR i], S) = rn xX3_lay (19, [l0, l1, l2, l3, l4], [vI (S i 2)], S) := q_getI dX3_lay_16 rfl ⟨⟨by decide, by decide⟩, by decide⟩ h
theorem eX3_lay_19 {l0 l1 l2 l3 l4 : Option VV} {v0 : VV} {S : MM} : rn xX3_lay (19, [l0, l1, l2, l3, l4], [v0], S) = rn xX3_lay (21, [l0, l1, l2, l3, l4], [vI 40, v0], S) := rn_step dX3_lay_19 rfl rfl
theorem eX3_lay_21 {a b : Int} {l0 l1 l2 l3 l4 : Option VV} (h : -2147483648 ≤ a ∧ a ≤ 2147483647) (h1 : -2147483648 ≤ b ∧ b ≤ 2147483647) {S : MM} : rn xX3_lay (21, [l0, l1, l2, l3, l4], [vI b, vI a], S) = if a < b then rn xX3_lay (25, [l0, l1, l2, l3, l4], [], S) else rn xX3_lay (24, [l0, l1, l2, l3, l4], [], S) := q_icmp_lt dX3_lay_21 (by decide) rfl h h1
theorem eX3_lay_24 {l0 l1 l2 l3 l4 : Option VV} {S : MM} : rn xX3_lay (24, [l0, l1, l2, l3, l4], [], S) = some (none, S) := q_retV dX3_lay_24 rfl
theorem eX3_lay_25 {a : Option Nat} {l1 l2 l3 l4 : Option VV} {S : MM} : rn xX3_lay (25, [some (.inr (.inl a)), l1, l2, l3, l4], [], S) = rn xX3_lay (26, [some (.inr (.inl a)), l1, l2, l3, l4], [.inr (.inl a)], S) := rn_step dX3_lay_25 rfl rfl
theorem eX3_lay_26 {i : Nat} {l0 l1 l2 l3 l4 : Option VV} (h : kd i = 3) {S : MM} : rn xX3_lay (26, [l0, l1, l2, l3, l4], [vR i], S) = rn xX3_lay (29, [l0, l1, l2, l3, l4], [vI (S i 2)], S) := q_getI dX3_lay_26 rfl ⟨⟨by decide, by decide⟩, by decide⟩ h
theorem eX3_lay_29 {a : Int} {w : Int} {l0 l1 l2 l4 : Option VV} {S : MM} : rn xX3_lay (29, [l0, l1, l2, some (vI w), l4], [vI a], S) = rn xX3_lay (31, [l0, l1, l2, some (vI w), some (vI a)], [], S) := rn_step dX3_lay_29 rfl rfl
theorem eX3_lay_31 {a : Int} {l0 l1 l2 l3 : Option VV} {S : MM} : rn xX3_lay (31, [l0, l1, l2, l3, some (vI a)], [], S) = rn xX3_lay (33, [l0, l1, l2, l3, some (vI a)], [vI a], S) := rn_step dX3_lay_31 rfl rfl
theorem eX3_lay_33 {a : Int} {l0 l1 l2 l4 : Option VV} {v0 : VV} {S : MM} : rn xX3_lay (33, [l0, l1, l2, some (vI a), l4], [v0], S) = rn xX3_lay (34, [l0, l1, l2, some (vI a), l4], [vI a, v0], S) := rn_step dX3_lay_33 rfl rfl
theorem eX3_lay_34 {a b : Int} {l0 l1 l2 l3 l4 : Option VV} (h : -2147483648 ≤ a ∧ a ≤ 2147483647) (h1 : -2147483648 ≤ b ∧ b ≤ 2147483647) {S : MM} : rn xX3_lay (34, [l0, l1, l2, l3, l4], [vI b, vI a], S) = if b < a then rn xX3_lay (37, [l0, l1, l2, l3, l4], [], S) else rn xX3_lay (75, [l0, l1, l2, l3, l4], [], S) := q_icmp_le dX3_lay_34 (by decide) rfl h h1
theorem eX3_lay_37 {a : Option Nat} {l1 l2 l3 l4 : Option VV} {S : MM} : rn xX3_lay (37, [some (.inr (.inl a)), l1, l2, l3, l4], [], S) = rn xX3_lay (38, [some (.inr (.inl a)), l1, l2, l3, l4], [.inr (.inl a)], S) := rn_step dX3_lay_37 rfl rfl
theorem eX3_lay_38 {i : Nat} {l0 l1 l2 l3 l4 : Option VV} (h : kd i = 3) {S : MM} : rn xX3_lay (38, [l0, l1, l2, l3, l4], [vR i], S) = rn xX3_lay (41, [l0, l1, l2, l3, l4], [vR (i + 1)], S) := q_getR dX3_lay_38 rfl ⟨⟨by decide, by decide⟩, by decide⟩ (fun h => (fref3 h).trans (by first | rfl | omega)) h
theorem eX3_lay_41 {a : Int} {l0 l1 l2 l3 : Option VV} {v0 : VV} {S : MM} : rn xX3_lay (41, [l0, l1, l2, l3, some (vI a)], [v0], S) = rn xX3_lay (43, [l0, l1, l2, l3, some (vI a)], [vI a, v0], S) := rn_step dX3_lay_41 rfl rfl
theorem eX3_lay_43 {a : Option Nat} {l1 l2 l3 l4 : Option VV} {v0 v1 : VV} {S : MM} : rn xX3_lay (43, [some (.inr (.inl a)), l1, l2, l3, l4], [v0, v1], S) = rn xX3_lay (44, [some (.inr (.inl a)), l1, l2, l3, l4], [.inr (.inl a), v0, v1], S) := rn_step dX3_lay_43 rfl rfl
theorem eX3_lay_44 {i : Nat} {l0 l1 l2 l3 l4 : Option VV} {v1 v2 : VV} (h : kd i = 3) {S : MM} : rn xX3_lay (44, [l0, l1, l2, l3, l4], [vR i, v1, v2], S) = rn xX3_lay (47, [l0, l1, l2, l3, l4], [vR (i + 1), v1, v2], S) := q_getR dX3_lay_44 rfl ⟨⟨by decide, by decide⟩, by decide⟩ (fun h => (fref3 h).trans (by first | rfl | omega)) h
theorem eX3_lay_47 {a : Int} {l0 l1 l2 l3 : Option VV} {v0 v1 v2 : VV} {S : MM} : rn xX3_lay (47, [l0, l1, l2, l3, some (vI a)], [v0, v1, v2], S) = rn xX3_lay (49, [l0, l1, l2, l3, some (vI a)], [vI a, v0, v1, v2], S) := rn_step dX3_lay_47 rfl rfl
theorem eX3_lay_49 {l0 l1 l2 l3 l4 : Option VV} {v0 v1 v2 v3 : VV} {S : MM} : rn xX3_lay (49, [l0, l1, l2, l3, l4], [v0, v1, v2, v3], S) = rn xX3_lay (50, [l0, l1, l2, l3, l4], [vI 1, v0, v1, v2, v3], S) := rn_step dX3_lay_49 rfl rfl
theorem eX3_lay_50 {a b : Int} {l0 l1 l2 l3 l4 : Option VV} {v2 v3 v4 : VV} {S : MM} : rn xX3_lay (50, [l0, l1, l2, l3, l4], [vI b, vI a, v2, v3, v4], S) = rn xX3_lay (51, [l0, l1, l2, l3, l4], [vI (a - b), v2, v3, v4], S) := rn_step dX3_lay_50 rfl rfl
theorem eX3_lay_51 {i : Nat} {j : Int} {l0 l1 l2 l3 l4 : Option VV} {v2 v3 : VV} (h : kd i = 10) (h0 : 0 ≤ j) (h1 : j < alen i) {S : MM} : rn xX3_lay (51, [l0, l1, l2, l3, l4], [vI j, vR i, v2, v3], S) = rn xX3_lay (52, [l0, l1, l2, l3, l4], [vI (S i j.toNat), v2, v3], S) := q_iald dX3_lay_51 h h0 h1
theorem eX3_lay_51x {j : Int} {l0 l1 l2 l3 l4 : Option VV} {v2 v3 : VV} {S : MM} (h0 : 0 ≤ j) (h1 : j < S 604 0) : rn xX3_lay (51, [l0, l1, l2, l3, l4], [vI j, vR 602, v2, v3], S) = rn xX3_lay (52, [l0, l1, l2, l3, l4], [vI (S 602 j.toNat), v2, v3], S) := q_ialdX dX3_lay_51 h0 h1
theorem eX3_lay_51y {j : Int} {l0 l1 l2 l3 l4 : Option VV} {v2 v3 : VV} {S : MM} (h0 : 0 ≤ j) (h1 : j < S 604 1) : rn xX3_lay (51, [l0, l1, l2, l3, l4], [vI j, vR 603, v2, v3], S) = rn xX3_lay (52, [l0, l1, l2, l3, l4], [vI (S 603 j.toNat), v2, v3], S) := q_ialdY dX3_lay_51 h0 h1
theorem eX3_lay_52 {i : Nat} {j z : Int} {l0 l1 l2 l3 l4 : Option VV} (h : kd i = 10) (h0 : 0 ≤ j) (h1 : j < alen i) {S : MM} : rn xX3_lay (52, [l0, l1, l2, l3, l4], [vI z, vI j, vR i], S) = rn xX3_lay (53, [l0, l1, l2, l3, l4], [], updM S i j.toNat z) := q_iast dX3_lay_52 h h0 h1
theorem eX3_lay_53 {a : Option Nat} {l1 l2 l3 l4 : Option VV} {S : MM} : rn xX3_lay (53, [some (.inr (.inl a)), l1, l2, l3, l4], [], S) = rn xX3_lay (54, [some (.inr (.inl a)), l1, l2, l3, l4], [.inr (.inl a)], S) := rn_step dX3_lay_53 rfl rfl
theorem eX3_lay_54 {i : Nat} {l0 l1 l2 l3 l4 : Option VV} (h : kd i = 3) {S : MM} : rn xX3_lay (54, [l0, l1, l2, l3, l4], [vR i], S) = rn xX3_lay (57, [l0, l1, l2, l3, l4], [vR (i + 2)], S) := q_getR dX3_lay_54 rfl ⟨⟨by decide, by decide⟩, by decide⟩ (fun h => (fref3 h).trans (by first | rfl | omega)) h
theorem eX3_lay_57 {a : Int} {l0 l1 l2 l3 : Option VV} {v0 : VV} {S : MM} : rn xX3_lay (57, [l0, l1, l2, l3, some (vI a)], [v0], S) = rn xX3_lay (59, [l0, l1, l2, l3, some (vI a)], [vI a, v0], S) := rn_step dX3_lay_57 rfl rfl
theorem eX3_lay_59 {a : Option Nat} {l1 l2 l3 l4 : Option VV} {v0 v1 : VV} {S : MM} : rn xX3_lay (59, [some (.inr (.inl a)), l1, l2, l3, l4], [v0, v1], S) = rn xX3_lay (60, [some (.inr (.inl a)), l1, l2, l3, l4], [.inr (.inl a), v0, v1], S) := rn_step dX3_lay_59 rfl rfl
theorem eX3_lay_60 {i : Nat} {l0 l1 l2 l3 l4 : Option VV} {v1 v2 : VV} (h : kd i = 3) {S : MM} : rn xX3_lay (60, [l0, l1, l2, l3, l4], [vR i, v1, v2], S) = rn xX3_lay (63, [l0, l1, l2, l3, l4], [vR (i + 2), v1, v2], S) := q_getR dX3_lay_60 rfl ⟨⟨by decide, by decide⟩, by decide⟩ (fun h => (fref3 h).trans (by first | rfl | omega)) h
theorem eX3_lay_63 {a : Int} {l0 l1 l2 l3 : Option VV} {v0 v1 v2 : VV} {S : MM} : rn xX3_lay (63, [l0, l1, l2, l3, some (vI a)], [v0, v1, v2], S) = rn xX3_lay (65, [l0, l1, l2, l3, some (vI a)], [vI a, v0, v1, v2], S) := rn_step dX3_lay_63 rfl rfl
theorem eX3_lay_65 {l0 l1 l2 l3 l4 : Option VV} {v0 v1 v2 v3 : VV} {S : MM} : rn xX3_lay (65, [l0, l1, l2, l3, l4], [v0, v1, v2, v3], S) = rn xX3_lay (66, [l0, l1, l2, l3, l4], [vI 1, v0, v1, v2, v3], S) := rn_step dX3_lay_65 rfl rfl
theorem eX3_lay_66 {a b : Int} {l0 l1 l2 l3 l4 : Option VV} {v2 v3 v4 : VV} {S : MM} : rn xX3_lay (66, [l0, l1, l2, l3, l4], [vI b, vI a, v2, v3, v4], S) = rn xX3_lay (67, [l0, l1, l2, l3, l4], [vI (a - b), v2, v3, v4], S) := rn_step dX3_lay_66 rfl rfl
theorem eX3_lay_67 {i : Nat} {j : Int} {l0 l1 l2 l3 l4 : Option VV} {v2 v3 : VV} (h : kd i = 10) (h0 : 0 ≤ j) (h1 : j < alen i) {S : MM} : rn xX3_lay (67, [l0, l1, l2, l3, l4], [vI j, vR i, v2, v3], S) = rn xX3_lay (68, [l0, l1, l2, l3, l4], [vI (S i j.toNat), v2, v3], S) := q_iald dX3_lay_67 h h0 h1
theorem eX3_lay_67x {j : Int} {l0 l1 l2 l3 l4 : Option VV} {v2 v3 : VV} {S : MM} (h0 : 0 ≤ j) (h1 : j < S 604 0) : rn xX3_lay (67, [l0, l1, l2, l3, l4], [vI j, vR 602, v2, v3], S) = rn xX3_lay (68, [l0, l1, l2, l3, l4], [vI (S 602 j.toNat), v2, v3], S) := q_ialdX dX3_lay_67 h0 h1
theorem eX3_lay_67y {j : Int} {l0 l1 l2 l3 l4 : Option VV} {v2 v3 : VV} {S : MM} (h0 : 0 ≤ j) (h1 : j < S 604 1) : rn xX3_lay (67, [l0, l1, l2, l3, l4], [vI j, vR 603, v2, v3], S) = rn xX3_lay (68, [l0, l1, l2, l3, l4], [vI (S 603 j.toNat), v2, v3], S) := q_ialdY dX3_lay_67 h0 h1
theorem eX3_lay_68 {i : Nat} {j z : Int} {l0 l1 l2 l3 l4 : Option VV} (h : kd i = 10) (h0 : 0 ≤ j) (h1 : j < alen i) {S : MM} : rn xX3_lay (68, [l0, l1, l2, l3, l4], [vI z, vI j, vR i], S) = rn xX3_lay (69, [l0, l1, l2, l3, l4], [], updM S i j.toNat z) := q_iast dX3_lay_68 h h0 h1
theorem eX3_lay_69 {a : Int} {w : Int} {l0 l1 l2 : Option VV} {S : MM} : rn xX3_lay (69, [l0, l1, l2, some (vI w), some (vI a)], [], S) = rn xX3_lay (72, [l0, l1, l2, some (vI w), some (vI (a + (-1)))], [], S) := rn_step dX3_lay_69 rfl rfl
theorem eX3_lay_72 {l0 l1 l2 l3 l4 : Option VV} {S : MM} : rn xX3_lay (72, [l0, l1, l2, l3, l4], [], S) = rn xX3_lay (31, [l0, l1, l2, l3, l4], [], S) := rn_step dX3_lay_72 rfl rfl
theorem eX3_lay_75 {a : Option Nat} {l1 l2 l3 l4 : Option VV} {S : MM} : rn xX3_lay (75, [some (.inr (.inl a)), l1, l2, l3, l4], [], S) = rn xX3_lay (76, [some (.inr (.inl a)), l1, l2, l3, l4], [.inr (.inl a)], S) := rn_step dX3_lay_75 rfl rfl
theorem eX3_lay_76 {i : Nat} {l0 l1 l2 l3 l4 : Option VV} (h : kd i = 3) {S : MM} : rn xX3_lay (76, [l0, l1, l2, l3, l4], [vR i], S) = rn xX3_lay (79, [l0, l1, l2, l3, l4], [vR (i + 1)], S) := q_getR dX3_lay_76 rfl ⟨⟨by decide, by decide⟩, by decide⟩ (fun h => (fref3 h).trans (by first | rfl | omega)) h
theorem eX3_lay_79 {a : Int} {l0 l1 l2 l4 : Option VV} {v0 : VV} {S : MM} : rn xX3_lay (79, [l0, l1, l2, some (vI a), l4], [v0], S) = rn xX3_lay (80, [l0, l1, l2, some (vI a), l4], [vI a, v0], S) := rn_step dX3_lay_79 rfl rfl
theorem eX3_lay_80 {a : Int} {l0 l2 l3 l4 : Option VV} {v0 v1 : VV} {S : MM} : rn xX3_lay (80, [l0, some (vI a), l2, l3, l4], [v0, v1], S) = rn xX3_lay (81, [l0, some (vI a), l2, l3, l4], [vI a, v0, v1], S) := rn_step dX3_lay_80 rfl rfl
theorem eX3_lay_81 {i : Nat} {j z : Int} {l0 l1 l2 l3 l4 : Option VV} (h : kd i = 10) (h0 : 0 ≤ j) (h1 : j < alen i) {S : MM} : rn xX3_lay (81, [l0, l1, l2, l3, l4], [vI z, vI j, vR i], S) = rn xX3_lay (82, [l0, l1, l2, l3, l4], [], updM S i j.toNat z) := q_iast dX3_lay_81 h h0 h1
theorem eX3_lay_82 {a : Option Nat} {l1 l2 l3 l4 : Option VV} {S : MM} : rn xX3_lay (82, [some (.inr (.inl a)), l1, l2, l3, l4], [], S) = rn xX3_lay (83, [some (.inr (.inl a)), l1, l2, l3, l4], [.inr (.inl a)], S) := rn_step dX3_lay_82 rfl rfl
theorem eX3_lay_83 {a : Option Nat} {l0 l1 l2 l3 l4 : Option VV} {S : MM} : rn xX3_lay (83, [l0, l1, l2, l3, l4], [.inr (.inl a)], S) = rn xX3_lay (84, [l0, l1, l2, l3, l4], [.inr (.inl a), .inr (.inl a)], S) := rn_step dX3_lay_83 rfl rfl
theorem eX3_lay_84 {i : Nat} {l0 l1 l2 l3 l4 : Option VV} {v1 : VV} (h : kd i = 3) {S : MM} : rn xX3_lay (84, [l0, l1, l2, l3, l4], [vR i, v1], S) = rn xX3_lay (87, [l0, l1, l2, l3, l4], [vI (S i 2), v1], S) := q_getI dX3_lay_84 rfl ⟨⟨by decide, by decide⟩, by decide⟩ h
theorem eX3_lay_87 {l0 l1 l2 l3 l4 : Option VV} {v0 v1 : VV} {S : MM} : rn xX3_lay (87, [l0, l1, l2, l3, l4], [v0, v1], S) = rn xX3_lay (88, [l0, l1, l2, l3, l4], [vI 1, v0, v1], S) := rn_step dX3_lay_87 rfl rfl
theorem eX3_lay_88 {a b : Int} {l0 l1 l2 l3 l4 : Option VV} {v2 : VV} {S : MM} : rn xX3_lay (88, [l0, l1, l2, l3, l4], [vI b, vI a, v2], S) = rn xX3_lay (89, [l0, l1, l2, l3, l4], [vI (a + b), v2], S) := rn_step dX3_lay_88 rfl rfl
theorem eX3_lay_89 {z : Int} {i : Nat} {l0 l1 l2 l3 l4 : Option VV} (h : kd i = 3) {S : MM} : rn xX3_lay (89, [l0, l1, l2, l3, l4], [vI z, vR i], S) = rn xX3_lay (92, [l0, l1, l2, l3, l4], [], updM S i 2 z) := q_put dX3_lay_89 rfl ⟨by decide, by decide⟩ rfl h
theorem eX3_lay_92 {a : Option Nat} {l1 l2 l3 l4 : Option VV} {S : MM} : rn xX3_lay (92, [some (.inr (.inl a)), l1, l2, l3, l4], [], S) = rn xX3_lay (93, [some (.inr (.inl a)), l1, l2, l3, l4], [.inr (.inl a)], S) := rn_step dX3_lay_92 rfl rfl
theorem eX3_lay_93 {i : Nat} {l0 l1 l2 l3 l4 : Option VV} (h : kd i = 3) {S : MM} : rn xX3_lay (93, [l0, l1, l2, l3, l4], [vR i], S) = rn xX3_lay (96, [l0, l1, l2, l3, l4], [vR (i + 2)], S) := q_getR dX3_lay_93 rfl ⟨⟨by decide, by decide⟩, by decide⟩ (fun h => (fref3 h).trans (by first | rfl | omega)) h
theorem eX3_lay_96 {a : Int} {l0 l1 l2 l4 : Option VV} {v0 : VV} {S : MM} : rn xX3_lay (96, [l0, l1, l2, some (vI a), l4], [v0], S) = rn xX3_lay (97, [l0, l1, l2, some (vI a), l4], [vI a, v0], S) := rn_step dX3_lay_96 rfl rfl
theorem eX3_lay_97 {a : Int} {l0 l1 l3 l4 : Option VV} {v0 v1 : VV} {S : MM} : rn xX3_lay (97, [l0, l1, some (vI a), l3, l4], [v0, v1], S) = rn xX3_lay (98, [l0, l1, some (vI a), l3, l4], [vI a, v0, v1], S) := rn_step dX3_lay_97 rfl rfl
theorem eX3_lay_98 {i : Nat} {j z : Int} {l0 l1 l2 l3 l4 : Option VV} (h : kd i = 10) (h0 : 0 ≤ j) (h1 : j < alen i) {S : MM} : rn xX3_lay (98, [l0, l1, l2, l3, l4], [vI z, vI j, vR i], S) = rn xX3_lay (99, [l0, l1, l2, l3, l4], [], updM S i j.toNat z) := q_iast dX3_lay_98 h h0 h1
theorem eX3_lay_99 {l0 l1 l2 l3 l4 : Option VV} {S : MM} : rn xX3_lay (99, [l0, l1, l2, l3, l4], [], S) = some (none, S) := q_retV dX3_lay_99 rfl
noncomputable def qlX3_moveTo : List CE := [(1, 32, 0, 3, fX8_isBetween), (0, 36, 3, 3, fX3_lay)]
noncomputable def xX3_moveTo : XX := (cX3_moveTo, fcF fcl3, mcF qlX3_moveTo, 0)
noncomputable def fX3_moveTo : FN := fnX xX3_moveTo 6
set_option maxRecDepth 100000 in
theorem cwX3_moveTo : Cond.code yX3_moveTo cX3_moveTo 6 none ∈ lw_g := lw_gm 456 (by decide +kernel) (by decide +kernel)
set_option maxRecDepth 100000 in
theorem conX3_moveTo : Con yX3_moveTo cX3_moveTo 6 none { frames := 2, cells := 0, slots := 0, locals := 49 } fX3_moveTo := con_of (X := xX3_moveTo) (own := "LeapStones$Path") (ql := qlX3_moveTo) (by decide) rfl FOK3 rfl (List.forall_mem_cons.mpr ⟨call_N conX8_isBetween cwX8_isBetween (lw_gl _ [251, 21] (by decide +kernel) (by decide +kernel)) (List.mem_of_getElem? (i := 22) (by decide +kernel)) ⟨by decide, by decide, by decide +kernel⟩ ⟨rfl, rfl⟩ ⟨by decide, by decide⟩ ⟨Nat.le_refl _, Nat.le_refl _⟩, List.forall_mem_cons.mpr ⟨call_V conX3_lay cwX3_lay (lw_gl _ [458, 364, 365, 25] (by decide +kernel) (by decide +kernel)) (by decide) rfl ⟨by decide, by decide, by decide +kernel⟩ ⟨rfl, rfl⟩ ⟨by decide, by decide⟩ ⟨Nat.le_refl _, Nat.le_refl _⟩, fun _ h => absurd h List.not_mem_nil⟩⟩) (Or.inl ⟨rfl, rfl⟩)
theorem uX3_moveTo {i : Nat} {a0 : Option Nat} {a1 : Int} {a2 : Int} {S : MM} : fX3_moveTo [vR i, .inr (.inl a0), vI a1, vI a2] S = rn xX3_moveTo (0, [some (vR i), some (.inr (.inl a0)), some (vI a1), some (vI a2), none, none], [], S) := rfl
theorem dX3_moveTo_0 : decode cX3_moveTo 0 = .ok (.iconst 0, 1) := by decide +kernel
theorem dX3_moveTo_1 : decode cX3_moveTo 1 = .ok (.istore 4, 2) := by decide +kernel
theorem dX3_moveTo_3 : decode cX3_moveTo 3 = .ok (.iconst 0, 1) := by decide +kernel
theorem dX3_moveTo_4 : decode cX3_moveTo 4 = .ok (.istore 5, 2) := by decide +kernel
theorem dX3_moveTo_6 : decode cX3_moveTo 6 = .ok (.iload 5, 2) := by decide +kernel
theorem dX3_moveTo_8 : decode cX3_moveTo 8 = .ok (.aload_n 0, 1) := by decide +kernel
theorem dX3_moveTo_9 : decode cX3_moveTo 9 = .ok (.getfield 18, 3) := by decide +kernel
theorem dX3_moveTo_12 : decode cX3_moveTo 12 = .ok (.if_icmp .ge 76, 3) := by decide +kernel
theorem dX3_moveTo_15 : decode cX3_moveTo 15 = .ok (.aload_n 0, 1) := by decide +kernel
theorem dX3_moveTo_16 : decode cX3_moveTo 16 = .ok (.getfield 9, 3) := by decide +kernel
theorem dX3_moveTo_19 : decode cX3_moveTo 19 = .ok (.iload 5, 2) := by decide +kernel
theorem dX3_moveTo_21 : decode cX3_moveTo 21 = .ok (.iaload, 1) := by decide +kernel
theorem dX3_moveTo_22 : decode cX3_moveTo 22 = .ok (.iload_n 2, 1) := by decide +kernel
theorem dX3_moveTo_23 : decode cX3_moveTo 23 = .ok (.iload_n 3, 1) := by decide +kernel
theorem dX3_moveTo_24 : decode cX3_moveTo 24 = .ok (.invokestatic 32, 3) := by decide +kernel
theorem dX3_moveTo_27 : decode cX3_moveTo 27 = .ok (.ifCond .eq 24, 3) := by decide +kernel
theorem dX3_moveTo_30 : decode cX3_moveTo 30 = .ok (.aload_n 1, 1) := by decide +kernel
theorem dX3_moveTo_31 : decode cX3_moveTo 31 = .ok (.aload_n 0, 1) := by decide +kernel
theorem dX3_moveTo_32 : decode cX3_moveTo 32 = .ok (.getfield 9, 3) := by decide +kernel
theorem dX3_moveTo_35 : decode cX3_moveTo 35 = .ok (.iload 5, 2) := by decide +kernel
theorem dX3_moveTo_37 : decode cX3_moveTo 37 = .ok (.iaload, 1) := by decide +kernel
theorem dX3_moveTo_38 : decode cX3_moveTo 38 = .ok (.aload_n 0, 1) := by decide +kernel
theorem dX3_moveTo_39 : decode cX3_moveTo 39 = .ok (.getfield 15, 3) := by decide +kernel
theorem dX3_moveTo_42 : decode cX3_moveTo 42 = .ok (.iload 5, 2) := by decide +kernel
theorem dX3_moveTo_44 : decode cX3_moveTo 44 = .ok (.iaload, 1) := by decide +kernel
theorem dX3_moveTo_45 : decode cX3_moveTo 45 = .ok (.invokevirtual 36, 3) := by decide +kernel
theorem dX3_moveTo_48 : decode cX3_moveTo 48 = .ok (.goto 34, 3) := by decide +kernel
theorem dX3_moveTo_51 : decode cX3_moveTo 51 = .ok (.aload_n 0, 1) := by decide +kernel
theorem dX3_moveTo_52 : decode cX3_moveTo 52 = .ok (.getfield 9, 3) := by decide +kernel
theorem dX3_moveTo_55 : decode cX3_moveTo 55 = .ok (.iload 4, 2) := by decide +kernel
theorem dX3_moveTo_57 : decode cX3_moveTo 57 = .ok (.aload_n 0, 1) := by decide +kernel
theorem dX3_moveTo_58 : decode cX3_moveTo 58 = .ok (.getfield 9, 3) := by decide +kernel
theorem dX3_moveTo_61 : decode cX3_moveTo 61 = .ok (.iload 5, 2) := by decide +kernel
theorem dX3_moveTo_63 : decode cX3_moveTo 63 = .ok (.iaload, 1) := by decide +kernel
theorem dX3_moveTo_64 : decode cX3_moveTo 64 = .ok (.iastore, 1) := by decide +kernel
theorem dX3_moveTo_65 : decode cX3_moveTo 65 = .ok (.aload_n 0, 1) := by decide +kernel
theorem dX3_moveTo_66 : decode cX3_moveTo 66 = .ok (.getfield 15, 3) := by decide +kernel
theorem dX3_moveTo_69 : decode cX3_moveTo 69 = .ok (.iload 4, 2) := by decide +kernel
theorem dX3_moveTo_71 : decode cX3_moveTo 71 = .ok (.aload_n 0, 1) := by decide +kernel
theorem dX3_moveTo_72 : decode cX3_moveTo 72 = .ok (.getfield 15, 3) := by decide +kernel
theorem dX3_moveTo_75 : decode cX3_moveTo 75 = .ok (.iload 5, 2) := by decide +kernel
theorem dX3_moveTo_77 : decode cX3_moveTo 77 = .ok (.iaload, 1) := by decide +kernel
theorem dX3_moveTo_78 : decode cX3_moveTo 78 = .ok (.iastore, 1) := by decide +kernel
theorem dX3_moveTo_79 : decode cX3_moveTo 79 = .ok (.iinc 4 1, 3) := by decide +kernel
theorem dX3_moveTo_82 : decode cX3_moveTo 82 = .ok (.iinc 5 1, 3) := by decide +kernel
theorem dX3_moveTo_85 : decode cX3_moveTo 85 = .ok (.goto (-79), 3) := by decide +kernel
theorem dX3_moveTo_88 : decode cX3_moveTo 88 = .ok (.aload_n 0, 1) := by decide +kernel
theorem dX3_moveTo_89 : decode cX3_moveTo 89 = .ok (.iload 4, 2) := by decide +kernel
theorem dX3_moveTo_91 : decode cX3_moveTo 91 = .ok (.putfield 18, 3) := by decide +kernel
theorem dX3_moveTo_94 : decode cX3_moveTo 94 = .ok (.return_, 1) := by decide +kernel
theorem eX3_moveTo_0 {l0 l1 l2 l3 l4 l5 : Option VV} {S : MM} : rn xX3_moveTo (0, [l0, l1, l2, l3, l4, l5], [], S) = rn xX3_moveTo (1, [l0, l1, l2, l3, l4, l5], [vI 0], S) := rn_step dX3_moveTo_0 rfl rfl
theorem eX3_moveTo_1 {a : Int} {w : Int} {l0 l1 l2 l4 l5 : Option VV} {S : MM} : rn xX3_moveTo (1, [l0, l1, l2, some (vI w), l4, l5], [vI a], S) = rn xX3_moveTo (3, [l0, l1, l2, some (vI w), some (vI a), l5], [], S) := rn_step dX3_moveTo_1 rfl rfl
theorem eX3_moveTo_3 {l0 l1 l2 l3 l4 l5 : Option VV} {S : MM} : rn xX3_moveTo (3, [l0, l1, l2, l3, l4, l5], [], S) = rn xX3_moveTo (4, [l0, l1, l2, l3, l4, l5], [vI 0], S) := rn_step dX3_moveTo_3 rfl rfl
theorem eX3_moveTo_4 {a : Int} {w : Int} {l0 l1 l2 l3 l5 : Option VV} {S : MM} : rn xX3_moveTo (4, [l0, l1, l2, l3, some (vI w), l5], [vI a], S) = rn xX3_moveTo (6, [l0, l1, l2, l3, some (vI w), some (vI a)], [], S) := rn_step dX3_moveTo_4 rfl rfl
theorem eX3_moveTo_6 {a : Int} {l0 l1 l2 l3 l4 : Option VV} {S : MM} : rn xX3_moveTo (6, [l0, l1, l2, l3, l4, some (vI a)], [], S) = rn xX3_moveTo (8, [l0, l1, l2, l3, l4, some (vI a)], [vI a], S) := rn_step dX3_moveTo_6 rfl rfl
theorem eX3_moveTo_8 {a : Option Nat} {l1 l2 l3 l4 l5 : Option VV} {v0 : VV} {S : MM} : rn xX3_moveTo (8, [some (.inr (.inl a)), l1, l2, l3, l4, l5], [v0], S) = rn xX3_moveTo (9, [some (.inr (.inl a)), l1, l2, l3, l4, l5], [.inr (.inl a), v0], S) := rn_step dX3_moveTo_8 rfl rfl
theorem eX3_moveTo_9 {i : Nat} {l0 l1 l2 l3 l4 l5 : Option VV} {v1 : VV} (h : kd i = 3) {S : MM} : rn xX3_moveTo (9, [l0, l1, l2, l3, l4, l5], [vR i, v1], S) = rn xX3_moveTo (12, [l0, l1, l2, l3, l4, l5], [vI (S i 2), v1], S) := q_getI dX3_moveTo_9 rfl ⟨⟨by decide, by decide⟩, by decide⟩ h
theorem eX3_moveTo_12 {a b : Int} {l0 l1 l2 l3 l4 l5 : Option VV} (h : -2147483648 ≤ a ∧ a ≤ 2147483647) (h1 : -2147483648 ≤ b ∧ b ≤ 2147483647) {S : MM} : rn xX3_moveTo (12, [l0, l1, l2, l3, l4, l5], [vI b, vI a], S) = if a < b then rn xX3_moveTo (15, [l0, l1, l2, l3, l4, l5], [], S) else rn xX3_moveTo (88, [l0, l1, l2, l3, l4, l5], [], S) := q_icmp_ge dX3_moveTo_12 (by decide) rfl h h1
theorem eX3_moveTo_15 {a : Option Nat} {l1 l2 l3 l4 l5 : Option VV} {S : MM} : rn xX3_moveTo (15, [some (.inr (.inl a)), l1, l2, l3, l4, l5], [], S) = rn xX3_moveTo (16, [some (.inr (.inl a)), l1, l2, l3, l4, l5], [.inr (.inl a)], S) := rn_step dX3_moveTo_15 rfl rfl
theorem eX3_moveTo_16 {i : Nat} {l0 l1 l2 l3 l4 l5 : Option VV} (h : kd i = 3) {S : MM} : rn xX3_moveTo (16, [l0, l1, l2, l3, l4, l5], [vR i], S) = rn xX3_moveTo (19, [l0, l1, l2, l3, l4, l5], [vR (i + 1)], S) := q_getR dX3_moveTo_16 rfl ⟨⟨by decide, by decide⟩, by decide⟩ (fun h => (fref3 h).trans (by first | rfl | omega)) h
theorem eX3_moveTo_19 {a : Int} {l0 l1 l2 l3 l4 : Option VV} {v0 : VV} {S : MM} : rn xX3_moveTo (19, [l0, l1, l2, l3, l4, some (vI a)], [v0], S) = rn xX3_moveTo (21, [l0, l1, l2, l3, l4, some (vI a)], [vI a, v0], S) := rn_step dX3_moveTo_19 rfl rfl
theorem eX3_moveTo_21 {i : Nat} {j : Int} {l0 l1 l2 l3 l4 l5 : Option VV} (h : kd i = 10) (h0 : 0 ≤ j) (h1 : j < alen i) {S : MM} : rn xX3_moveTo (21, [l0, l1, l2, l3, l4, l5], [vI j, vR i], S) = rn xX3_moveTo (22, [l0, l1, l2, l3, l4, l5], [vI (S i j.toNat)], S) := q_iald dX3_moveTo_21 h h0 h1
theorem eX3_moveTo_21x {j : Int} {l0 l1 l2 l3 l4 l5 : Option VV} {S : MM} (h0 : 0 ≤ j) (h1 : j < S 604 0) : rn xX3_moveTo (21, [l0, l1, l2, l3, l4, l5], [vI j, vR 602], S) = rn xX3_moveTo (22, [l0, l1, l2, l3, l4, l5], [vI (S 602 j.toNat)], S) := q_ialdX dX3_moveTo_21 h0 h1
theorem eX3_moveTo_21y {j : Int} {l0 l1 l2 l3 l4 l5 : Option VV} {S : MM} (h0 : 0 ≤ j) (h1 : j < S 604 1) : rn xX3_moveTo (21, [l0, l1, l2, l3, l4, l5], [vI j, vR 603], S) = rn xX3_moveTo (22, [l0, l1, l2, l3, l4, l5], [vI (S 603 j.toNat)], S) := q_ialdY dX3_moveTo_21 h0 h1
theorem eX3_moveTo_22 {a : Int} {l0 l1 l3 l4 l5 : Option VV} {v0 : VV} {S : MM} : rn xX3_moveTo (22, [l0, l1, some (vI a), l3, l4, l5], [v0], S) = rn xX3_moveTo (23, [l0, l1, some (vI a), l3, l4, l5], [vI a, v0], S) := rn_step dX3_moveTo_22 rfl rfl
theorem eX3_moveTo_23 {a : Int} {l0 l1 l2 l4 l5 : Option VV} {v0 v1 : VV} {S : MM} : rn xX3_moveTo (23, [l0, l1, l2, some (vI a), l4, l5], [v0, v1], S) = rn xX3_moveTo (24, [l0, l1, l2, some (vI a), l4, l5], [vI a, v0, v1], S) := rn_step dX3_moveTo_23 rfl rfl
theorem eX3_moveTo_24 {a0 : Int} {a1 : Int} {a2 : Int} {l0 l1 l2 l3 l4 l5 : Option VV} {S : MM} : rn xX3_moveTo (24, [l0, l1, l2, l3, l4, l5], [vI a2, vI a1, vI a0], S) = (fX8_isBetween [vI a0, vI a1, vI a2] S).bind (fun q => rn xX3_moveTo (27, [l0, l1, l2, l3, l4, l5], q.1.toList ++ [], q.2)) := q_callS (n := 3) (as := [vI a0, vI a1, vI a2]) (rest := []) dX3_moveTo_24 rfl rfl rfl rfl
theorem eX3_moveTo_27 {a : Int} {l0 l1 l2 l3 l4 l5 : Option VV} (h : -2147483648 ≤ a ∧ a ≤ 2147483647) {S : MM} : rn xX3_moveTo (27, [l0, l1, l2, l3, l4, l5], [vI a], S) = if a = 0 then rn xX3_moveTo (51, [l0, l1, l2, l3, l4, l5], [], S) else rn xX3_moveTo (30, [l0, l1, l2, l3, l4, l5], [], S) := q_if_eq dX3_moveTo_27 (by decide) rfl h
theorem eX3_moveTo_30 {a : Option Nat} {l0 l2 l3 l4 l5 : Option VV} {S : MM} : rn xX3_moveTo (30, [l0, some (.inr (.inl a)), l2, l3, l4, l5], [], S) = rn xX3_moveTo (31, [l0, some (.inr (.inl a)), l2, l3, l4, l5], [.inr (.inl a)], S) := rn_step dX3_moveTo_30 rfl rfl
theorem eX3_moveTo_31 {a : Option Nat} {l1 l2 l3 l4 l5 : Option VV} {v0 : VV} {S : MM} : rn xX3_moveTo (31, [some (.inr (.inl a)), l1, l2, l3, l4, l5], [v0], S) = rn xX3_moveTo (32, [some (.inr (.inl a)), l1, l2, l3, l4, l5], [.inr (.inl a), v0], S) := rn_step dX3_moveTo_31 rfl rfl
theorem eX3_moveTo_32 {i : Nat} {l0 l1 l2 l3 l4 l5 : Option VV} {v1 : VV} (h : kd i = 3) {S : MM} : rn xX3_moveTo (32, [l0, l1, l2, l3, l4, l5], [vR i, v1], S) = rn xX3_moveTo (35, [l0, l1, l2, l3, l4, l5], [vR (i + 1), v1], S) := q_getR dX3_moveTo_32 rfl ⟨⟨by decide, by decide⟩, by decide⟩ (fun h => (fref3 h).trans (by first | rfl | omega)) h
theorem eX3_moveTo_35 {a : Int} {l0 l1 l2 l3 l4 : Option VV} {v0 v1 : VV} {S : MM} : rn xX3_moveTo (35, [l0, l1, l2, l3, l4, some (vI a)], [v0, v1], S) = rn xX3_moveTo (37, [l0, l1, l2, l3, l4, some (vI a)], [vI a, v0, v1], S) := rn_step dX3_moveTo_35 rfl rfl
theorem eX3_moveTo_37 {i : Nat} {j : Int} {l0 l1 l2 l3 l4 l5 : Option VV} {v2 : VV} (h : kd i = 10) (h0 : 0 ≤ j) (h1 : j < alen i) {S : MM} : rn xX3_moveTo (37, [l0, l1, l2, l3, l4, l5], [vI j, vR i, v2], S) = rn xX3_moveTo (38, [l0, l1, l2, l3, l4, l5], [vI (S i j.toNat), v2], S) := q_iald dX3_moveTo_37 h h0 h1
theorem eX3_moveTo_37x {j : Int} {l0 l1 l2 l3 l4 l5 : Option VV} {v2 : VV} {S : MM} (h0 : 0 ≤ j) (h1 : j < S 604 0) : rn xX3_moveTo (37, [l0, l1, l2, l3, l4, l5], [vI j, vR 602, v2], S) = rn xX3_moveTo (38, [l0, l1, l2, l3, l4, l5], [vI (S 602 j.toNat), v2], S) := q_ialdX dX3_moveTo_37 h0 h1
theorem eX3_moveTo_37y {j : Int} {l0 l1 l2 l3 l4 l5 : Option VV} {v2 : VV} {S : MM} (h0 : 0 ≤ j) (h1 : j < S 604 1) : rn xX3_moveTo (37, [l0, l1, l2, l3, l4, l5], [vI j, vR 603, v2], S) = rn xX3_moveTo (38, [l0, l1, l2, l3, l4, l5], [vI (S 603 j.toNat), v2], S) := q_ialdY dX3_moveTo_37 h0 h1
theorem eX3_moveTo_38 {a : Option Nat} {l1 l2 l3 l4 l5 : Option VV} {v0 v1 : VV} {S : MM} : rn xX3_moveTo (38, [some (.inr (.inl a)), l1, l2, l3, l4, l5], [v0, v1], S) = rn xX3_moveTo (39, [some (.inr (.inl a)), l1, l2, l3, l4, l5], [.inr (.inl a), v0, v1], S) := rn_step dX3_moveTo_38 rfl rfl
theorem eX3_moveTo_39 {i : Nat} {l0 l1 l2 l3 l4 l5 : Option VV} {v1 v2 : VV} (h : kd i = 3) {S : MM} : rn xX3_moveTo (39, [l0, l1, l2, l3, l4, l5], [vR i, v1, v2], S) = rn xX3_moveTo (42, [l0, l1, l2, l3, l4, l5], [vR (i + 2), v1, v2], S) := q_getR dX3_moveTo_39 rfl ⟨⟨by decide, by decide⟩, by decide⟩ (fun h => (fref3 h).trans (by first | rfl | omega)) h
theorem eX3_moveTo_42 {a : Int} {l0 l1 l2 l3 l4 : Option VV} {v0 v1 v2 : VV} {S : MM} : rn xX3_moveTo (42, [l0, l1, l2, l3, l4, some (vI a)], [v0, v1, v2], S) = rn xX3_moveTo (44, [l0, l1, l2, l3, l4, some (vI a)], [vI a, v0, v1, v2], S) := rn_step dX3_moveTo_42 rfl rfl
theorem eX3_moveTo_44 {i : Nat} {j : Int} {l0 l1 l2 l3 l4 l5 : Option VV} {v2 v3 : VV} (h : kd i = 10) (h0 : 0 ≤ j) (h1 : j < alen i) {S : MM} : rn xX3_moveTo (44, [l0, l1, l2, l3, l4, l5], [vI j, vR i, v2, v3], S) = rn xX3_moveTo (45, [l0, l1, l2, l3, l4, l5], [vI (S i j.toNat), v2, v3], S) := q_iald dX3_moveTo_44 h h0 h1
theorem eX3_moveTo_44x {j : Int} {l0 l1 l2 l3 l4 l5 : Option VV} {v2 v3 : VV} {S : MM} (h0 : 0 ≤ j) (h1 : j < S 604 0) : rn xX3_moveTo (44, [l0, l1, l2, l3, l4, l5], [vI j, vR 602, v2, v3], S) = rn xX3_moveTo (45, [l0, l1, l2, l3, l4, l5], [vI (S 602 j.toNat), v2, v3], S) := q_ialdX dX3_moveTo_44 h0 h1
theorem eX3_moveTo_44y {j : Int} {l0 l1 l2 l3 l4 l5 : Option VV} {v2 v3 : VV} {S : MM} (h0 : 0 ≤ j) (h1 : j < S 604 1) : rn xX3_moveTo (44, [l0, l1, l2, l3, l4, l5], [vI j, vR 603, v2, v3], S) = rn xX3_moveTo (45, [l0, l1, l2, l3, l4, l5], [vI (S 603 j.toNat), v2, v3], S) := q_ialdY dX3_moveTo_44 h0 h1
theorem eX3_moveTo_45 {a0 : Int} {a1 : Int} {i : Nat} {l0 l1 l2 l3 l4 l5 : Option VV} (h : kd i = 3) {S : MM} : rn xX3_moveTo (45, [l0, l1, l2, l3, l4, l5], [vI a1, vI a0, vR i], S) = (fX3_lay [vR i, vI a0, vI a1] S).bind (fun q => rn xX3_moveTo (48, [l0, l1, l2, l3, l4, l5], q.1.toList ++ [], q.2)) := q_callV (n := 2) (as := [vI a0, vI a1]) (rest := []) dX3_moveTo_45 rfl rfl rfl rfl h
theorem eX3_moveTo_48 {l0 l1 l2 l3 l4 l5 : Option VV} {S : MM} : rn xX3_moveTo (48, [l0, l1, l2, l3, l4, l5], [], S) = rn xX3_moveTo (82, [l0, l1, l2, l3, l4, l5], [], S) := rn_step dX3_moveTo_48 rfl rfl
theorem eX3_moveTo_51 {a : Option Nat} {l1 l2 l3 l4 l5 : Option VV} {S : MM} : rn xX3_moveTo (51, [some (.inr (.inl a)), l1, l2, l3, l4, l5], [], S) = rn xX3_moveTo (52, [some (.inr (.inl a)), l1, l2, l3, l4, l5], [.inr (.inl a)], S) := rn_step dX3_moveTo_51 rfl rfl
theorem eX3_moveTo_52 {i : Nat} {l0 l1 l2 l3 l4 l5 : Option VV} (h : kd i = 3) {S : MM} : rn xX3_moveTo (52, [l0, l1, l2, l3, l4, l5], [vR i], S) = rn xX3_moveTo (55, [l0, l1, l2, l3, l4, l5], [vR (i + 1)], S) := q_getR dX3_moveTo_52 rfl ⟨⟨by decide, by decide⟩, by decide⟩ (fun h => (fref3 h).trans (by first | rfl | omega)) h
theorem eX3_moveTo_55 {a : Int} {l0 l1 l2 l3 l5 : Option VV} {v0 : VV} {S : MM} : rn xX3_moveTo (55, [l0, l1, l2, l3, some (vI a), l5], [v0], S) = rn xX3_moveTo (57, [l0, l1, l2, l3, some (vI a), l5], [vI a, v0], S) := rn_step dX3_moveTo_55 rfl rfl
theorem eX3_moveTo_57 {a : Option Nat} {l1 l2 l3 l4 l5 : Option VV} {v0 v1 : VV} {S : MM} : rn xX3_moveTo (57, [some (.inr (.inl a)), l1, l2, l3, l4, l5], [v0, v1], S) = rn xX3_moveTo (58, [some (.inr (.inl a)), l1, l2, l3, l4, l5], [.inr (.inl a), v0, v1], S) := rn_step dX3_moveTo_57 rfl rfl
theorem eX3_moveTo_58 {i : Nat} {l0 l1 l2 l3 l4 l5 : Option VV} {v1 v2 : VV} (h : kd i = 3) {S : MM} : rn xX3_moveTo (58, [l0, l1, l2, l3, l4, l5], [vR i, v1, v2], S) = rn xX3_moveTo (61, [l0, l1, l2, l3, l4, l5], [vR (i + 1), v1, v2], S) := q_getR dX3_moveTo_58 rfl ⟨⟨by decide, by decide⟩, by decide⟩ (fun h => (fref3 h).trans (by first | rfl | omega)) h
theorem eX3_moveTo_61 {a : Int} {l0 l1 l2 l3 l4 : Option VV} {v0 v1 v2 : VV} {S : MM} : rn xX3_moveTo (61, [l0, l1, l2, l3, l4, some (vI a)], [v0, v1, v2], S) = rn xX3_moveTo (63, [l0, l1, l2, l3, l4, some (vI a)], [vI a, v0, v1, v2], S) := rn_step dX3_moveTo_61 rfl rfl
theorem eX3_moveTo_63 {i : Nat} {j : Int} {l0 l1 l2 l3 l4 l5 : Option VV} {v2 v3 : VV} (h : kd i = 10) (h0 : 0 ≤ j) (h1 : j < alen i) {S : MM} : rn xX3_moveTo (63, [l0, l1, l2, l3, l4, l5], [vI j, vR i, v2, v3], S) = rn xX3_moveTo (64, [l0, l1, l2, l3, l4, l5], [vI (S i j.toNat), v2, v3], S) := q_iald dX3_moveTo_63 h h0 h1
theorem eX3_moveTo_63x {j : Int} {l0 l1 l2 l3 l4 l5 : Option VV} {v2 v3 : VV} {S : MM} (h0 : 0 ≤ j) (h1 : j < S 604 0) : rn xX3_moveTo (63, [l0, l1, l2, l3, l4, l5], [vI j, vR 602, v2, v3], S) = rn xX3_moveTo (64, [l0, l1, l2, l3, l4, l5], [vI (S 602 j.toNat), v2, v3], S) := q_ialdX dX3_moveTo_63 h0 h1
theorem eX3_moveTo_63y {j : Int} {l0 l1 l2 l3 l4 l5 : Option VV} {v2 v3 : VV} {S : MM} (h0 : 0 ≤ j) (h1 : j < S 604 1) : rn xX3_moveTo (63, [l0, l1, l2, l3, l4, l5], [vI j, vR 603, v2, v3], S) = rn xX3_moveTo (64, [l0, l1, l2, l3, l4, l5], [vI (S 603 j.toNat), v2, v3], S) := q_ialdY dX3_moveTo_63 h0 h1
theorem eX3_moveTo_64 {i : Nat} {j z : Int} {l0 l1 l2 l3 l4 l5 : Option VV} (h : kd i = 10) (h0 : 0 ≤ j) (h1 : j < alen i) {S : MM} : rn xX3_moveTo (64, [l0, l1, l2, l3, l4, l5], [vI z, vI j, vR i], S) = rn xX3_moveTo (65, [l0, l1, l2, l3, l4, l5], [], updM S i j.toNat z) := q_iast dX3_moveTo_64 h h0 h1
theorem eX3_moveTo_65 {a : Option Nat} {l1 l2 l3 l4 l5 : Option VV} {S : MM} : rn xX3_moveTo (65, [some (.inr (.inl a)), l1, l2, l3, l4, l5], [], S) = rn xX3_moveTo (66, [some (.inr (.inl a)), l1, l2, l3, l4, l5], [.inr (.inl a)], S) := rn_step dX3_moveTo_65 rfl rfl
theorem eX3_moveTo_66 {i : Nat} {l0 l1 l2 l3 l4 l5 : Option VV} (h : kd i = 3) {S : MM} : rn xX3_moveTo (66, [l0, l1, l2, l3, l4, l5], [vR i], S) = rn xX3_moveTo (69, [l0, l1, l2, l3, l4, l5], [vR (i + 2)], S) := q_getR dX3_moveTo_66 rfl ⟨⟨by decide, by decide⟩, by decide⟩ (fun h => (fref3 h).trans (by first | rfl | omega)) h
theorem eX3_moveTo_69 {a : Int} {l0 l1 l2 l3 l5 : Option VV} {v0 : VV} {S : MM} : rn xX3_moveTo (69, [l0, l1, l2, l3, some (vI a), l5], [v0], S) = rn xX3_moveTo (71, [l0, l1, l2, l3, some (vI a), l5], [vI a, v0], S) := rn_step dX3_moveTo_69 rfl rfl
theorem eX3_moveTo_71 {a : Option Nat} {l1 l2 l3 l4 l5 : Option VV} {v0 v1 : VV} {S : MM} : rn xX3_moveTo (71, [some (.inr (.inl a)), l1, l2, l3, l4, l5], [v0, v1], S) = rn xX3_moveTo (72, [some (.inr (.inl a)), l1, l2, l3, l4, l5], [.inr (.inl a), v0, v1], S) := rn_step dX3_moveTo_71 rfl rfl
theorem eX3_moveTo_72 {i : Nat} {l0 l1 l2 l3 l4 l5 : Option VV} {v1 v2 : VV} (h : kd i = 3) {S : MM} : rn xX3_moveTo (72, [l0, l1, l2, l3, l4, l5], [vR i, v1, v2], S) = rn xX3_moveTo (75, [l0, l1, l2, l3, l4, l5], [vR (i + 2), v1, v2], S) := q_getR dX3_moveTo_72 rfl ⟨⟨by decide, by decide⟩, by decide⟩ (fun h => (fref3 h).trans (by first | rfl | omega)) h
theorem eX3_moveTo_75 {a : Int} {l0 l1 l2 l3 l4 : Option VV} {v0 v1 v2 : VV} {S : MM} : rn xX3_moveTo (75, [l0, l1, l2, l3, l4, some (vI a)], [v0, v1, v2], S) = rn xX3_moveTo (77, [l0, l1, l2, l3, l4, some (vI a)], [vI a, v0, v1, v2], S) := rn_step dX3_moveTo_75 rfl rfl
theorem eX3_moveTo_77 {i : Nat} {j : Int} {l0 l1 l2 l3 l4 l5 : Option VV} {v2 v3 : VV} (h : kd i = 10) (h0 : 0 ≤ j) (h1 : j < alen i) {S : MM} : rn xX3_moveTo (77, [l0, l1, l2, l3, l4, l5], [vI j, vR i, v2, v3], S) = rn xX3_moveTo (78, [l0, l1, l2, l3, l4, l5], [vI (S i j.toNat), v2, v3], S) := q_iald dX3_moveTo_77 h h0 h1
theorem eX3_moveTo_77x {j : Int} {l0 l1 l2 l3 l4 l5 : Option VV} {v2 v3 : VV} {S : MM} (h0 : 0 ≤ j) (h1 : j < S 604 0) : rn xX3_moveTo (77, [l0, l1, l2, l3, l4, l5], [vI j, vR 602, v2, v3], S) = rn xX3_moveTo (78, [l0, l1, l2, l3, l4, l5], [vI (S 602 j.toNat), v2, v3], S) := q_ialdX dX3_moveTo_77 h0 h1
theorem eX3_moveTo_77y {j : Int} {l0 l1 l2 l3 l4 l5 : Option VV} {v2 v3 : VV} {S : MM} (h0 : 0 ≤ j) (h1 : j < S 604 1) : rn xX3_moveTo (77, [l0, l1, l2, l3, l4, l5], [vI j, vR 603, v2, v3], S) = rn xX3_moveTo (78, [l0, l1, l2, l3, l4, l5], [vI (S 603 j.toNat), v2, v3], S) := q_ialdY dX3_moveTo_77 h0 h1
theorem eX3_moveTo_78 {i : Nat} {j z : Int} {l0 l1 l2 l3 l4 l5 : Option VV} (h : kd i = 10) (h0 : 0 ≤ j) (h1 : j < alen i) {S : MM} : rn xX3_moveTo (78, [l0, l1, l2, l3, l4, l5], [vI z, vI j, vR i], S) = rn xX3_moveTo (79, [l0, l1, l2, l3, l4, l5], [], updM S i j.toNat z) := q_iast dX3_moveTo_78 h h0 h1
theorem eX3_moveTo_79 {a : Int} {w : Int} {l0 l1 l2 l5 : Option VV} {S : MM} : rn xX3_moveTo (79, [l0, l1, l2, some (vI w), some (vI a), l5], [], S) = rn xX3_moveTo (82, [l0, l1, l2, some (vI w), some (vI (a + 1)), l5], [], S) := rn_step dX3_moveTo_79 rfl rfl
theorem eX3_moveTo_82 {a : Int} {w : Int} {l0 l1 l2 l3 : Option VV} {S : MM} : rn xX3_moveTo (82, [l0, l1, l2, l3, some (vI w), some (vI a)], [], S) = rn xX3_moveTo (85, [l0, l1, l2, l3, some (vI w), some (vI (a + 1))], [], S) := rn_step dX3_moveTo_82 rfl rfl
theorem eX3_moveTo_85 {l0 l1 l2 l3 l4 l5 : Option VV} {S : MM} : rn xX3_moveTo (85, [l0, l1, l2, l3, l4, l5], [], S) = rn xX3_moveTo (6, [l0, l1, l2, l3, l4, l5], [], S) := rn_step dX3_moveTo_85 rfl rfl
theorem eX3_moveTo_88 {a : Option Nat} {l1 l2 l3 l4 l5 : Option VV} {S : MM} : rn xX3_moveTo (88, [some (.inr (.inl a)), l1, l2, l3, l4, l5], [], S) = rn xX3_moveTo (89, [some (.inr (.inl a)), l1, l2, l3, l4, l5], [.inr (.inl a)], S) := rn_step dX3_moveTo_88 rfl rfl
theorem eX3_moveTo_89 {a : Int} {l0 l1 l2 l3 l5 : Option VV} {v0 : VV} {S : MM} : rn xX3_moveTo (89, [l0, l1, l2, l3, some (vI a), l5], [v0], S) = rn xX3_moveTo (91, [l0, l1, l2, l3, some (vI a), l5], [vI a, v0], S) := rn_step dX3_moveTo_89 rfl rfl
theorem eX3_moveTo_91 {z : Int} {i : Nat} {l0 l1 l2 l3 l4 l5 : Option VV} (h : kd i = 3) {S : MM} : rn xX3_moveTo (91, [l0, l1, l2, l3, l4, l5], [vI z, vR i], S) = rn xX3_moveTo (94, [l0, l1, l2, l3, l4, l5], [], updM S i 2 z) := q_put dX3_moveTo_91 rfl ⟨by decide, by decide⟩ rfl h
theorem eX3_moveTo_94 {l0 l1 l2 l3 l4 l5 : Option VV} {S : MM} : rn xX3_moveTo (94, [l0, l1, l2, l3, l4, l5], [], S) = some (none, S) := q_retV dX3_moveTo_94 rfl
noncomputable def qlX3_hasRoomForAll : List CE := [(0, 40, 3, 2, fX3_has)]
noncomputable def xX3_hasRoomForAll : XX := (cX3_hasRoomForAll, fcF fcl3, mcF qlX3_hasRoomForAll, 2)
noncomputable def fX3_hasRoomForAll : FN := fnX xX3_hasRoomForAll 4
set_option maxRecDepth 100000 in
theorem cwX3_hasRoomForAll : Cond.code yX3_hasRoomForAll cX3_hasRoomForAll 4 (some .boolean) ∈ lw_g := lw_gm 556 (by decide +kernel) (by decide +kernel)
set_option maxRecDepth 100000 in
theorem conX3_hasRoomForAll : Con yX3_hasRoomForAll cX3_hasRoomForAll 4 (some .boolean) { frames := 2, cells := 0, slots := 0, locals := 43 } fX3_hasRoomForAll := con_of (X := xX3_hasRoomForAll) (own := "LeapStones$Path") (ql := qlX3_hasRoomForAll) (by decide) rfl FOK3 rfl (List.forall_mem_cons.mpr ⟨call_V conX3_has cwX3_has (lw_gl _ [557, 465, 466, 25] (by decide +kernel) (by decide +kernel)) (by decide) rfl ⟨by decide, by decide, by decide +kernel⟩ ⟨rfl, rfl⟩ ⟨by decide, by decide⟩ ⟨Nat.le_refl _, Nat.le_refl _⟩, fun _ h => absurd h List.not_mem_nil⟩) (Or.inr (Or.inr (Or.inl ⟨rfl, rfl⟩)))
theorem uX3_hasRoomForAll {i : Nat} {a0 : Option Nat} {S : MM} : fX3_hasRoomForAll [vR i, .inr (.inl a0)] S = rn xX3_hasRoomForAll (0, [some (vR i), some (.inr (.inl a0)), none, none], [], S) := rfl
theorem dX3_hasRoomForAll_0 : decode cX3_hasRoomForAll 0 = .ok (.aload_n 0, 1) := by decide +kernel
theorem dX3_hasRoomForAll_1 : decode cX3_hasRoomForAll 1 = .ok (.getfield 18, 3) := by decide +kernel
theorem dX3_hasRoomForAll_4 : decode cX3_hasRoomForAll 4 = .ok (.istore_n 2, 1) := by decide +kernel
theorem dX3_hasRoomForAll_5 : decode cX3_hasRoomForAll 5 = .ok (.iconst 0, 1) := by decide +kernel
theorem dX3_hasRoomForAll_6 : decode cX3_hasRoomForAll 6 = .ok (.istore_n 3, 1) := by decide +kernel
theorem dX3_hasRoomForAll_7 : decode cX3_hasRoomForAll 7 = .ok (.iload_n 3, 1) := by decide +kernel
theorem dX3_hasRoomForAll_8 : decode cX3_hasRoomForAll 8 = .ok (.aload_n 1, 1) := by decide +kernel
theorem dX3_hasRoomForAll_9 : decode cX3_hasRoomForAll 9 = .ok (.getfield 18, 3) := by decide +kernel
theorem dX3_hasRoomForAll_12 : decode cX3_hasRoomForAll 12 = .ok (.if_icmp .ge 25, 3) := by decide +kernel
theorem dX3_hasRoomForAll_15 : decode cX3_hasRoomForAll 15 = .ok (.aload_n 0, 1) := by decide +kernel
theorem dX3_hasRoomForAll_16 : decode cX3_hasRoomForAll 16 = .ok (.aload_n 1, 1) := by decide +kernel
theorem dX3_hasRoomForAll_17 : decode cX3_hasRoomForAll 17 = .ok (.getfield 9, 3) := by decide +kernel
theorem dX3_hasRoomForAll_20 : decode cX3_hasRoomForAll 20 = .ok (.iload_n 3, 1) := by decide +kernel
theorem dX3_hasRoomForAll_21 : decode cX3_hasRoomForAll 21 = .ok (.iaload, 1) := by decide +kernel
theorem dX3_hasRoomForAll_22 : decode cX3_hasRoomForAll 22 = .ok (.invokevirtual 40, 3) := by decide +kernel
theorem dX3_hasRoomForAll_25 : decode cX3_hasRoomForAll 25 = .ok (.ifCond .ne 6, 3) := by decide +kernel
theorem dX3_hasRoomForAll_28 : decode cX3_hasRoomForAll 28 = .ok (.iinc 2 1, 3) := by decide +kernel
theorem dX3_hasRoomForAll_31 : decode cX3_hasRoomForAll 31 = .ok (.iinc 3 1, 3) := by decide +kernel
theorem dX3_hasRoomForAll_34 : decode cX3_hasRoomForAll 34 = .ok (.goto (-27), 3) := by decide +kernel
theorem dX3_hasRoomForAll_37 : decode cX3_hasRoomForAll 37 = .ok (.iload_n 2, 1) := by decide +kernel
theorem dX3_hasRoomForAll_38 : decode cX3_hasRoomForAll 38 = .ok (.bipush 40, 2) := by decide +kernel
theorem dX3_hasRoomForAll_40 : decode cX3_hasRoomForAll 40 = .ok (.if_icmp .gt 7, 3) := by decide +kernel
theorem dX3_hasRoomForAll_43 : decode cX3_hasRoomForAll 43 = .ok (.iconst 1, 1) := by decide +kernel
theorem dX3_hasRoomForAll_44 : decode cX3_hasRoomForAll 44 = .ok (.goto 4, 3) := by decide +kernel
theorem dX3_hasRoomForAll_47 : decode cX3_hasRoomForAll 47 = .ok (.iconst 0, 1) := by decide +kernel
theorem dX3_hasRoomForAll_48 : decode cX3_hasRoomForAll 48 = .ok (.ireturn, 1) := by decide +kernel
theorem eX3_hasRoomForAll_0 {a : Option Nat} {l1 l2 l3 : Option VV} {S : MM} : rn xX3_hasRoomForAll (0, [some (.inr (.inl a)), l1, l2, l3], [], S) = rn xX3_hasRoomForAll (1, [some (.inr (.inl a)), l1, l2, l3], [.inr (.inl a)], S) := rn_step dX3_hasRoomForAll_0 rfl rfl
theorem eX3_hasRoomForAll_1 {i : Nat} {l0 l1 l2 l3 : Option VV} (h : kd i = 3) {S : MM} : rn xX3_hasRoomForAll (1, [l0, l1, l2, l3], [vR i], S) = rn xX3_hasRoomForAll (4, [l0, l1, l2, l3], [vI (S i 2)], S) := q_getI dX3_hasRoomForAll_1 rfl ⟨⟨by decide, by decide⟩, by decide⟩ h
theorem eX3_hasRoomForAll_4 {a : Int} {w : Option Nat} {l0 l2 l3 : Option VV} {S : MM} : rn xX3_hasRoomForAll (4, [l0, some (.inr (.inl w)), l2, l3], [vI a], S) = rn xX3_hasRoomForAll (5, [l0, some (.inr (.inl w)), some (vI a), l3], [], S) := rn_step dX3_hasRoomForAll_4 rfl rfl
theorem eX3_hasRoomForAll_5 {l0 l1 l2 l3 : Option VV} {S : MM} : rn xX3_hasRoomForAll (5, [l0, l1, l2, l3], [], S) = rn xX3_hasRoomForAll (6, [l0, l1, l2, l3], [vI 0], S) := rn_step dX3_hasRoomForAll_5 rfl rfl
theorem eX3_hasRoomForAll_6 {a : Int} {w : Int} {l0 l1 l3 : Option VV} {S : MM} : rn xX3_hasRoomForAll (6, [l0, l1, some (vI w), l3], [vI a], S) = rn xX3_hasRoomForAll (7, [l0, l1, some (vI w), some (vI a)], [], S) := rn_step dX3_hasRoomForAll_6 rfl rfl
theorem eX3_hasRoomForAll_7 {a : Int} {l0 l1 l2 : Option VV} {S : MM} : rn xX3_hasRoomForAll (7, [l0, l1, l2, some (vI a)], [], S) = rn xX3_hasRoomForAll (8, [l0, l1, l2, some (vI a)], [vI a], S) := rn_step dX3_hasRoomForAll_7 rfl rfl
theorem eX3_hasRoomForAll_8 {a : Option Nat} {l0 l2 l3 : Option VV} {v0 : VV} {S : MM} : rn xX3_hasRoomForAll (8, [l0, some (.inr (.inl a)), l2, l3], [v0], S) = rn xX3_hasRoomForAll (9, [l0, some (.inr (.inl a)), l2, l3], [.inr (.inl a), v0], S) := rn_step dX3_hasRoomForAll_8 rfl rfl
theorem eX3_hasRoomForAll_9 {i : Nat} {l0 l1 l2 l3 : Option VV} {v1 : VV} (h : kd i = 3) {S : MM} : rn xX3_hasRoomForAll (9, [l0, l1, l2, l3], [vR i, v1], S) = rn xX3_hasRoomForAll (12, [l0, l1, l2, l3], [vI (S i 2), v1], S) := q_getI dX3_hasRoomForAll_9 rfl ⟨⟨by decide, by decide⟩, by decide⟩ h
theorem eX3_hasRoomForAll_12 {a b : Int} {l0 l1 l2 l3 : Option VV} (h : -2147483648 ≤ a ∧ a ≤ 2147483647) (h1 : -2147483648 ≤ b ∧ b ≤ 2147483647) {S : MM} : rn xX3_hasRoomForAll (12, [l0, l1, l2, l3], [vI b, vI a], S) = if a < b then rn xX3_hasRoomForAll (15, [l0, l1, l2, l3], [], S) else rn xX3_hasRoomForAll (37, [l0, l1, l2, l3], [], S) := q_icmp_ge dX3_hasRoomForAll_12 (by decide) rfl h h1
theorem eX3_hasRoomForAll_15 {a : Option Nat} {l1 l2 l3 : Option VV} {S : MM} : rn xX3_hasRoomForAll (15, [some (.inr (.inl a)), l1, l2, l3], [], S) = rn xX3_hasRoomForAll (16, [some (.inr (.inl a)), l1, l2, l3], [.inr (.inl a)], S) := rn_step dX3_hasRoomForAll_15 rfl rfl
theorem eX3_hasRoomForAll_16 {a : Option Nat} {l0 l2 l3 : Option VV} {v0 : VV} {S : MM} : rn xX3_hasRoomForAll (16, [l0, some (.inr (.inl a)), l2, l3], [v0], S) = rn xX3_hasRoomForAll (17, [l0, some (.inr (.inl a)), l2, l3], [.inr (.inl a), v0], S) := rn_step dX3_hasRoomForAll_16 rfl rfl
theorem eX3_hasRoomForAll_17 {i : Nat} {l0 l1 l2 l3 : Option VV} {v1 : VV} (h : kd i = 3) {S : MM} : rn xX3_hasRoomForAll (17, [l0, l1, l2, l3], [vR i, v1], S) = rn xX3_hasRoomForAll (20, [l0, l1, l2, l3], [vR (i + 1), v1], S) := q_getR dX3_hasRoomForAll_17 rfl ⟨⟨by decide, by decide⟩, by decide⟩ (fun h => (fref3 h).trans (by first | rfl | omega)) h
theorem eX3_hasRoomForAll_20 {a : Int} {l0 l1 l2 : Option VV} {v0 v1 : VV} {S : MM} : rn xX3_hasRoomForAll (20, [l0, l1, l2, some (vI a)], [v0, v1], S) = rn xX3_hasRoomForAll (21, [l0, l1, l2, some (vI a)], [vI a, v0, v1], S) := rn_step dX3_hasRoomForAll_20 rfl rfl
theorem eX3_hasRoomForAll_21 {i : Nat} {j : Int} {l0 l1 l2 l3 : Option VV} {v2 : VV} (h : kd i = 10) (h0 : 0 ≤ j) (h1 : j < alen i) {S : MM} : rn xX3_hasRoomForAll (21, [l0, l1, l2, l3], [vI j, vR i, v2], S) = rn xX3_hasRoomForAll (22, [l0, l1, l2, l3], [vI (S i j.toNat), v2], S) := q_iald dX3_hasRoomForAll_21 h h0 h1
theorem eX3_hasRoomForAll_21x {j : Int} {l0 l1 l2 l3 : Option VV} {v2 : VV} {S : MM} (h0 : 0 ≤ j) (h1 : j < S 604 0) : rn xX3_hasRoomForAll (21, [l0, l1, l2, l3], [vI j, vR 602, v2], S) = rn xX3_hasRoomForAll (22, [l0, l1, l2, l3], [vI (S 602 j.toNat), v2], S) := q_ialdX dX3_hasRoomForAll_21 h0 h1
theorem eX3_hasRoomForAll_21y {j : Int} {l0 l1 l2 l3 : Option VV} {v2 : VV} {S : MM} (h0 : 0 ≤ j) (h1 : j < S 604 1) : rn xX3_hasRoomForAll (21, [l0, l1, l2, l3], [vI j, vR 603, v2], S) = rn xX3_hasRoomForAll (22, [l0, l1, l2, l3], [vI (S 603 j.toNat), v2], S) := q_ialdY dX3_hasRoomForAll_21 h0 h1
theorem eX3_hasRoomForAll_22 {a0 : Int} {i : Nat} {l0 l1 l2 l3 : Option VV} (h : kd i = 3) {S : MM} : rn xX3_hasRoomForAll (22, [l0, l1, l2, l3], [vI a0, vR i], S) = (fX3_has [vR i, vI a0] S).bind (fun q => rn xX3_hasRoomForAll (25, [l0, l1, l2, l3], q.1.toList ++ [], q.2)) := q_callV (n := 1) (as := [vI a0]) (rest := []) dX3_hasRoomForAll_22 rfl rfl rfl rfl h
theorem eX3_hasRoomForAll_25 {a : Int} {l0 l1 l2 l3 : Option VV} (h : -2147483648 ≤ a ∧ a ≤ 2147483647) {S : MM} : rn xX3_hasRoomForAll (25, [l0, l1, l2, l3], [vI a], S) = if a = 0 then rn xX3_hasRoomForAll (28, [l0, l1, l2, l3], [], S) else rn xX3_hasRoomForAll (31, [l0, l1, l2, l3], [], S) := q_if_ne dX3_hasRoomForAll_25 (by decide) rfl h
theorem eX3_hasRoomForAll_28 {a : Int} {w : Option Nat} {l0 l3 : Option VV} {S : MM} : rn xX3_hasRoomForAll (28, [l0, some (.inr (.inl w)), some (vI a), l3], [], S) = rn xX3_hasRoomForAll (31, [l0, some (.inr (.inl w)), some (vI (a + 1)), l3], [], S) := rn_step dX3_hasRoomForAll_28 rfl rfl
theorem eX3_hasRoomForAll_31 {a : Int} {w : Int} {l0 l1 : Option VV} {S : MM} : rn xX3_hasRoomForAll (31, [l0, l1, some (vI w), some (vI a)], [], S) = rn xX3_hasRoomForAll (34, [l0, l1, some (vI w), some (vI (a + 1))], [], S) := rn_step dX3_hasRoomForAll_31 rfl rfl
theorem eX3_hasRoomForAll_34 {l0 l1 l2 l3 : Option VV} {S : MM} : rn xX3_hasRoomForAll (34, [l0, l1, l2, l3], [], S) = rn xX3_hasRoomForAll (7, [l0, l1, l2, l3], [], S) := rn_step dX3_hasRoomForAll_34 rfl rfl
theorem eX3_hasRoomForAll_37 {a : Int} {l0 l1 l3 : Option VV} {S : MM} : rn xX3_hasRoomForAll (37, [l0, l1, some (vI a), l3], [], S) = rn xX3_hasRoomForAll (38, [l0, l1, some (vI a), l3], [vI a], S) := rn_step dX3_hasRoomForAll_37 rfl rfl
theorem eX3_hasRoomForAll_38 {l0 l1 l2 l3 : Option VV} {v0 : VV} {S : MM} : rn xX3_hasRoomForAll (38, [l0, l1, l2, l3], [v0], S) = rn xX3_hasRoomForAll (40, [l0, l1, l2, l3], [vI 40, v0], S) := rn_step dX3_hasRoomForAll_38 rfl rfl
theorem eX3_hasRoomForAll_40 {a b : Int} {l0 l1 l2 l3 : Option VV} (h : -2147483648 ≤ a ∧ a ≤ 2147483647) (h1 : -2147483648 ≤ b ∧ b ≤ 2147483647) {S : MM} : rn xX3_hasRoomForAll (40, [l0, l1, l2, l3], [vI b, vI a], S) = if b < a then rn xX3_hasRoomForAll (47, [l0, l1, l2, l3], [], S) else rn xX3_hasRoomForAll (43, [l0, l1, l2, l3], [], S) := q_icmp_gt dX3_hasRoomForAll_40 (by decide) rfl h h1
theorem eX3_hasRoomForAll_43 {l0 l1 l2 l3 : Option VV} {S : MM} : rn xX3_hasRoomForAll (43, [l0, l1, l2, l3], [], S) = rn xX3_hasRoomForAll (44, [l0, l1, l2, l3], [vI 1], S) := rn_step dX3_hasRoomForAll_43 rfl rfl
theorem eX3_hasRoomForAll_44 {l0 l1 l2 l3 : Option VV} {v0 : VV} {S : MM} : rn xX3_hasRoomForAll (44, [l0, l1, l2, l3], [v0], S) = rn xX3_hasRoomForAll (48, [l0, l1, l2, l3], [v0], S) := rn_step dX3_hasRoomForAll_44 rfl rfl
theorem eX3_hasRoomForAll_47 {l0 l1 l2 l3 : Option VV} {S : MM} : rn xX3_hasRoomForAll (47, [l0, l1, l2, l3], [], S) = rn xX3_hasRoomForAll (48, [l0, l1, l2, l3], [vI 0], S) := rn_step dX3_hasRoomForAll_47 rfl rfl
theorem eX3_hasRoomForAll_48 {z : Int} {l0 l1 l2 l3 : Option VV} (hz : z = 0 ∨ z = 1) {S : MM} : rn xX3_hasRoomForAll (48, [l0, l1, l2, l3], [vI z], S) = some (some (vI z), S) := q_retZ dX3_hasRoomForAll_48 rfl hz
noncomputable def qlX3_addAll : List CE := [(0, 29, 3, 2, fX3_repeatsOf), (1, 44, 0, 2, f_min), (0, 36, 3, 3, fX3_lay)]
noncomputable def xX3_addAll : XX := (cX3_addAll, fcF fcl3, mcF qlX3_addAll, 0)
noncomputable def fX3_addAll : FN := fnX xX3_addAll 4
set_option maxRecDepth 100000 in
theorem cwX3_addAll : Cond.code yX3_addAll cX3_addAll 4 none ∈ lw_g := lw_gm 565 (by decide +kernel) (by decide +kernel)
set_option maxRecDepth 100000 in
theorem conX3_addAll : Con yX3_addAll cX3_addAll 4 none { frames := 2, cells := 0, slots := 0, locals := 49 } fX3_addAll := con_of (X := xX3_addAll) (own := "LeapStones$Path") (ql := qlX3_addAll) (by decide) rfl FOK3 rfl (List.forall_mem_cons.mpr ⟨call_V conX3_repeatsOf cwX3_repeatsOf (lw_gl _ [354, 355, 356, 25] (by decide +kernel) (by decide +kernel)) (by decide) rfl ⟨by decide, by decide, by decide +kernel⟩ ⟨rfl, rfl⟩ ⟨by decide, by decide⟩ ⟨Nat.le_refl _, Nat.le_refl _⟩, List.forall_mem_cons.mpr ⟨call_min (lw_gl _ [566, 265, 30, 266] (by decide +kernel) (by decide +kernel)) ⟨by decide, by decide⟩ ⟨Nat.le_refl _, Nat.le_refl _⟩, List.forall_mem_cons.mpr ⟨call_V conX3_lay cwX3_lay (lw_gl _ [458, 364, 365, 25] (by decide +kernel) (by decide +kernel)) (by decide) rfl ⟨by decide, by decide, by decide +kernel⟩ ⟨rfl, rfl⟩ ⟨by decide, by decide⟩ ⟨Nat.le_refl _, Nat.le_refl _⟩, fun _ h => absurd h List.not_mem_nil⟩⟩⟩) (Or.inl ⟨rfl, rfl⟩)
theorem uX3_addAll {i : Nat} {a0 : Option Nat} {S : MM} : fX3_addAll [vR i, .inr (.inl a0)] S = rn xX3_addAll (0, [some (vR i), some (.inr (.inl a0)), none, none], [], S) := rfl
theorem dX3_addAll_0 : decode cX3_addAll 0 = .ok (.iconst 0, 1) := by decide +kernel
theorem dX3_addAll_1 : decode cX3_addAll 1 = .ok (.istore_n 2, 1) := by decide +kernel
theorem dX3_addAll_2 : decode cX3_addAll 2 = .ok (.iload_n 2, 1) := by decide +kernel
theorem dX3_addAll_3 : decode cX3_addAll 3 = .ok (.aload_n 1, 1) := by decide +kernel
theorem dX3_addAll_4 : decode cX3_addAll 4 = .ok (.getfield 18, 3) := by decide +kernel
theorem dX3_addAll_7 : decode cX3_addAll 7 = .ok (.if_icmp .ge 38, 3) := by decide +kernel
theorem dX3_addAll_10 : decode cX3_addAll 10 = .ok (.aload_n 1, 1) := by decide +kernel
theorem dX3_addAll_11 : decode cX3_addAll 11 = .ok (.getfield 9, 3) := by decide +kernel
theorem dX3_addAll_14 : decode cX3_addAll 14 = .ok (.iload_n 2, 1) := by decide +kernel
theorem dX3_addAll_15 : decode cX3_addAll 15 = .ok (.iaload, 1) := by decide +kernel
theorem dX3_addAll_16 : decode cX3_addAll 16 = .ok (.istore_n 3, 1) := by decide +kernel
theorem dX3_addAll_17 : decode cX3_addAll 17 = .ok (.aload_n 0, 1) := by decide +kernel
theorem dX3_addAll_18 : decode cX3_addAll 18 = .ok (.iload_n 3, 1) := by decide +kernel
theorem dX3_addAll_19 : decode cX3_addAll 19 = .ok (.bipush 9, 2) := by decide +kernel
theorem dX3_addAll_21 : decode cX3_addAll 21 = .ok (.aload_n 0, 1) := by decide +kernel
theorem dX3_addAll_22 : decode cX3_addAll 22 = .ok (.iload_n 3, 1) := by decide +kernel
theorem dX3_addAll_23 : decode cX3_addAll 23 = .ok (.invokevirtual 29, 3) := by decide +kernel
theorem dX3_addAll_26 : decode cX3_addAll 26 = .ok (.aload_n 1, 1) := by decide +kernel
theorem dX3_addAll_27 : decode cX3_addAll 27 = .ok (.getfield 15, 3) := by decide +kernel
theorem dX3_addAll_30 : decode cX3_addAll 30 = .ok (.iload_n 2, 1) := by decide +kernel
theorem dX3_addAll_31 : decode cX3_addAll 31 = .ok (.iaload, 1) := by decide +kernel
theorem dX3_addAll_32 : decode cX3_addAll 32 = .ok (.iadd, 1) := by decide +kernel
theorem dX3_addAll_33 : decode cX3_addAll 33 = .ok (.invokestatic 44, 3) := by decide +kernel
theorem dX3_addAll_36 : decode cX3_addAll 36 = .ok (.invokevirtual 36, 3) := by decide +kernel
theorem dX3_addAll_39 : decode cX3_addAll 39 = .ok (.iinc 2 1, 3) := by decide +kernel
theorem dX3_addAll_42 : decode cX3_addAll 42 = .ok (.goto (-40), 3) := by decide +kernel
theorem dX3_addAll_45 : decode cX3_addAll 45 = .ok (.return_, 1) := by decide +kernel
theorem eX3_addAll_0 {l0 l1 l2 l3 : Option VV} {S : MM} : rn xX3_addAll (0, [l0, l1, l2, l3], [], S) = rn xX3_addAll (1, [l0, l1, l2, l3], [vI 0], S) := rn_step dX3_addAll_0 rfl rfl
theorem eX3_addAll_1 {a : Int} {w : Option Nat} {l0 l2 l3 : Option VV} {S : MM} : rn xX3_addAll (1, [l0, some (.inr (.inl w)), l2, l3], [vI a], S) = rn xX3_addAll (2, [l0, some (.inr (.inl w)), some (vI a), l3], [], S) := rn_step dX3_addAll_1 rfl rfl
theorem eX3_addAll_2 {a : Int} {l0 l1 l3 : Option VV} {S : MM} : rn xX3_addAll (2, [l0, l1, some (vI a), l3], [], S) = rn xX3_addAll (3, [l0, l1, some (vI a), l3], [vI a], S) := rn_step dX3_addAll_2 rfl rfl
theorem eX3_addAll_3 {a : Option Nat} {l0 l2 l3 : Option VV} {v0 : VV} {S : MM} : rn xX3_addAll (3, [l0, some (.inr (.inl a)), l2, l3], [v0], S) = rn xX3_addAll (4, [l0, some (.inr (.inl a)), l2, l3], [.inr (.inl a), v0], S) := rn_step dX3_addAll_3 rfl rfl
theorem eX3_addAll_4 {i : Nat} {l0 l1 l2 l3 : Option VV} {v1 : VV} (h : kd i = 3) {S : MM} : rn xX3_addAll (4, [l0, l1, l2, l3], [vR i, v1], S) = rn xX3_addAll (7, [l0, l1, l2, l3], [vI (S i 2), v1], S) := q_getI dX3_addAll_4 rfl ⟨⟨by decide, by decide⟩, by decide⟩ h
theorem eX3_addAll_7 {a b : Int} {l0 l1 l2 l3 : Option VV} (h : -2147483648 ≤ a ∧ a ≤ 2147483647) (h1 : -2147483648 ≤ b ∧ b ≤ 2147483647) {S : MM} : rn xX3_addAll (7, [l0, l1, l2, l3], [vI b, vI a], S) = if a < b then rn xX3_addAll (10, [l0, l1, l2, l3], [], S) else rn xX3_addAll (45, [l0, l1, l2, l3], [], S) := q_icmp_ge dX3_addAll_7 (by decide) rfl h h1
theorem eX3_addAll_10 {a : Option Nat} {l0 l2 l3 : Option VV} {S : MM} : rn xX3_addAll (10, [l0, some (.inr (.inl a)), l2, l3], [], S) = rn xX3_addAll (11, [l0, some (.inr (.inl a)), l2, l3], [.inr (.inl a)], S) := rn_step dX3_addAll_10 rfl rfl
theorem eX3_addAll_11 {i : Nat} {l0 l1 l2 l3 : Option VV} (h : kd i = 3) {S : MM} : rn xX3_addAll (11, [l0, l1, l2, l3], [vR i], S) = rn xX3_addAll (14, [l0, l1, l2, l3], [vR (i + 1)], S) := q_getR dX3_addAll_11 rfl ⟨⟨by decide, by decide⟩, by decide⟩ (fun h => (fref3 h).trans (by first | rfl | omega)) h
theorem eX3_addAll_14 {a : Int} {l0 l1 l3 : Option VV} {v0 : VV} {S : MM} : rn xX3_addAll (14, [l0, l1, some (vI a), l3], [v0], S) = rn xX3_addAll (15, [l0, l1, some (vI a), l3], [vI a, v0], S) := rn_step dX3_addAll_14 rfl rfl
theorem eX3_addAll_15 {i : Nat} {j : Int} {l0 l1 l2 l3 : Option VV} (h : kd i = 10) (h0 : 0 ≤ j) (h1 : j < alen i) {S : MM} : rn xX3_addAll (15, [l0, l1, l2, l3], [vI j, vR i], S) = rn xX3_addAll (16, [l0, l1, l2, l3], [vI (S i j.toNat)], S) := q_iald dX3_addAll_15 h h0 h1
theorem eX3_addAll_15x {j : Int} {l0 l1 l2 l3 : Option VV} {S : MM} (h0 : 0 ≤ j) (h1 : j < S 604 0) : rn xX3_addAll (15, [l0, l1, l2, l3], [vI j, vR 602], S) = rn xX3_addAll (16, [l0, l1, l2, l3], [vI (S 602 j.toNat)], S) := q_ialdX dX3_addAll_15 h0 h1
theorem eX3_addAll_15y {j : Int} {l0 l1 l2 l3 : Option VV} {S : MM} (h0 : 0 ≤ j) (h1 : j < S 604 1) : rn xX3_addAll (15, [l0, l1, l2, l3], [vI j, vR 603], S) = rn xX3_addAll (16, [l0, l1, l2, l3], [vI (S 603 j.toNat)], S) := q_ialdY dX3_addAll_15 h0 h1
theorem eX3_addAll_16 {a : Int} {w : Int} {l0 l1 l3 : Option VV} {S : MM} : rn xX3_addAll (16, [l0, l1, some (vI w), l3], [vI a], S) = rn xX3_addAll (17, [l0, l1, some (vI w), some (vI a)], [], S) := rn_step dX3_addAll_16 rfl rfl
theorem eX3_addAll_17 {a : Option Nat} {l1 l2 l3 : Option VV} {S : MM} : rn xX3_addAll (17, [some (.inr (.inl a)), l1, l2, l3], [], S) = rn xX3_addAll (18, [some (.inr (.inl a)), l1, l2, l3], [.inr (.inl a)], S) := rn_step dX3_addAll_17 rfl rfl
theorem eX3_addAll_18 {a : Int} {l0 l1 l2 : Option VV} {v0 : VV} {S : MM} : rn xX3_addAll (18, [l0, l1, l2, some (vI a)], [v0], S) = rn xX3_addAll (19, [l0, l1, l2, some (vI a)], [vI a, v0], S) := rn_step dX3_addAll_18 rfl rfl
theorem eX3_addAll_19 {l0 l1 l2 l3 : Option VV} {v0 v1 : VV} {S : MM} : rn xX3_addAll (19, [l0, l1, l2, l3], [v0, v1], S) = rn xX3_addAll (21, [l0, l1, l2, l3], [vI 9, v0, v1], S) := rn_step dX3_addAll_19 rfl rfl
theorem eX3_addAll_21 {a : Option Nat} {l1 l2 l3 : Option VV} {v0 v1 v2 : VV} {S : MM} : rn xX3_addAll (21, [some (.inr (.inl a)), l1, l2, l3], [v0, v1, v2], S) = rn xX3_addAll (22, [some (.inr (.inl a)), l1, l2, l3], [.inr (.inl a), v0, v1, v2], S) := rn_step dX3_addAll_21 rfl rfl
theorem eX3_addAll_22 {a : Int} {l0 l1 l2 : Option VV} {v0 v1 v2 v3 : VV} {S : MM} : rn xX3_addAll (22, [l0, l1, l2, some (vI a)], [v0, v1, v2, v3], S) = rn xX3_addAll (23, [l0, l1, l2, some (vI a)], [vI a, v0, v1, v2, v3], S) := rn_step dX3_addAll_22 rfl rfl
theorem eX3_addAll_23 {a0 : Int} {i : Nat} {l0 l1 l2 l3 : Option VV} {v2 v3 v4 : VV} (h : kd i = 3) {S : MM} : rn xX3_addAll (23, [l0, l1, l2, l3], [vI a0, vR i, v2, v3, v4], S) = (fX3_repeatsOf [vR i, vI a0] S).bind (fun q => rn xX3_addAll (26, [l0, l1, l2, l3], q.1.toList ++ [v2, v3, v4], q.2)) := q_callV (n := 1) (as := [vI a0]) (rest := [v2, v3, v4]) dX3_addAll_23 rfl rfl rfl rfl h
theorem eX3_addAll_26 {a : Option Nat} {l0 l2 l3 : Option VV} {v0 v1 v2 v3 : VV} {S : MM} : rn xX3_addAll (26, [l0, some (.inr (.inl a)), l2, l3], [v0, v1, v2, v3], S) = rn xX3_addAll (27, [l0, some (.inr (.inl a)), l2, l3], [.inr (.inl a), v0, v1, v2, v3], S) := rn_step dX3_addAll_26 rfl rfl
theorem eX3_addAll_27 {i : Nat} {l0 l1 l2 l3 : Option VV} {v1 v2 v3 v4 : VV} (h : kd i = 3) {S : MM} : rn xX3_addAll (27, [l0, l1, l2, l3], [vR i, v1, v2, v3, v4], S) = rn xX3_addAll (30, [l0, l1, l2, l3], [vR (i + 2), v1, v2, v3, v4], S) := q_getR dX3_addAll_27 rfl ⟨⟨by decide, by decide⟩, by decide⟩ (fun h => (fref3 h).trans (by first | rfl | omega)) h
theorem eX3_addAll_30 {a : Int} {l0 l1 l3 : Option VV} {v0 v1 v2 v3 v4 : VV} {S : MM} : rn xX3_addAll (30, [l0, l1, some (vI a), l3], [v0, v1, v2, v3, v4], S) = rn xX3_addAll (31, [l0, l1, some (vI a), l3], [vI a, v0, v1, v2, v3, v4], S) := rn_step dX3_addAll_30 rfl rfl
theorem eX3_addAll_31 {i : Nat} {j : Int} {l0 l1 l2 l3 : Option VV} {v2 v3 v4 v5 : VV} (h : kd i = 10) (h0 : 0 ≤ j) (h1 : j < alen i) {S : MM} : rn xX3_addAll (31, [l0, l1, l2, l3], [vI j, vR i, v2, v3, v4, v5], S) = rn xX3_addAll (32, [l0, l1, l2, l3], [vI (S i j.toNat), v2, v3, v4, v5], S) := q_iald dX3_addAll_31 h h0 h1
theorem eX3_addAll_31x {j : Int} {l0 l1 l2 l3 : Option VV} {v2 v3 v4 v5 : VV} {S : MM} (h0 : 0 ≤ j) (h1 : j < S 604 0) : rn xX3_addAll (31, [l0, l1, l2, l3], [vI j, vR 602, v2, v3, v4, v5], S) = rn xX3_addAll (32, [l0, l1, l2, l3], [vI (S 602 j.toNat), v2, v3, v4, v5], S) := q_ialdX dX3_addAll_31 h0 h1
theorem eX3_addAll_31y {j : Int} {l0 l1 l2 l3 : Option VV} {v2 v3 v4 v5 : VV} {S : MM} (h0 : 0 ≤ j) (h1 : j < S 604 1) : rn xX3_addAll (31, [l0, l1, l2, l3], [vI j, vR 603, v2, v3, v4, v5], S) = rn xX3_addAll (32, [l0, l1, l2, l3], [vI (S 603 j.toNat), v2, v3, v4, v5], S) := q_ialdY dX3_addAll_31 h0 h1
theorem eX3_addAll_32 {a b : Int} {l0 l1 l2 l3 : Option VV} {v2 v3 v4 : VV} {S : MM} : rn xX3_addAll (32, [l0, l1, l2, l3], [vI b, vI a, v2, v3, v4], S) = rn xX3_addAll (33, [l0, l1, l2, l3], [vI (a + b), v2, v3, v4], S) := rn_step dX3_addAll_32 rfl rfl
theorem eX3_addAll_33 {a0 : Int} {a1 : Int} {l0 l1 l2 l3 : Option VV} {v2 v3 : VV} {S : MM} : rn xX3_addAll (33, [l0, l1, l2, l3], [vI a1, vI a0, v2, v3], S) = (f_min [vI a0, vI a1] S).bind (fun q => rn xX3_addAll (36, [l0, l1, l2, l3], q.1.toList ++ [v2, v3], q.2)) := q_callS (n := 2) (as := [vI a0, vI a1]) (rest := [v2, v3]) dX3_addAll_33 rfl rfl rfl rfl
theorem eX3_addAll_36 {a0 : Int} {a1 : Int} {i : Nat} {l0 l1 l2 l3 : Option VV} (h : kd i = 3) {S : MM} : rn xX3_addAll (36, [l0, l1, l2, l3], [vI a1, vI a0, vR i], S) = (fX3_lay [vR i, vI a0, vI a1] S).bind (fun q => rn xX3_addAll (39, [l0, l1, l2, l3], q.1.toList ++ [], q.2)) := q_callV (n := 2) (as := [vI a0, vI a1]) (rest := []) dX3_addAll_36 rfl rfl rfl rfl h
theorem eX3_addAll_39 {a : Int} {w : Option Nat} {l0 l3 : Option VV} {S : MM} : rn xX3_addAll (39, [l0, some (.inr (.inl w)), some (vI a), l3], [], S) = rn xX3_addAll (42, [l0, some (.inr (.inl w)), some (vI (a + 1)), l3], [], S) := rn_step dX3_addAll_39 rfl rfl
theorem eX3_addAll_42 {l0 l1 l2 l3 : Option VV} {S : MM} : rn xX3_addAll (42, [l0, l1, l2, l3], [], S) = rn xX3_addAll (2, [l0, l1, l2, l3], [], S) := rn_step dX3_addAll_42 rfl rfl
theorem eX3_addAll_45 {l0 l1 l2 l3 : Option VV} {S : MM} : rn xX3_addAll (45, [l0, l1, l2, l3], [], S) = some (none, S) := q_retV dX3_addAll_45 rfl
noncomputable def qlX5_stones : List CE := [(0, 24, 3, 1, fX3_size)]
noncomputable def xX5_stones : XX := (cX5_stones, fcF fcl5, mcF qlX5_stones, 1)
noncomputable def fX5_stones : FN := fnX xX5_stones 1
set_option maxRecDepth 100000 in
theorem cwX5_stones : Cond.code yX5_stones cX5_stones 1 (some .int) ∈ lw_g := lw_gm 493 (by decide +kernel) (by decide +kernel)
set_option maxRecDepth 100000 in
theorem conX5_stones : Con yX5_stones cX5_stones 1 (some .int) { frames := 1, cells := 0, slots := 0, locals := 20 } fX5_stones := con_of (X := xX5_stones) (own := "LeapStones$River") (ql := qlX5_stones) (by decide) rfl FOK5 rfl (List.forall_mem_cons.mpr ⟨call_V conX3_size cwX3_size (lw_gl _ [494, 399, 400, 25] (by decide +kernel) (by decide +kernel)) (by decide) rfl ⟨by decide, by decide, by decide +kernel⟩ ⟨rfl, rfl⟩ ⟨by decide, by decide⟩ ⟨Nat.le_refl _, Nat.le_refl _⟩, fun _ h => absurd h List.not_mem_nil⟩) (Or.inr (Or.inl ⟨rfl, rfl⟩))
theorem uX5_stones {i : Nat} {S : MM} : fX5_stones [vR i] S = rn xX5_stones (0, [some (vR i)], [], S) := rfl
theorem dX5_stones_0 : decode cX5_stones 0 = .ok (.aload_n 0, 1) := by decide +kernel
theorem dX5_stones_1 : decode cX5_stones 1 = .ok (.getfield 12, 3) := by decide +kernel
theorem dX5_stones_4 : decode cX5_stones 4 = .ok (.invokevirtual 24, 3) := by decide +kernel
theorem dX5_stones_7 : decode cX5_stones 7 = .ok (.aload_n 0, 1) := by decide +kernel
theorem dX5_stones_8 : decode cX5_stones 8 = .ok (.getfield 18, 3) := by decide +kernel
theorem dX5_stones_11 : decode cX5_stones 11 = .ok (.invokevirtual 24, 3) := by decide +kernel
theorem dX5_stones_14 : decode cX5_stones 14 = .ok (.iadd, 1) := by decide +kernel
theorem dX5_stones_15 : decode cX5_stones 15 = .ok (.aload_n 0, 1) := by decide +kernel
theorem dX5_stones_16 : decode cX5_stones 16 = .ok (.getfield 21, 3) := by decide +kernel
theorem dX5_stones_19 : decode cX5_stones 19 = .ok (.invokevirtual 24, 3) := by decide +kernel
theorem dX5_stones_22 : decode cX5_stones 22 = .ok (.iadd, 1) := by decide +kernel
theorem dX5_stones_23 : decode cX5_stones 23 = .ok (.ireturn, 1) := by decide +kernel
theorem eX5_stones_0 {a : Option Nat} {S : MM} : rn xX5_stones (0, [some (.inr (.inl a))], [], S) = rn xX5_stones (1, [some (.inr (.inl a))], [.inr (.inl a)], S) := rn_step dX5_stones_0 rfl rfl
theorem eX5_stones_1 {i : Nat} {l0 : Option VV} (h : kd i = 5) {S : MM} : rn xX5_stones (1, [l0], [vR i], S) = rn xX5_stones (4, [l0], [vR (i + 1)], S) := q_getR dX5_stones_1 rfl ⟨⟨by decide, by decide⟩, by decide⟩ (fun h => (fref5 h).trans (by first | rfl | omega)) h
theorem eX5_stones_4 {i : Nat} {l0 : Option VV} (h : kd i = 3) {S : MM} : rn xX5_stones (4, [l0], [vR i], S) = (fX3_size [vR i] S).bind (fun q => rn xX5_stones (7, [l0], q.1.toList ++ [], q.2)) := q_callV (n := 0) (as := []) (rest := []) dX5_stones_4 rfl rfl rfl rfl h
theorem eX5_stones_7 {a : Option Nat} {v0 : VV} {S : MM} : rn xX5_stones (7, [some (.inr (.inl a))], [v0], S) = rn xX5_stones (8, [some (.inr (.inl a))], [.inr (.inl a), v0], S) := rn_step dX5_stones_7 rfl rfl
theorem eX5_stones_8 {i : Nat} {l0 : Option VV} {v1 : VV} (h : kd i = 5) {S : MM} : rn xX5_stones (8, [l0], [vR i, v1], S) = rn xX5_stones (11, [l0], [vR (i + 4), v1], S) := q_getR dX5_stones_8 rfl ⟨⟨by decide, by decide⟩, by decide⟩ (fun h => (fref5 h).trans (by first | rfl | omega)) h
theorem eX5_stones_11 {i : Nat} {l0 : Option VV} {v1 : VV} (h : kd i = 3) {S : MM} : rn xX5_stones (11, [l0], [vR i, v1], S) = (fX3_size [vR i] S).bind (fun q => rn xX5_stones (14, [l0], q.1.toList ++ [v1], q.2)) := q_callV (n := 0) (as := []) (rest := [v1]) dX5_stones_11 rfl rfl rfl rfl h
theorem eX5_stones_14 {a b : Int} {l0 : Option VV} {S : MM} : rn xX5_stones (14, [l0], [vI b, vI a], S) = rn xX5_stones (15, [l0], [vI (a + b)], S) := rn_step dX5_stones_14 rfl rfl
theorem eX5_stones_15 {a : Option Nat} {v0 : VV} {S : MM} : rn xX5_stones (15, [some (.inr (.inl a))], [v0], S) = rn xX5_stones (16, [some (.inr (.inl a))], [.inr (.inl a), v0], S) := rn_step dX5_stones_15 rfl rfl
theorem eX5_stones_16 {i : Nat} {l0 : Option VV} {v1 : VV} (h : kd i = 5) {S : MM} : rn xX5_stones (16, [l0], [vR i, v1], S) = rn xX5_stones (19, [l0], [vR (i + 7), v1], S) := q_getR dX5_stones_16 rfl ⟨⟨by decide, by decide⟩, by decide⟩ (fun h => (fref5 h).trans (by first | rfl | omega)) h
theorem eX5_stones_19 {i : Nat} {l0 : Option VV} {v1 : VV} (h : kd i = 3) {S : MM} : rn xX5_stones (19, [l0], [vR i, v1], S) = (fX3_size [vR i] S).bind (fun q => rn xX5_stones (22, [l0], q.1.toList ++ [v1], q.2)) := q_callV (n := 0) (as := []) (rest := [v1]) dX5_stones_19 rfl rfl rfl rfl h
theorem eX5_stones_22 {a b : Int} {l0 : Option VV} {S : MM} : rn xX5_stones (22, [l0], [vI b, vI a], S) = rn xX5_stones (23, [l0], [vI (a + b)], S) := rn_step dX5_stones_22 rfl rfl
theorem eX5_stones_23 {z : Int} {l0 : Option VV} {S : MM} : rn xX5_stones (23, [l0], [vI z], S) = some (some (vI z), S) := q_retI dX5_stones_23 rfl
noncomputable def qlX5_isShared : List CE := [(1, 32, 0, 3, fX8_isBetween), (0, 36, 5, 2, fX5_rowsAt)]
noncomputable def xX5_isShared : XX := (cX5_isShared, fcF fcl5, mcF qlX5_isShared, 2)
noncomputable def fX5_isShared : FN := fnX xX5_isShared 4
set_option maxRecDepth 100000 in
theorem cwX5_isShared : Cond.code yX5_isShared cX5_isShared 4 (some .boolean) ∈ lw_g := lw_gm 813 (by decide +kernel) (by decide +kernel)
set_option maxRecDepth 100000 in
theorem conX5_isShared : Con yX5_isShared cX5_isShared 4 (some .boolean) { frames := 2, cells := 0, slots := 0, locals := 43 } fX5_isShared := con_of (X := xX5_isShared) (own := "LeapStones$River") (ql := qlX5_isShared) (by decide) rfl FOK5 rfl (List.forall_mem_cons.mpr ⟨call_N conX8_isBetween cwX8_isBetween (lw_gl _ [251, 21] (by decide +kernel) (by decide +kernel)) (List.mem_of_getElem? (i := 28) (by decide +kernel)) ⟨by decide, by decide, by decide +kernel⟩ ⟨rfl, rfl⟩ ⟨by decide, by decide⟩ ⟨Nat.le_refl _, Nat.le_refl _⟩, List.forall_mem_cons.mpr ⟨call_V conX5_rowsAt cwX5_rowsAt (lw_gl _ [815, 482, 483, 24] (by decide +kernel) (by decide +kernel)) (by decide) rfl ⟨by decide, by decide, by decide +kernel⟩ ⟨rfl, rfl⟩ ⟨by decide, by decide⟩ ⟨Nat.le_refl _, Nat.le_refl _⟩, fun _ h => absurd h List.not_mem_nil⟩⟩) (Or.inr (Or.inr (Or.inl ⟨rfl, rfl⟩)))
theorem uX5_isShared {i : Nat} {a0 : Int} {a1 : Int} {a2 : Int} {S : MM} : fX5_isShared [vR i, vI a0, vI a1, vI a2] S = rn xX5_isShared (0, [some (vR i), some (vI a0), some (vI a1), some (vI a2)], [], S) := rfl
theorem dX5_isShared_0 : decode cX5_isShared 0 = .ok (.iload_n 1, 1) := by decide +kernel
theorem dX5_isShared_1 : decode cX5_isShared 1 = .ok (.iload_n 2, 1) := by decide +kernel
theorem dX5_isShared_2 : decode cX5_isShared 2 = .ok (.iload_n 3, 1) := by decide +kernel
theorem dX5_isShared_3 : decode cX5_isShared 3 = .ok (.invokestatic 32, 3) := by decide +kernel
theorem dX5_isShared_6 : decode cX5_isShared 6 = .ok (.ifCond .eq 15, 3) := by decide +kernel
theorem dX5_isShared_9 : decode cX5_isShared 9 = .ok (.aload_n 0, 1) := by decide +kernel
theorem dX5_isShared_10 : decode cX5_isShared 10 = .ok (.iload_n 1, 1) := by decide +kernel
theorem dX5_isShared_11 : decode cX5_isShared 11 = .ok (.invokevirtual 36, 3) := by decide +kernel
theorem dX5_isShared_14 : decode cX5_isShared 14 = .ok (.ifCond .le 7, 3) := by decide +kernel
theorem dX5_isShared_17 : decode cX5_isShared 17 = .ok (.iconst 1, 1) := by decide +kernel
theorem dX5_isShared_18 : decode cX5_isShared 18 = .ok (.goto 4, 3) := by decide +kernel
theorem dX5_isShared_21 : decode cX5_isShared 21 = .ok (.iconst 0, 1) := by decide +kernel
theorem dX5_isShared_22 : decode cX5_isShared 22 = .ok (.ireturn, 1) := by decide +kernel
theorem eX5_isShared_0 {a : Int} {l0 l2 l3 : Option VV} {S : MM} : rn xX5_isShared (0, [l0, some (vI a), l2, l3], [], S) = rn xX5_isShared (1, [l0, some (vI a), l2, l3], [vI a], S) := rn_step dX5_isShared_0 rfl rfl
theorem eX5_isShared_1 {a : Int} {l0 l1 l3 : Option VV} {v0 : VV} {S : MM} : rn xX5_isShared (1, [l0, l1, some (vI a), l3], [v0], S) = rn xX5_isShared (2, [l0, l1, some (vI a), l3], [vI a, v0], S) := rn_step dX5_isShared_1 rfl rfl
theorem eX5_isShared_2 {a : Int} {l0 l1 l2 : Option VV} {v0 v1 : VV} {S : MM} : rn xX5_isShared (2, [l0, l1, l2, some (vI a)], [v0, v1], S) = rn xX5_isShared (3, [l0, l1, l2, some (vI a)], [vI a, v0, v1], S) := rn_step dX5_isShared_2 rfl rfl
theorem eX5_isShared_3 {a0 : Int} {a1 : Int} {a2 : Int} {l0 l1 l2 l3 : Option VV} {S : MM} : rn xX5_isShared (3, [l0, l1, l2, l3], [vI a2, vI a1, vI a0], S) = (fX8_isBetween [vI a0, vI a1, vI a2] S).bind (fun q => rn xX5_isShared (6, [l0, l1, l2, l3], q.1.toList ++ [], q.2)) := q_callS (n := 3) (as := [vI a0, vI a1, vI a2]) (rest := []) dX5_isShared_3 rfl rfl rfl rfl
theorem eX5_isShared_6 {a : Int} {l0 l1 l2 l3 : Option VV} (h : -2147483648 ≤ a ∧ a ≤ 2147483647) {S : MM} : rn xX5_isShared (6, [l0, l1, l2, l3], [vI a], S) = if a = 0 then rn xX5_isShared (21, [l0, l1, l2, l3], [], S) else rn xX5_isShared (9, [l0, l1, l2, l3], [], S) := q_if_eq dX5_isShared_6 (by decide) rfl h
theorem eX5_isShared_9 {a : Option Nat} {l1 l2 l3 : Option VV} {S : MM} : rn xX5_isShared (9, [some (.inr (.inl a)), l1, l2, l3], [], S) = rn xX5_isShared (10, [some (.inr (.inl a)), l1, l2, l3], [.inr (.inl a)], S) := rn_step dX5_isShared_9 rfl rfl
theorem eX5_isShared_10 {a : Int} {l0 l2 l3 : Option VV} {v0 : VV} {S : MM} : rn xX5_isShared (10, [l0, some (vI a), l2, l3], [v0], S) = rn xX5_isShared (11, [l0, some (vI a), l2, l3], [vI a, v0], S) := rn_step dX5_isShared_10 rfl rfl
theorem eX5_isShared_11 {a0 : Int} {i : Nat} {l0 l1 l2 l3 : Option VV} (h : kd i = 5) {S : MM} : rn xX5_isShared (11, [l0, l1, l2, l3], [vI a0, vR i], S) = (fX5_rowsAt [vR i, vI a0] S).bind (fun q => rn xX5_isShared (14, [l0, l1, l2, l3], q.1.toList ++ [], q.2)) := q_callV (n := 1) (as := [vI a0]) (rest := []) dX5_isShared_11 rfl rfl rfl rfl h
theorem eX5_isShared_14 {a : Int} {l0 l1 l2 l3 : Option VV} (h : -2147483648 ≤ a ∧ a ≤ 2147483647) {S : MM} : rn xX5_isShared (14, [l0, l1, l2, l3], [vI a], S) = if 0 < a then rn xX5_isShared (17, [l0, l1, l2, l3], [], S) else rn xX5_isShared (21, [l0, l1, l2, l3], [], S) := q_if_le dX5_isShared_14 (by decide) rfl h
theorem eX5_isShared_17 {l0 l1 l2 l3 : Option VV} {S : MM} : rn xX5_isShared (17, [l0, l1, l2, l3], [], S) = rn xX5_isShared (18, [l0, l1, l2, l3], [vI 1], S) := rn_step dX5_isShared_17 rfl rfl
theorem eX5_isShared_18 {l0 l1 l2 l3 : Option VV} {v0 : VV} {S : MM} : rn xX5_isShared (18, [l0, l1, l2, l3], [v0], S) = rn xX5_isShared (22, [l0, l1, l2, l3], [v0], S) := rn_step dX5_isShared_18 rfl rfl
theorem eX5_isShared_21 {l0 l1 l2 l3 : Option VV} {S : MM} : rn xX5_isShared (21, [l0, l1, l2, l3], [], S) = rn xX5_isShared (22, [l0, l1, l2, l3], [vI 0], S) := rn_step dX5_isShared_21 rfl rfl
theorem eX5_isShared_22 {z : Int} {l0 l1 l2 l3 : Option VV} (hz : z = 0 ∨ z = 1) {S : MM} : rn xX5_isShared (22, [l0, l1, l2, l3], [vI z], S) = some (some (vI z), S) := q_retZ dX5_isShared_22 rfl hz
noncomputable def qlX5_sharedKeys : List CE := [(0, 24, 3, 1, fX3_size), (0, 39, 3, 2, fX3_keyAt), (0, 42, 5, 4, fX5_isShared)]
noncomputable def xX5_sharedKeys : XX := (cX5_sharedKeys, fcF fcl5, mcF qlX5_sharedKeys, 1)
noncomputable def fX5_sharedKeys : FN := fnX xX5_sharedKeys 5
set_option maxRecDepth 100000 in
theorem cwX5_sharedKeys : Cond.code yX5_sharedKeys cX5_sharedKeys 5 (some .int) ∈ lw_g := lw_gm 808 (by decide +kernel) (by decide +kernel)
set_option maxRecDepth 100000 in
theorem conX5_sharedKeys : Con yX5_sharedKeys cX5_sharedKeys 5 (some .int) { frames := 3, cells := 0, slots := 0, locals := 66 } fX5_sharedKeys := con_of (X := xX5_sharedKeys) (own := "LeapStones$River") (ql := qlX5_sharedKeys) (by decide) rfl FOK5 rfl (List.forall_mem_cons.mpr ⟨call_V conX3_size cwX3_size (lw_gl _ [494, 399, 400, 25] (by decide +kernel) (by decide +kernel)) (by decide) rfl ⟨by decide, by decide, by decide +kernel⟩ ⟨rfl, rfl⟩ ⟨by decide, by decide⟩ ⟨Nat.le_refl _, Nat.le_refl _⟩, List.forall_mem_cons.mpr ⟨call_V conX3_keyAt cwX3_keyAt (lw_gl _ [809, 372, 373, 25] (by decide +kernel) (by decide +kernel)) (by decide) rfl ⟨by decide, by decide, by decide +kernel⟩ ⟨rfl, rfl⟩ ⟨by decide, by decide⟩ ⟨Nat.le_refl _, Nat.le_refl _⟩, List.forall_mem_cons.mpr ⟨call_V conX5_isShared cwX5_isShared (lw_gl _ [810, 812, 18, 24] (by decide +kernel) (by decide +kernel)) (by decide) rfl ⟨by decide, by decide, by decide +kernel⟩ ⟨rfl, rfl⟩ ⟨by decide, by decide⟩ ⟨Nat.le_refl _, Nat.le_refl _⟩, fun _ h => absurd h List.not_mem_nil⟩⟩⟩) (Or.inr (Or.inl ⟨rfl, rfl⟩))
theorem uX5_sharedKeys {i : Nat} {a0 : Int} {a1 : Int} {S : MM} : fX5_sharedKeys [vR i, vI a0, vI a1] S = rn xX5_sharedKeys (0, [some (vR i), some (vI a0), some (vI a1), none, none], [], S) := rfl
theorem dX5_sharedKeys_0 : decode cX5_sharedKeys 0 = .ok (.iconst 0, 1) := by decide +kernel
theorem dX5_sharedKeys_1 : decode cX5_sharedKeys 1 = .ok (.istore_n 3, 1) := by decide +kernel
theorem dX5_sharedKeys_2 : decode cX5_sharedKeys 2 = .ok (.iconst 0, 1) := by decide +kernel
theorem dX5_sharedKeys_3 : decode cX5_sharedKeys 3 = .ok (.istore 4, 2) := by decide +kernel
theorem dX5_sharedKeys_5 : decode cX5_sharedKeys 5 = .ok (.iload 4, 2) := by decide +kernel
theorem dX5_sharedKeys_7 : decode cX5_sharedKeys 7 = .ok (.aload_n 0, 1) := by decide +kernel
theorem dX5_sharedKeys_8 : decode cX5_sharedKeys 8 = .ok (.getfield 12, 3) := by decide +kernel
theorem dX5_sharedKeys_11 : decode cX5_sharedKeys 11 = .ok (.invokevirtual 24, 3) := by decide +kernel
theorem dX5_sharedKeys_14 : decode cX5_sharedKeys 14 = .ok (.if_icmp .ge 30, 3) := by decide +kernel
theorem dX5_sharedKeys_17 : decode cX5_sharedKeys 17 = .ok (.aload_n 0, 1) := by decide +kernel
theorem dX5_sharedKeys_18 : decode cX5_sharedKeys 18 = .ok (.aload_n 0, 1) := by decide +kernel
theorem dX5_sharedKeys_19 : decode cX5_sharedKeys 19 = .ok (.getfield 12, 3) := by decide +kernel
theorem dX5_sharedKeys_22 : decode cX5_sharedKeys 22 = .ok (.iload 4, 2) := by decide +kernel
theorem dX5_sharedKeys_24 : decode cX5_sharedKeys 24 = .ok (.invokevirtual 39, 3) := by decide +kernel
theorem dX5_sharedKeys_27 : decode cX5_sharedKeys 27 = .ok (.iload_n 1, 1) := by decide +kernel
theorem dX5_sharedKeys_28 : decode cX5_sharedKeys 28 = .ok (.iload_n 2, 1) := by decide +kernel
theorem dX5_sharedKeys_29 : decode cX5_sharedKeys 29 = .ok (.invokevirtual 42, 3) := by decide +kernel
theorem dX5_sharedKeys_32 : decode cX5_sharedKeys 32 = .ok (.ifCond .eq 6, 3) := by decide +kernel
theorem dX5_sharedKeys_35 : decode cX5_sharedKeys 35 = .ok (.iinc 3 1, 3) := by decide +kernel
theorem dX5_sharedKeys_38 : decode cX5_sharedKeys 38 = .ok (.iinc 4 1, 3) := by decide +kernel
theorem dX5_sharedKeys_41 : decode cX5_sharedKeys 41 = .ok (.goto (-36), 3) := by decide +kernel
theorem dX5_sharedKeys_44 : decode cX5_sharedKeys 44 = .ok (.iload_n 3, 1) := by decide +kernel
theorem dX5_sharedKeys_45 : decode cX5_sharedKeys 45 = .ok (.ireturn, 1) := by decide +kernel
theorem eX5_sharedKeys_0 {l0 l1 l2 l3 l4 : Option VV} {S : MM} : rn xX5_sharedKeys (0, [l0, l1, l2, l3, l4], [], S) = rn xX5_sharedKeys (1, [l0, l1, l2, l3, l4], [vI 0], S) := rn_step dX5_sharedKeys_0 rfl rfl
theorem eX5_sharedKeys_1 {a : Int} {w : Int} {l0 l1 l3 l4 : Option VV} {S : MM} : rn xX5_sharedKeys (1, [l0, l1, some (vI w), l3, l4], [vI a], S) = rn xX5_sharedKeys (2, [l0, l1, some (vI w), some (vI a), l4], [], S) := rn_step dX5_sharedKeys_1 rfl rfl
theorem eX5_sharedKeys_2 {l0 l1 l2 l3 l4 : Option VV} {S : MM} : rn xX5_sharedKeys (2, [l0, l1, l2, l3, l4], [], S) = rn xX5_sharedKeys (3, [l0, l1, l2, l3, l4], [vI 0], S) := rn_step dX5_sharedKeys_2 rfl rfl
theorem eX5_sharedKeys_3 {a : Int} {w : Int} {l0 l1 l2 l4 : Option VV} {S : MM} : rn xX5_sharedKeys (3, [l0, l1, l2, some (vI w), l4], [vI a], S) = rn xX5_sharedKeys (5, [l0, l1, l2, some (vI w), some (vI a)], [], S) := rn_step dX5_sharedKeys_3 rfl rfl
theorem eX5_sharedKeys_5 {a : Int} {l0 l1 l2 l3 : Option VV} {S : MM} : rn xX5_sharedKeys (5, [l0, l1, l2, l3, some (vI a)], [], S) = rn xX5_sharedKeys (7, [l0, l1, l2, l3, some (vI a)], [vI a], S) := rn_step dX5_sharedKeys_5 rfl rfl
theorem eX5_sharedKeys_7 {a : Option Nat} {l1 l2 l3 l4 : Option VV} {v0 : VV} {S : MM} : rn xX5_sharedKeys (7, [some (.inr (.inl a)), l1, l2, l3, l4], [v0], S) = rn xX5_sharedKeys (8, [some (.inr (.inl a)), l1, l2, l3, l4], [.inr (.inl a), v0], S) := rn_step dX5_sharedKeys_7 rfl rfl
theorem eX5_sharedKeys_8 {i : Nat} {l0 l1 l2 l3 l4 : Option VV} {v1 : VV} (h : kd i = 5) {S : MM} : rn xX5_sharedKeys (8, [l0, l1, l2, l3, l4], [vR i, v1], S) = rn xX5_sharedKeys (11, [l0, l1, l2, l3, l4], [vR (i + 1), v1], S) := q_getR dX5_sharedKeys_8 rfl ⟨⟨by decide, by decide⟩, by decide⟩ (fun h => (fref5 h).trans (by first | rfl | omega)) h
theorem eX5_sharedKeys_11 {i : Nat} {l0 l1 l2 l3 l4 : Option VV} {v1 : VV} (h : kd i = 3) {S : MM} : rn xX5_sharedKeys (11, [l0, l1, l2, l3, l4], [vR i, v1], S) = (fX3_size [vR i] S).bind (fun q => rn xX5_sharedKeys (14, [l0, l1, l2, l3, l4], q.1.toList ++ [v1], q.2)) := q_callV (n := 0) (as := []) (rest := [v1]) dX5_sharedKeys_11 rfl rfl rfl rfl h
theorem eX5_sharedKeys_14 {a b : Int} {l0 l1 l2 l3 l4 : Option VV} (h : -2147483648 ≤ a ∧ a ≤ 2147483647) (h1 : -2147483648 ≤ b ∧ b ≤ 2147483647) {S : MM} : rn xX5_sharedKeys (14, [l0, l1, l2, l3, l4], [vI b, vI a], S) = if a < b then rn xX5_sharedKeys (17, [l0, l1, l2, l3, l4], [], S) else rn xX5_sharedKeys (44, [l0, l1, l2, l3, l4], [], S) := q_icmp_ge dX5_sharedKeys_14 (by decide) rfl h h1
theorem eX5_sharedKeys_17 {a : Option Nat} {l1 l2 l3 l4 : Option VV} {S : MM} : rn xX5_sharedKeys (17, [some (.inr (.inl a)), l1, l2, l3, l4], [], S) = rn xX5_sharedKeys (18, [some (.inr (.inl a)), l1, l2, l3, l4], [.inr (.inl a)], S) := rn_step dX5_sharedKeys_17 rfl rfl
theorem eX5_sharedKeys_18 {a : Option Nat} {l1 l2 l3 l4 : Option VV} {v0 : VV} {S : MM} : rn xX5_sharedKeys (18, [some (.inr (.inl a)), l1, l2, l3, l4], [v0], S) = rn xX5_sharedKeys (19, [some (.inr (.inl a)), l1, l2, l3, l4], [.inr (.inl a), v0], S) := rn_step dX5_sharedKeys_18 rfl rfl
theorem eX5_sharedKeys_19 {i : Nat} {l0 l1 l2 l3 l4 : Option VV} {v1 : VV} (h : kd i = 5) {S : MM} : rn xX5_sharedKeys (19, [l0, l1, l2, l3, l4], [vR i, v1], S) = rn xX5_sharedKeys (22, [l0, l1, l2, l3, l4], [vR (i + 1), v1], S) := q_getR dX5_sharedKeys_19 rfl ⟨⟨by decide, by decide⟩, by decide⟩ (fun h => (fref5 h).trans (by first | rfl | omega)) h
theorem eX5_sharedKeys_22 {a : Int} {l0 l1 l2 l3 : Option VV} {v0 v1 : VV} {S : MM} : rn xX5_sharedKeys (22, [l0, l1, l2, l3, some (vI a)], [v0, v1], S) = rn xX5_sharedKeys (24, [l0, l1, l2, l3, some (vI a)], [vI a, v0, v1], S) := rn_step dX5_sharedKeys_22 rfl rfl
theorem eX5_sharedKeys_24 {a0 : Int} {i : Nat} {l0 l1 l2 l3 l4 : Option VV} {v2 : VV} (h : kd i = 3) {S : MM} : rn xX5_sharedKeys (24, [l0, l1, l2, l3, l4], [vI a0, vR i, v2], S) = (fX3_keyAt [vR i, vI a0] S).bind (fun q => rn xX5_sharedKeys (27, [l0, l1, l2, l3, l4], q.1.toList ++ [v2], q.2)) := q_callV (n := 1) (as := [vI a0]) (rest := [v2]) dX5_sharedKeys_24 rfl rfl rfl rfl h
theorem eX5_sharedKeys_27 {a : Int} {l0 l2 l3 l4 : Option VV} {v0 v1 : VV} {S : MM} : rn xX5_sharedKeys (27, [l0, some (vI a), l2, l3, l4], [v0, v1], S) = rn xX5_sharedKeys (28, [l0, some (vI a), l2, l3, l4], [vI a, v0, v1], S) := rn_step dX5_sharedKeys_27 rfl rfl
theorem eX5_sharedKeys_28 {a : Int} {l0 l1 l3 l4 : Option VV} {v0 v1 v2 : VV} {S : MM} : rn xX5_sharedKeys (28, [l0, l1, some (vI a), l3, l4], [v0, v1, v2], S) = rn xX5_sharedKeys (29, [l0, l1, some (vI a), l3, l4], [vI a, v0, v1, v2], S) := rn_step dX5_sharedKeys_28 rfl rfl
theorem eX5_sharedKeys_29 {a0 : Int} {a1 : Int} {a2 : Int} {i : Nat} {l0 l1 l2 l3 l4 : Option VV} (h : kd i = 5) {S : MM} : rn xX5_sharedKeys (29, [l0, l1, l2, l3, l4], [vI a2, vI a1, vI a0, vR i], S) = (fX5_isShared [vR i, vI a0, vI a1, vI a2] S).bind (fun q => rn xX5_sharedKeys (32, [l0, l1, l2, l3, l4], q.1.toList ++ [], q.2)) := q_callV (n := 3) (as := [vI a0, vI a1, vI a2]) (rest := []) dX5_sharedKeys_29 rfl rfl rfl rfl h
theorem eX5_sharedKeys_32 {a : Int} {l0 l1 l2 l3 l4 : Option VV} (h : -2147483648 ≤ a ∧ a ≤ 2147483647) {S : MM} : rn xX5_sharedKeys (32, [l0, l1, l2, l3, l4], [vI a], S) = if a = 0 then rn xX5_sharedKeys (38, [l0, l1, l2, l3, l4], [], S) else rn xX5_sharedKeys (35, [l0, l1, l2, l3, l4], [], S) := q_if_eq dX5_sharedKeys_32 (by decide) rfl h
theorem eX5_sharedKeys_35 {a : Int} {w : Int} {l0 l1 l4 : Option VV} {S : MM} : rn xX5_sharedKeys (35, [l0, l1, some (vI w), some (vI a), l4], [], S) = rn xX5_sharedKeys (38, [l0, l1, some (vI w), some (vI (a + 1)), l4], [], S) := rn_step dX5_sharedKeys_35 rfl rfl
theorem eX5_sharedKeys_38 {a : Int} {w : Int} {l0 l1 l2 : Option VV} {S : MM} : rn xX5_sharedKeys (38, [l0, l1, l2, some (vI w), some (vI a)], [], S) = rn xX5_sharedKeys (41, [l0, l1, l2, some (vI w), some (vI (a + 1))], [], S) := rn_step dX5_sharedKeys_38 rfl rfl
theorem eX5_sharedKeys_41 {l0 l1 l2 l3 l4 : Option VV} {S : MM} : rn xX5_sharedKeys (41, [l0, l1, l2, l3, l4], [], S) = rn xX5_sharedKeys (5, [l0, l1, l2, l3, l4], [], S) := rn_step dX5_sharedKeys_41 rfl rfl
theorem eX5_sharedKeys_44 {a : Int} {l0 l1 l2 l4 : Option VV} {S : MM} : rn xX5_sharedKeys (44, [l0, l1, l2, some (vI a), l4], [], S) = rn xX5_sharedKeys (45, [l0, l1, l2, some (vI a), l4], [vI a], S) := rn_step dX5_sharedKeys_44 rfl rfl
theorem eX5_sharedKeys_45 {z : Int} {l0 l1 l2 l3 l4 : Option VV} {S : MM} : rn xX5_sharedKeys (45, [l0, l1, l2, l3, l4], [vI z], S) = some (some (vI z), S) := q_retI dX5_sharedKeys_45 rfl
noncomputable def qlX5_rowsBetween : List CE := [(0, 24, 3, 1, fX3_size), (0, 39, 3, 2, fX3_keyAt), (1, 32, 0, 3, fX8_isBetween), (0, 36, 5, 2, fX5_rowsAt)]
noncomputable def xX5_rowsBetween : XX := (cX5_rowsBetween, fcF fcl5, mcF qlX5_rowsBetween, 1)
noncomputable def fX5_rowsBetween : FN := fnX xX5_rowsBetween 5
set_option maxRecDepth 100000 in
theorem cwX5_rowsBetween : Cond.code yX5_rowsBetween cX5_rowsBetween 5 (some .int) ∈ lw_g := lw_gm 819 (by decide +kernel) (by decide +kernel)
set_option maxRecDepth 100000 in
theorem conX5_rowsBetween : Con yX5_rowsBetween cX5_rowsBetween 5 (some .int) { frames := 2, cells := 0, slots := 0, locals := 43 } fX5_rowsBetween := con_of (X := xX5_rowsBetween) (own := "LeapStones$River") (ql := qlX5_rowsBetween) (by decide) rfl FOK5 rfl (List.forall_mem_cons.mpr ⟨call_V conX3_size cwX3_size (lw_gl _ [494, 399, 400, 25] (by decide +kernel) (by decide +kernel)) (by decide) rfl ⟨by decide, by decide, by decide +kernel⟩ ⟨rfl, rfl⟩ ⟨by decide, by decide⟩ ⟨Nat.le_refl _, Nat.le_refl _⟩, List.forall_mem_cons.mpr ⟨call_V conX3_keyAt cwX3_keyAt (lw_gl _ [809, 372, 373, 25] (by decide +kernel) (by decide +kernel)) (by decide) rfl ⟨by decide, by decide, by decide +kernel⟩ ⟨rfl, rfl⟩ ⟨by decide, by decide⟩ ⟨Nat.le_refl _, Nat.le_refl _⟩, List.forall_mem_cons.mpr ⟨call_N conX8_isBetween cwX8_isBetween (lw_gl _ [251, 21] (by decide +kernel) (by decide +kernel)) (List.mem_of_getElem? (i := 28) (by decide +kernel)) ⟨by decide, by decide, by decide +kernel⟩ ⟨rfl, rfl⟩ ⟨by decide, by decide⟩ ⟨Nat.le_refl _, Nat.le_refl _⟩, List.forall_mem_cons.mpr ⟨call_V conX5_rowsAt cwX5_rowsAt (lw_gl _ [815, 482, 483, 24] (by decide +kernel) (by decide +kernel)) (by decide) rfl ⟨by decide, by decide, by decide +kernel⟩ ⟨rfl, rfl⟩ ⟨by decide, by decide⟩ ⟨Nat.le_refl _, Nat.le_refl _⟩, fun _ h => absurd h List.not_mem_nil⟩⟩⟩⟩) (Or.inr (Or.inl ⟨rfl, rfl⟩))
theorem uX5_rowsBetween {i : Nat} {a0 : Int} {a1 : Int} {S : MM} : fX5_rowsBetween [vR i, vI a0, vI a1] S = rn xX5_rowsBetween (0, [some (vR i), some (vI a0), some (vI a1), none, none], [], S) := rfl
theorem dX5_rowsBetween_0 : decode cX5_rowsBetween 0 = .ok (.iconst 0, 1) := by decide +kernel
theorem dX5_rowsBetween_1 : decode cX5_rowsBetween 1 = .ok (.istore_n 3, 1) := by decide +kernel
theorem dX5_rowsBetween_2 : decode cX5_rowsBetween 2 = .ok (.iconst 0, 1) := by decide +kernel
theorem dX5_rowsBetween_3 : decode cX5_rowsBetween 3 = .ok (.istore 4, 2) := by decide +kernel
theorem dX5_rowsBetween_5 : decode cX5_rowsBetween 5 = .ok (.iload 4, 2) := by decide +kernel
theorem dX5_rowsBetween_7 : decode cX5_rowsBetween 7 = .ok (.aload_n 0, 1) := by decide +kernel
theorem dX5_rowsBetween_8 : decode cX5_rowsBetween 8 = .ok (.getfield 12, 3) := by decide +kernel
theorem dX5_rowsBetween_11 : decode cX5_rowsBetween 11 = .ok (.invokevirtual 24, 3) := by decide +kernel
theorem dX5_rowsBetween_14 : decode cX5_rowsBetween 14 = .ok (.if_icmp .ge 42, 3) := by decide +kernel
theorem dX5_rowsBetween_17 : decode cX5_rowsBetween 17 = .ok (.aload_n 0, 1) := by decide +kernel
theorem dX5_rowsBetween_18 : decode cX5_rowsBetween 18 = .ok (.getfield 12, 3) := by decide +kernel
theorem dX5_rowsBetween_21 : decode cX5_rowsBetween 21 = .ok (.iload 4, 2) := by decide +kernel
theorem dX5_rowsBetween_23 : decode cX5_rowsBetween 23 = .ok (.invokevirtual 39, 3) := by decide +kernel
theorem dX5_rowsBetween_26 : decode cX5_rowsBetween 26 = .ok (.iload_n 1, 1) := by decide +kernel
theorem dX5_rowsBetween_27 : decode cX5_rowsBetween 27 = .ok (.iload_n 2, 1) := by decide +kernel
theorem dX5_rowsBetween_28 : decode cX5_rowsBetween 28 = .ok (.invokestatic 32, 3) := by decide +kernel
theorem dX5_rowsBetween_31 : decode cX5_rowsBetween 31 = .ok (.ifCond .eq 19, 3) := by decide +kernel
theorem dX5_rowsBetween_34 : decode cX5_rowsBetween 34 = .ok (.iload_n 3, 1) := by decide +kernel
theorem dX5_rowsBetween_35 : decode cX5_rowsBetween 35 = .ok (.aload_n 0, 1) := by decide +kernel
theorem dX5_rowsBetween_36 : decode cX5_rowsBetween 36 = .ok (.aload_n 0, 1) := by decide +kernel
theorem dX5_rowsBetween_37 : decode cX5_rowsBetween 37 = .ok (.getfield 12, 3) := by decide +kernel
theorem dX5_rowsBetween_40 : decode cX5_rowsBetween 40 = .ok (.iload 4, 2) := by decide +kernel
theorem dX5_rowsBetween_42 : decode cX5_rowsBetween 42 = .ok (.invokevirtual 39, 3) := by decide +kernel
theorem dX5_rowsBetween_45 : decode cX5_rowsBetween 45 = .ok (.invokevirtual 36, 3) := by decide +kernel
theorem dX5_rowsBetween_48 : decode cX5_rowsBetween 48 = .ok (.iadd, 1) := by decide +kernel
theorem dX5_rowsBetween_49 : decode cX5_rowsBetween 49 = .ok (.istore_n 3, 1) := by decide +kernel
theorem dX5_rowsBetween_50 : decode cX5_rowsBetween 50 = .ok (.iinc 4 1, 3) := by decide +kernel
theorem dX5_rowsBetween_53 : decode cX5_rowsBetween 53 = .ok (.goto (-48), 3) := by decide +kernel
theorem dX5_rowsBetween_56 : decode cX5_rowsBetween 56 = .ok (.iload_n 3, 1) := by decide +kernel
theorem dX5_rowsBetween_57 : decode cX5_rowsBetween 57 = .ok (.ireturn, 1) := by decide +kernel
theorem eX5_rowsBetween_0 {l0 l1 l2 l3 l4 : Option VV} {S : MM} : rn xX5_rowsBetween (0, [l0, l1, l2, l3, l4], [], S) = rn xX5_rowsBetween (1, [l0, l1, l2, l3, l4], [vI 0], S) := rn_step dX5_rowsBetween_0 rfl rfl
theorem eX5_rowsBetween_1 {a : Int} {w : Int} {l0 l1 l3 l4 : Option VV} {S : MM} : rn xX5_rowsBetween (1, [l0, l1, some (vI w), l3, l4], [vI a], S) = rn xX5_rowsBetween (2, [l0, l1, some (vI w), some (vI a), l4], [], S) := rn_step dX5_rowsBetween_1 rfl rfl
theorem eX5_rowsBetween_2 {l0 l1 l2 l3 l4 : Option VV} {S : MM} : rn xX5_rowsBetween (2, [l0, l1, l2, l3, l4], [], S) = rn xX5_rowsBetween (3, [l0, l1, l2, l3, l4], [vI 0], S) := rn_step dX5_rowsBetween_2 rfl rfl
theorem eX5_rowsBetween_3 {a : Int} {w : Int} {l0 l1 l2 l4 : Option VV} {S : MM} : rn xX5_rowsBetween (3, [l0, l1, l2, some (vI w), l4], [vI a], S) = rn xX5_rowsBetween (5, [l0, l1, l2, some (vI w), some (vI a)], [], S) := rn_step dX5_rowsBetween_3 rfl rfl
theorem eX5_rowsBetween_5 {a : Int} {l0 l1 l2 l3 : Option VV} {S : MM} : rn xX5_rowsBetween (5, [l0, l1, l2, l3, some (vI a)], [], S) = rn xX5_rowsBetween (7, [l0, l1, l2, l3, some (vI a)], [vI a], S) := rn_step dX5_rowsBetween_5 rfl rfl
theorem eX5_rowsBetween_7 {a : Option Nat} {l1 l2 l3 l4 : Option VV} {v0 : VV} {S : MM} : rn xX5_rowsBetween (7, [some (.inr (.inl a)), l1, l2, l3, l4], [v0], S) = rn xX5_rowsBetween (8, [some (.inr (.inl a)), l1, l2, l3, l4], [.inr (.inl a), v0], S) := rn_step dX5_rowsBetween_7 rfl rfl
theorem eX5_rowsBetween_8 {i : Nat} {l0 l1 l2 l3 l4 : Option VV} {v1 : VV} (h : kd i = 5) {S : MM} : rn xX5_rowsBetween (8, [l0, l1, l2, l3, l4], [vR i, v1], S) = rn xX5_rowsBetween (11, [l0, l1, l2, l3, l4], [vR (i + 1), v1], S) := q_getR dX5_rowsBetween_8 rfl ⟨⟨by decide, by decide⟩, by decide⟩ (fun h => (fref5 h).trans (by first | rfl | omega)) h
theorem eX5_rowsBetween_11 {i : Nat} {l0 l1 l2 l3 l4 : Option VV} {v1 : VV} (h : kd i = 3) {S : MM} : rn xX5_rowsBetween (11, [l0, l1, l2, l3, l4], [vR i, v1], S) = (fX3_size [vR i] S).bind (fun q => rn xX5_rowsBetween (14, [l0, l1, l2, l3, l4], q.1.toList ++ [v1], q.2)) := q_callV (n := 0) (as := []) (rest := [v1]) dX5_rowsBetween_11 rfl rfl rfl rfl h
theorem eX5_rowsBetween_14 {a b : Int} {l0 l1 l2 l3 l4 : Option VV} (h : -2147483648 ≤ a ∧ a ≤ 2147483647) (h1 : -2147483648 ≤ b ∧ b ≤ 2147483647) {S : MM} : rn xX5_rowsBetween (14, [l0, l1, l2, l3, l4], [vI b, vI a], S) = if a < b then rn xX5_rowsBetween (17, [l0, l1, l2, l3, l4], [], S) else rn xX5_rowsBetween (56, [l0, l1, l2, l3, l4], [], S) := q_icmp_ge dX5_rowsBetween_14 (by decide) rfl h h1
theorem eX5_rowsBetween_17 {a : Option Nat} {l1 l2 l3 l4 : Option VV} {S : MM} : rn xX5_rowsBetween (17, [some (.inr (.inl a)), l1, l2, l3, l4], [], S) = rn xX5_rowsBetween (18, [some (.inr (.inl a)), l1, l2, l3, l4], [.inr (.inl a)], S) := rn_step dX5_rowsBetween_17 rfl rfl
theorem eX5_rowsBetween_18 {i : Nat} {l0 l1 l2 l3 l4 : Option VV} (h : kd i = 5) {S : MM} : rn xX5_rowsBetween (18, [l0, l1, l2, l3, l4], [vR i], S) = rn xX5_rowsBetween (21, [l0, l1, l2, l3, l4], [vR (i + 1)], S) := q_getR dX5_rowsBetween_18 rfl ⟨⟨by decide, by decide⟩, by decide⟩ (fun h => (fref5 h).trans (by first | rfl | omega)) h
theorem eX5_rowsBetween_21 {a : Int} {l0 l1 l2 l3 : Option VV} {v0 : VV} {S : MM} : rn xX5_rowsBetween (21, [l0, l1, l2, l3, some (vI a)], [v0], S) = rn xX5_rowsBetween (23, [l0, l1, l2, l3, some (vI a)], [vI a, v0], S) := rn_step dX5_rowsBetween_21 rfl rfl
theorem eX5_rowsBetween_23 {a0 : Int} {i : Nat} {l0 l1 l2 l3 l4 : Option VV} (h : kd i = 3) {S : MM} : rn xX5_rowsBetween (23, [l0, l1, l2, l3, l4], [vI a0, vR i], S) = (fX3_keyAt [vR i, vI a0] S).bind (fun q => rn xX5_rowsBetween (26, [l0, l1, l2, l3, l4], q.1.toList ++ [], q.2)) := q_callV (n := 1) (as := [vI a0]) (rest := []) dX5_rowsBetween_23 rfl rfl rfl rfl h
theorem eX5_rowsBetween_26 {a : Int} {l0 l2 l3 l4 : Option VV} {v0 : VV} {S : MM} : rn xX5_rowsBetween (26, [l0, some (vI a), l2, l3, l4], [v0], S) = rn xX5_rowsBetween (27, [l0, some (vI a), l2, l3, l4], [vI a, v0], S) := rn_step dX5_rowsBetween_26 rfl rfl
theorem eX5_rowsBetween_27 {a : Int} {l0 l1 l3 l4 : Option VV} {v0 v1 : VV} {S : MM} : rn xX5_rowsBetween (27, [l0, l1, some (vI a), l3, l4], [v0, v1], S) = rn xX5_rowsBetween (28, [l0, l1, some (vI a), l3, l4], [vI a, v0, v1], S) := rn_step dX5_rowsBetween_27 rfl rfl
theorem eX5_rowsBetween_28 {a0 : Int} {a1 : Int} {a2 : Int} {l0 l1 l2 l3 l4 : Option VV} {S : MM} : rn xX5_rowsBetween (28, [l0, l1, l2, l3, l4], [vI a2, vI a1, vI a0], S) = (fX8_isBetween [vI a0, vI a1, vI a2] S).bind (fun q => rn xX5_rowsBetween (31, [l0, l1, l2, l3, l4], q.1.toList ++ [], q.2)) := q_callS (n := 3) (as := [vI a0, vI a1, vI a2]) (rest := []) dX5_rowsBetween_28 rfl rfl rfl rfl
theorem eX5_rowsBetween_31 {a : Int} {l0 l1 l2 l3 l4 : Option VV} (h : -2147483648 ≤ a ∧ a ≤ 2147483647) {S : MM} : rn xX5_rowsBetween (31, [l0, l1, l2, l3, l4], [vI a], S) = if a = 0 then rn xX5_rowsBetween (50, [l0, l1, l2, l3, l4], [], S) else rn xX5_rowsBetween (34, [l0, l1, l2, l3, l4], [], S) := q_if_eq dX5_rowsBetween_31 (by decide) rfl h
theorem eX5_rowsBetween_34 {a : Int} {l0 l1 l2 l4 : Option VV} {S : MM} : rn xX5_rowsBetween (34, [l0, l1, l2, some (vI a), l4], [], S) = rn xX5_rowsBetween (35, [l0, l1, l2, some (vI a), l4], [vI a], S) := rn_step dX5_rowsBetween_34 rfl rfl
theorem eX5_rowsBetween_35 {a : Option Nat} {l1 l2 l3 l4 : Option VV} {v0 : VV} {S : MM} : rn xX5_rowsBetween (35, [some (.inr (.inl a)), l1, l2, l3, l4], [v0], S) = rn xX5_rowsBetween (36, [some (.inr (.inl a)), l1, l2, l3, l4], [.inr (.inl a), v0], S) := rn_step dX5_rowsBetween_35 rfl rfl
theorem eX5_rowsBetween_36 {a : Option Nat} {l1 l2 l3 l4 : Option VV} {v0 v1 : VV} {S : MM} : rn xX5_rowsBetween (36, [some (.inr (.inl a)), l1, l2, l3, l4], [v0, v1], S) = rn xX5_rowsBetween (37, [some (.inr (.inl a)), l1, l2, l3, l4], [.inr (.inl a), v0, v1], S) := rn_step dX5_rowsBetween_36 rfl rfl
theorem eX5_rowsBetween_37 {i : Nat} {l0 l1 l2 l3 l4 : Option VV} {v1 v2 : VV} (h : kd i = 5) {S : MM} : rn xX5_rowsBetween (37, [l0, l1, l2, l3, l4], [vR i, v1, v2], S) = rn xX5_rowsBetween (40, [l0, l1, l2, l3, l4], [vR (i + 1), v1, v2], S) := q_getR dX5_rowsBetween_37 rfl ⟨⟨by decide, by decide⟩, by decide⟩ (fun h => (fref5 h).trans (by first | rfl | omega)) h
theorem eX5_rowsBetween_40 {a : Int} {l0 l1 l2 l3 : Option VV} {v0 v1 v2 : VV} {S : MM} : rn xX5_rowsBetween (40, [l0, l1, l2, l3, some (vI a)], [v0, v1, v2], S) = rn xX5_rowsBetween (42, [l0, l1, l2, l3, some (vI a)], [vI a, v0, v1, v2], S) := rn_step dX5_rowsBetween_40 rfl rfl
theorem eX5_rowsBetween_42 {a0 : Int} {i : Nat} {l0 l1 l2 l3 l4 : Option VV} {v2 v3 : VV} (h : kd i = 3) {S : MM} : rn xX5_rowsBetween (42, [l0, l1, l2, l3, l4], [vI a0, vR i, v2, v3], S) = (fX3_keyAt [vR i, vI a0] S).bind (fun q => rn xX5_rowsBetween (45, [l0, l1, l2, l3, l4], q.1.toList ++ [v2, v3], q.2)) := q_callV (n := 1) (as := [vI a0]) (rest := [v2, v3]) dX5_rowsBetween_42 rfl rfl rfl rfl h
theorem eX5_rowsBetween_45 {a0 : Int} {i : Nat} {l0 l1 l2 l3 l4 : Option VV} {v2 : VV} (h : kd i = 5) {S : MM} : rn xX5_rowsBetween (45, [l0, l1, l2, l3, l4], [vI a0, vR i, v2], S) = (fX5_rowsAt [vR i, vI a0] S).bind (fun q => rn xX5_rowsBetween (48, [l0, l1, l2, l3, l4], q.1.toList ++ [v2], q.2)) := q_callV (n := 1) (as := [vI a0]) (rest := [v2]) dX5_rowsBetween_45 rfl rfl rfl rfl h
theorem eX5_rowsBetween_48 {a b : Int} {l0 l1 l2 l3 l4 : Option VV} {S : MM} : rn xX5_rowsBetween (48, [l0, l1, l2, l3, l4], [vI b, vI a], S) = rn xX5_rowsBetween (49, [l0, l1, l2, l3, l4], [vI (a + b)], S) := rn_step dX5_rowsBetween_48 rfl rfl
theorem eX5_rowsBetween_49 {a : Int} {w : Int} {l0 l1 l3 l4 : Option VV} {S : MM} : rn xX5_rowsBetween (49, [l0, l1, some (vI w), l3, l4], [vI a], S) = rn xX5_rowsBetween (50, [l0, l1, some (vI w), some (vI a), l4], [], S) := rn_step dX5_rowsBetween_49 rfl rfl
theorem eX5_rowsBetween_50 {a : Int} {w : Int} {l0 l1 l2 : Option VV} {S : MM} : rn xX5_rowsBetween (50, [l0, l1, l2, some (vI w), some (vI a)], [], S) = rn xX5_rowsBetween (53, [l0, l1, l2, some (vI w), some (vI (a + 1))], [], S) := rn_step dX5_rowsBetween_50 rfl rfl
theorem eX5_rowsBetween_53 {l0 l1 l2 l3 l4 : Option VV} {S : MM} : rn xX5_rowsBetween (53, [l0, l1, l2, l3, l4], [], S) = rn xX5_rowsBetween (5, [l0, l1, l2, l3, l4], [], S) := rn_step dX5_rowsBetween_53 rfl rfl
theorem eX5_rowsBetween_56 {a : Int} {l0 l1 l2 l4 : Option VV} {S : MM} : rn xX5_rowsBetween (56, [l0, l1, l2, some (vI a), l4], [], S) = rn xX5_rowsBetween (57, [l0, l1, l2, some (vI a), l4], [vI a], S) := rn_step dX5_rowsBetween_56 rfl rfl
theorem eX5_rowsBetween_57 {z : Int} {l0 l1 l2 l3 l4 : Option VV} {S : MM} : rn xX5_rowsBetween (57, [l0, l1, l2, l3, l4], [vI z], S) = some (some (vI z), S) := q_retI dX5_rowsBetween_57 rfl
noncomputable def qlX5_firstShared : List CE := [(0, 24, 3, 1, fX3_size), (0, 39, 3, 2, fX3_keyAt), (0, 42, 5, 4, fX5_isShared)]
noncomputable def xX5_firstShared : XX := (cX5_firstShared, fcF fcl5, mcF qlX5_firstShared, 1)
noncomputable def fX5_firstShared : FN := fnX xX5_firstShared 4
set_option maxRecDepth 100000 in
theorem cwX5_firstShared : Cond.code yX5_firstShared cX5_firstShared 4 (some .int) ∈ lw_g := lw_gm 823 (by decide +kernel) (by decide +kernel)
set_option maxRecDepth 100000 in
theorem conX5_firstShared : Con yX5_firstShared cX5_firstShared 4 (some .int) { frames := 3, cells := 0, slots := 0, locals := 66 } fX5_firstShared := con_of (X := xX5_firstShared) (own := "LeapStones$River") (ql := qlX5_firstShared) (by decide) rfl FOK5 rfl (List.forall_mem_cons.mpr ⟨call_V conX3_size cwX3_size (lw_gl _ [494, 399, 400, 25] (by decide +kernel) (by decide +kernel)) (by decide) rfl ⟨by decide, by decide, by decide +kernel⟩ ⟨rfl, rfl⟩ ⟨by decide, by decide⟩ ⟨Nat.le_refl _, Nat.le_refl _⟩, List.forall_mem_cons.mpr ⟨call_V conX3_keyAt cwX3_keyAt (lw_gl _ [809, 372, 373, 25] (by decide +kernel) (by decide +kernel)) (by decide) rfl ⟨by decide, by decide, by decide +kernel⟩ ⟨rfl, rfl⟩ ⟨by decide, by decide⟩ ⟨Nat.le_refl _, Nat.le_refl _⟩, List.forall_mem_cons.mpr ⟨call_V conX5_isShared cwX5_isShared (lw_gl _ [810, 812, 18, 24] (by decide +kernel) (by decide +kernel)) (by decide) rfl ⟨by decide, by decide, by decide +kernel⟩ ⟨rfl, rfl⟩ ⟨by decide, by decide⟩ ⟨Nat.le_refl _, Nat.le_refl _⟩, fun _ h => absurd h List.not_mem_nil⟩⟩⟩) (Or.inr (Or.inl ⟨rfl, rfl⟩))
theorem uX5_firstShared {i : Nat} {a0 : Int} {a1 : Int} {S : MM} : fX5_firstShared [vR i, vI a0, vI a1] S = rn xX5_firstShared (0, [some (vR i), some (vI a0), some (vI a1), none], [], S) := rfl
theorem dX5_firstShared_0 : decode cX5_firstShared 0 = .ok (.iconst 0, 1) := by decide +kernel
theorem dX5_firstShared_1 : decode cX5_firstShared 1 = .ok (.istore_n 3, 1) := by decide +kernel
theorem dX5_firstShared_2 : decode cX5_firstShared 2 = .ok (.iload_n 3, 1) := by decide +kernel
theorem dX5_firstShared_3 : decode cX5_firstShared 3 = .ok (.aload_n 0, 1) := by decide +kernel
theorem dX5_firstShared_4 : decode cX5_firstShared 4 = .ok (.getfield 12, 3) := by decide +kernel
theorem dX5_firstShared_7 : decode cX5_firstShared 7 = .ok (.invokevirtual 24, 3) := by decide +kernel
theorem dX5_firstShared_10 : decode cX5_firstShared 10 = .ok (.if_icmp .ge 35, 3) := by decide +kernel
theorem dX5_firstShared_13 : decode cX5_firstShared 13 = .ok (.aload_n 0, 1) := by decide +kernel
theorem dX5_firstShared_14 : decode cX5_firstShared 14 = .ok (.aload_n 0, 1) := by decide +kernel
theorem dX5_firstShared_15 : decode cX5_firstShared 15 = .ok (.getfield 12, 3) := by decide +kernel
theorem dX5_firstShared_18 : decode cX5_firstShared 18 = .ok (.iload_n 3, 1) := by decide +kernel
theorem dX5_firstShared_19 : decode cX5_firstShared 19 = .ok (.invokevirtual 39, 3) := by decide +kernel
theorem dX5_firstShared_22 : decode cX5_firstShared 22 = .ok (.iload_n 1, 1) := by decide +kernel
theorem dX5_firstShared_23 : decode cX5_firstShared 23 = .ok (.iload_n 2, 1) := by decide +kernel
theorem dX5_firstShared_24 : decode cX5_firstShared 24 = .ok (.invokevirtual 42, 3) := by decide +kernel
theorem dX5_firstShared_27 : decode cX5_firstShared 27 = .ok (.ifCond .eq 12, 3) := by decide +kernel
theorem dX5_firstShared_30 : decode cX5_firstShared 30 = .ok (.aload_n 0, 1) := by decide +kernel
theorem dX5_firstShared_31 : decode cX5_firstShared 31 = .ok (.getfield 12, 3) := by decide +kernel
theorem dX5_firstShared_34 : decode cX5_firstShared 34 = .ok (.iload_n 3, 1) := by decide +kernel
theorem dX5_firstShared_35 : decode cX5_firstShared 35 = .ok (.invokevirtual 39, 3) := by decide +kernel
theorem dX5_firstShared_38 : decode cX5_firstShared 38 = .ok (.ireturn, 1) := by decide +kernel
theorem dX5_firstShared_39 : decode cX5_firstShared 39 = .ok (.iinc 3 1, 3) := by decide +kernel
theorem dX5_firstShared_42 : decode cX5_firstShared 42 = .ok (.goto (-40), 3) := by decide +kernel
theorem dX5_firstShared_45 : decode cX5_firstShared 45 = .ok (.bipush (-6), 2) := by decide +kernel
theorem dX5_firstShared_47 : decode cX5_firstShared 47 = .ok (.ireturn, 1) := by decide +kernel
theorem eX5_firstShared_0 {l0 l1 l2 l3 : Option VV} {S : MM} : rn xX5_firstShared (0, [l0, l1, l2, l3], [], S) = rn xX5_firstShared (1, [l0, l1, l2, l3], [vI 0], S) := rn_step dX5_firstShared_0 rfl rfl
theorem eX5_firstShared_1 {a : Int} {w : Int} {l0 l1 l3 : Option VV} {S : MM} : rn xX5_firstShared (1, [l0, l1, some (vI w), l3], [vI a], S) = rn xX5_firstShared (2, [l0, l1, some (vI w), some (vI a)], [], S) := rn_step dX5_firstShared_1 rfl rfl
theorem eX5_firstShared_2 {a : Int} {l0 l1 l2 : Option VV} {S : MM} : rn xX5_firstShared (2, [l0, l1, l2, some (vI a)], [], S) = rn xX5_firstShared (3, [l0, l1, l2, some (vI a)], [vI a], S) := rn_step dX5_firstShared_2 rfl rfl
theorem eX5_firstShared_3 {a : Option Nat} {l1 l2 l3 : Option VV} {v0 : VV} {S : MM} : rn xX5_firstShared (3, [some (.inr (.inl a)), l1, l2, l3], [v0], S) = rn xX5_firstShared (4, [some (.inr (.inl a)), l1, l2, l3], [.inr (.inl a), v0], S) := rn_step dX5_firstShared_3 rfl rfl
theorem eX5_firstShared_4 {i : Nat} {l0 l1 l2 l3 : Option VV} {v1 : VV} (h : kd i = 5) {S : MM} : rn xX5_firstShared (4, [l0, l1, l2, l3], [vR i, v1], S) = rn xX5_firstShared (7, [l0, l1, l2, l3], [vR (i + 1), v1], S) := q_getR dX5_firstShared_4 rfl ⟨⟨by decide, by decide⟩, by decide⟩ (fun h => (fref5 h).trans (by first | rfl | omega)) h
theorem eX5_firstShared_7 {i : Nat} {l0 l1 l2 l3 : Option VV} {v1 : VV} (h : kd i = 3) {S : MM} : rn xX5_firstShared (7, [l0, l1, l2, l3], [vR i, v1], S) = (fX3_size [vR i] S).bind (fun q => rn xX5_firstShared (10, [l0, l1, l2, l3], q.1.toList ++ [v1], q.2)) := q_callV (n := 0) (as := []) (rest := [v1]) dX5_firstShared_7 rfl rfl rfl rfl h
theorem eX5_firstShared_10 {a b : Int} {l0 l1 l2 l3 : Option VV} (h : -2147483648 ≤ a ∧ a ≤ 2147483647) (h1 : -2147483648 ≤ b ∧ b ≤ 2147483647) {S : MM} : rn xX5_firstShared (10, [l0, l1, l2, l3], [vI b, vI a], S) = if a < b then rn xX5_firstShared (13, [l0, l1, l2, l3], [], S) else rn xX5_firstShared (45, [l0, l1, l2, l3], [], S) := q_icmp_ge dX5_firstShared_10 (by decide) rfl h h1
theorem eX5_firstShared_13 {a : Option Nat} {l1 l2 l3 : Option VV} {S : MM} : rn xX5_firstShared (13, [some (.inr (.inl a)), l1, l2, l3], [], S) = rn xX5_firstShared (14, [some (.inr (.inl a)), l1, l2, l3], [.inr (.inl a)], S) := rn_step dX5_firstShared_13 rfl rfl
theorem eX5_firstShared_14 {a : Option Nat} {l1 l2 l3 : Option VV} {v0 : VV} {S : MM} : rn xX5_firstShared (14, [some (.inr (.inl a)), l1, l2, l3], [v0], S) = rn xX5_firstShared (15, [some (.inr (.inl a)), l1, l2, l3], [.inr (.inl a), v0], S) := rn_step dX5_firstShared_14 rfl rfl
theorem eX5_firstShared_15 {i : Nat} {l0 l1 l2 l3 : Option VV} {v1 : VV} (h : kd i = 5) {S : MM} : rn xX5_firstShared (15, [l0, l1, l2, l3], [vR i, v1], S) = rn xX5_firstShared (18, [l0, l1, l2, l3], [vR (i + 1), v1], S) := q_getR dX5_firstShared_15 rfl ⟨⟨by decide, by decide⟩, by decide⟩ (fun h => (fref5 h).trans (by first | rfl | omega)) h
theorem eX5_firstShared_18 {a : Int} {l0 l1 l2 : Option VV} {v0 v1 : VV} {S : MM} : rn xX5_firstShared (18, [l0, l1, l2, some (vI a)], [v0, v1], S) = rn xX5_firstShared (19, [l0, l1, l2, some (vI a)], [vI a, v0, v1], S) := rn_step dX5_firstShared_18 rfl rfl
theorem eX5_firstShared_19 {a0 : Int} {i : Nat} {l0 l1 l2 l3 : Option VV} {v2 : VV} (h : kd i = 3) {S : MM} : rn xX5_firstShared (19, [l0, l1, l2, l3], [vI a0, vR i, v2], S) = (fX3_keyAt [vR i, vI a0] S).bind (fun q => rn xX5_firstShared (22, [l0, l1, l2, l3], q.1.toList ++ [v2], q.2)) := q_callV (n := 1) (as := [vI a0]) (rest := [v2]) dX5_firstShared_19 rfl rfl rfl rfl h
theorem eX5_firstShared_22 {a : Int} {l0 l2 l3 : Option VV} {v0 v1 : VV} {S : MM} : rn xX5_firstShared (22, [l0, some (vI a), l2, l3], [v0, v1], S) = rn xX5_firstShared (23, [l0, some (vI a), l2, l3], [vI a, v0, v1], S) := rn_step dX5_firstShared_22 rfl rfl
theorem eX5_firstShared_23 {a : Int} {l0 l1 l3 : Option VV} {v0 v1 v2 : VV} {S : MM} : rn xX5_firstShared (23, [l0, l1, some (vI a), l3], [v0, v1, v2], S) = rn xX5_firstShared (24, [l0, l1, some (vI a), l3], [vI a, v0, v1, v2], S) := rn_step dX5_firstShared_23 rfl rfl
theorem eX5_firstShared_24 {a0 : Int} {a1 : Int} {a2 : Int} {i : Nat} {l0 l1 l2 l3 : Option VV} (h : kd i = 5) {S : MM} : rn xX5_firstShared (24, [l0, l1, l2, l3], [vI a2, vI a1, vI a0, vR i], S) = (fX5_isShared [vR i, vI a0, vI a1, vI a2] S).bind (fun q => rn xX5_firstShared (27, [l0, l1, l2, l3], q.1.toList ++ [], q.2)) := q_callV (n := 3) (as := [vI a0, vI a1, vI a2]) (rest := []) dX5_firstShared_24 rfl rfl rfl rfl h
theorem eX5_firstShared_27 {a : Int} {l0 l1 l2 l3 : Option VV} (h : -2147483648 ≤ a ∧ a ≤ 2147483647) {S : MM} : rn xX5_firstShared (27, [l0, l1, l2, l3], [vI a], S) = if a = 0 then rn xX5_firstShared (39, [l0, l1, l2, l3], [], S) else rn xX5_firstShared (30, [l0, l1, l2, l3], [], S) := q_if_eq dX5_firstShared_27 (by decide) rfl h
theorem eX5_firstShared_30 {a : Option Nat} {l1 l2 l3 : Option VV} {S : MM} : rn xX5_firstShared (30, [some (.inr (.inl a)), l1, l2, l3], [], S) = rn xX5_firstShared (31, [some (.inr (.inl a)), l1, l2, l3], [.inr (.inl a)], S) := rn_step dX5_firstShared_30 rfl rfl
theorem eX5_firstShared_31 {i : Nat} {l0 l1 l2 l3 : Option VV} (h : kd i = 5) {S : MM} : rn xX5_firstShared (31, [l0, l1, l2, l3], [vR i], S) = rn xX5_firstShared (34, [l0, l1, l2, l3], [vR (i + 1)], S) := q_getR dX5_firstShared_31 rfl ⟨⟨by decide, by decide⟩, by decide⟩ (fun h => (fref5 h).trans (by first | rfl | omega)) h
theorem eX5_firstShared_34 {a : Int} {l0 l1 l2 : Option VV} {v0 : VV} {S : MM} : rn xX5_firstShared (34, [l0, l1, l2, some (vI a)], [v0], S) = rn xX5_firstShared (35, [l0, l1, l2, some (vI a)], [vI a, v0], S) := rn_step dX5_firstShared_34 rfl rfl
theorem eX5_firstShared_35 {a0 : Int} {i : Nat} {l0 l1 l2 l3 : Option VV} (h : kd i = 3) {S : MM} : rn xX5_firstShared (35, [l0, l1, l2, l3], [vI a0, vR i], S) = (fX3_keyAt [vR i, vI a0] S).bind (fun q => rn xX5_firstShared (38, [l0, l1, l2, l3], q.1.toList ++ [], q.2)) := q_callV (n := 1) (as := [vI a0]) (rest := []) dX5_firstShared_35 rfl rfl rfl rfl h
theorem eX5_firstShared_38 {z : Int} {l0 l1 l2 l3 : Option VV} {S : MM} : rn xX5_firstShared (38, [l0, l1, l2, l3], [vI z], S) = some (some (vI z), S) := q_retI dX5_firstShared_38 rfl
theorem eX5_firstShared_39 {a : Int} {w : Int} {l0 l1 : Option VV} {S : MM} : rn xX5_firstShared (39, [l0, l1, some (vI w), some (vI a)], [], S) = rn xX5_firstShared (42, [l0, l1, some (vI w), some (vI (a + 1))], [], S) := rn_step dX5_firstShared_39 rfl rfl
theorem eX5_firstShared_42 {l0 l1 l2 l3 : Option VV} {S : MM} : rn xX5_firstShared (42, [l0, l1, l2, l3], [], S) = rn xX5_firstShared (2, [l0, l1, l2, l3], [], S) := rn_step dX5_firstShared_42 rfl rfl
theorem eX5_firstShared_45 {l0 l1 l2 l3 : Option VV} {S : MM} : rn xX5_firstShared (45, [l0, l1, l2, l3], [], S) = rn xX5_firstShared (47, [l0, l1, l2, l3], [vI (-6)], S) := rn_step dX5_firstShared_45 rfl rfl
theorem eX5_firstShared_47 {z : Int} {l0 l1 l2 l3 : Option VV} {S : MM} : rn xX5_firstShared (47, [l0, l1, l2, l3], [vI z], S) = some (some (vI z), S) := q_retI dX5_firstShared_47 rfl
noncomputable def qlX5_lastShared : List CE := [(0, 24, 3, 1, fX3_size), (0, 39, 3, 2, fX3_keyAt), (0, 42, 5, 4, fX5_isShared)]
noncomputable def xX5_lastShared : XX := (cX5_lastShared, fcF fcl5, mcF qlX5_lastShared, 1)
noncomputable def fX5_lastShared : FN := fnX xX5_lastShared 4
set_option maxRecDepth 100000 in
theorem cwX5_lastShared : Cond.code yX5_lastShared cX5_lastShared 4 (some .int) ∈ lw_g := lw_gm 827 (by decide +kernel) (by decide +kernel)
set_option maxRecDepth 100000 in
theorem conX5_lastShared : Con yX5_lastShared cX5_lastShared 4 (some .int) { frames := 3, cells := 0, slots := 0, locals := 66 } fX5_lastShared := con_of (X := xX5_lastShared) (own := "LeapStones$River") (ql := qlX5_lastShared) (by decide) rfl FOK5 rfl (List.forall_mem_cons.mpr ⟨call_V conX3_size cwX3_size (lw_gl _ [494, 399, 400, 25] (by decide +kernel) (by decide +kernel)) (by decide) rfl ⟨by decide, by decide, by decide +kernel⟩ ⟨rfl, rfl⟩ ⟨by decide, by decide⟩ ⟨Nat.le_refl _, Nat.le_refl _⟩, List.forall_mem_cons.mpr ⟨call_V conX3_keyAt cwX3_keyAt (lw_gl _ [809, 372, 373, 25] (by decide +kernel) (by decide +kernel)) (by decide) rfl ⟨by decide, by decide, by decide +kernel⟩ ⟨rfl, rfl⟩ ⟨by decide, by decide⟩ ⟨Nat.le_refl _, Nat.le_refl _⟩, List.forall_mem_cons.mpr ⟨call_V conX5_isShared cwX5_isShared (lw_gl _ [810, 812, 18, 24] (by decide +kernel) (by decide +kernel)) (by decide) rfl ⟨by decide, by decide, by decide +kernel⟩ ⟨rfl, rfl⟩ ⟨by decide, by decide⟩ ⟨Nat.le_refl _, Nat.le_refl _⟩, fun _ h => absurd h List.not_mem_nil⟩⟩⟩) (Or.inr (Or.inl ⟨rfl, rfl⟩))
theorem uX5_lastShared {i : Nat} {a0 : Int} {a1 : Int} {S : MM} : fX5_lastShared [vR i, vI a0, vI a1] S = rn xX5_lastShared (0, [some (vR i), some (vI a0), some (vI a1), none], [], S) := rfl
theorem dX5_lastShared_0 : decode cX5_lastShared 0 = .ok (.aload_n 0, 1) := by decide +kernel
theorem dX5_lastShared_1 : decode cX5_lastShared 1 = .ok (.getfield 12, 3) := by decide +kernel
theorem dX5_lastShared_4 : decode cX5_lastShared 4 = .ok (.invokevirtual 24, 3) := by decide +kernel
theorem dX5_lastShared_7 : decode cX5_lastShared 7 = .ok (.iconst 1, 1) := by decide +kernel
theorem dX5_lastShared_8 : decode cX5_lastShared 8 = .ok (.isub, 1) := by decide +kernel
theorem dX5_lastShared_9 : decode cX5_lastShared 9 = .ok (.istore_n 3, 1) := by decide +kernel
theorem dX5_lastShared_10 : decode cX5_lastShared 10 = .ok (.iload_n 3, 1) := by decide +kernel
theorem dX5_lastShared_11 : decode cX5_lastShared 11 = .ok (.ifCond .lt 35, 3) := by decide +kernel
theorem dX5_lastShared_14 : decode cX5_lastShared 14 = .ok (.aload_n 0, 1) := by decide +kernel
theorem dX5_lastShared_15 : decode cX5_lastShared 15 = .ok (.aload_n 0, 1) := by decide +kernel
theorem dX5_lastShared_16 : decode cX5_lastShared 16 = .ok (.getfield 12, 3) := by decide +kernel
theorem dX5_lastShared_19 : decode cX5_lastShared 19 = .ok (.iload_n 3, 1) := by decide +kernel
theorem dX5_lastShared_20 : decode cX5_lastShared 20 = .ok (.invokevirtual 39, 3) := by decide +kernel
theorem dX5_lastShared_23 : decode cX5_lastShared 23 = .ok (.iload_n 1, 1) := by decide +kernel
theorem dX5_lastShared_24 : decode cX5_lastShared 24 = .ok (.iload_n 2, 1) := by decide +kernel
theorem dX5_lastShared_25 : decode cX5_lastShared 25 = .ok (.invokevirtual 42, 3) := by decide +kernel
theorem dX5_lastShared_28 : decode cX5_lastShared 28 = .ok (.ifCond .eq 12, 3) := by decide +kernel
theorem dX5_lastShared_31 : decode cX5_lastShared 31 = .ok (.aload_n 0, 1) := by decide +kernel
theorem dX5_lastShared_32 : decode cX5_lastShared 32 = .ok (.getfield 12, 3) := by decide +kernel
theorem dX5_lastShared_35 : decode cX5_lastShared 35 = .ok (.iload_n 3, 1) := by decide +kernel
theorem dX5_lastShared_36 : decode cX5_lastShared 36 = .ok (.invokevirtual 39, 3) := by decide +kernel
theorem dX5_lastShared_39 : decode cX5_lastShared 39 = .ok (.ireturn, 1) := by decide +kernel
theorem dX5_lastShared_40 : decode cX5_lastShared 40 = .ok (.iinc 3 (-1), 3) := by decide +kernel
theorem dX5_lastShared_43 : decode cX5_lastShared 43 = .ok (.goto (-33), 3) := by decide +kernel
theorem dX5_lastShared_46 : decode cX5_lastShared 46 = .ok (.bipush (-6), 2) := by decide +kernel
theorem dX5_lastShared_48 : decode cX5_lastShared 48 = .ok (.ireturn, 1) := by decide +kernel
theorem eX5_lastShared_0 {a : Option Nat} {l1 l2 l3 : Option VV} {S : MM} : rn xX5_lastShared (0, [some (.inr (.inl a)), l1, l2, l3], [], S) = rn xX5_lastShared (1, [some (.inr (.inl a)), l1, l2, l3], [.inr (.inl a)], S) := rn_step dX5_lastShared_0 rfl rfl
theorem eX5_lastShared_1 {i : Nat} {l0 l1 l2 l3 : Option VV} (h : kd i = 5) {S : MM} : rn xX5_lastShared (1, [l0, l1, l2, l3], [vR i], S) = rn xX5_lastShared (4, [l0, l1, l2, l3], [vR (i + 1)], S) := q_getR dX5_lastShared_1 rfl ⟨⟨by decide, by decide⟩, by decide⟩ (fun h => (fref5 h).trans (by first | rfl | omega)) h
theorem eX5_lastShared_4 {i : Nat} {l0 l1 l2 l3 : Option VV} (h : kd i = 3) {S : MM} : rn xX5_lastShared (4, [l0, l1, l2, l3], [vR i], S) = (fX3_size [vR i] S).bind (fun q => rn xX5_lastShared (7, [l0, l1, l2, l3], q.1.toList ++ [], q.2)) := q_callV (n := 0) (as := []) (rest := []) dX5_lastShared_4 rfl rfl rfl rfl h
theorem eX5_lastShared_7 {l0 l1 l2 l3 : Option VV} {v0 : VV} {S : MM} : rn xX5_lastShared (7, [l0, l1, l2, l3], [v0], S) = rn xX5_lastShared (8, [l0, l1, l2, l3], [vI 1, v0], S) := rn_step dX5_lastShared_7 rfl rfl
theorem eX5_lastShared_8 {a b : Int} {l0 l1 l2 l3 : Option VV} {S : MM} : rn xX5_lastShared (8, [l0, l1, l2, l3], [vI b, vI a], S) = rn xX5_lastShared (9, [l0, l1, l2, l3], [vI (a - b)], S) := rn_step dX5_lastShared_8 rfl rfl
theorem eX5_lastShared_9 {a : Int} {w : Int} {l0 l1 l3 : Option VV} {S : MM} : rn xX5_lastShared (9, [l0, l1, some (vI w), l3], [vI a], S) = rn xX5_lastShared (10, [l0, l1, some (vI w), some (vI a)], [], S) := rn_step dX5_lastShared_9 rfl rfl
theorem eX5_lastShared_10 {a : Int} {l0 l1 l2 : Option VV} {S : MM} : rn xX5_lastShared (10, [l0, l1, l2, some (vI a)], [], S) = rn xX5_lastShared (11, [l0, l1, l2, some (vI a)], [vI a], S) := rn_step dX5_lastShared_10 rfl rfl
theorem eX5_lastShared_11 {a : Int} {l0 l1 l2 l3 : Option VV} (h : -2147483648 ≤ a ∧ a ≤ 2147483647) {S : MM} : rn xX5_lastShared (11, [l0, l1, l2, l3], [vI a], S) = if a < 0 then rn xX5_lastShared (46, [l0, l1, l2, l3], [], S) else rn xX5_lastShared (14, [l0, l1, l2, l3], [], S) := q_if_lt dX5_lastShared_11 (by decide) rfl h
theorem eX5_lastShared_14 {a : Option Nat} {l1 l2 l3 : Option VV} {S : MM} : rn xX5_lastShared (14, [some (.inr (.inl a)), l1, l2, l3], [], S) = rn xX5_lastShared (15, [some (.inr (.inl a)), l1, l2, l3], [.inr (.inl a)], S) := rn_step dX5_lastShared_14 rfl rfl
theorem eX5_lastShared_15 {a : Option Nat} {l1 l2 l3 : Option VV} {v0 : VV} {S : MM} : rn xX5_lastShared (15, [some (.inr (.inl a)), l1, l2, l3], [v0], S) = rn xX5_lastShared (16, [some (.inr (.inl a)), l1, l2, l3], [.inr (.inl a), v0], S) := rn_step dX5_lastShared_15 rfl rfl
theorem eX5_lastShared_16 {i : Nat} {l0 l1 l2 l3 : Option VV} {v1 : VV} (h : kd i = 5) {S : MM} : rn xX5_lastShared (16, [l0, l1, l2, l3], [vR i, v1], S) = rn xX5_lastShared (19, [l0, l1, l2, l3], [vR (i + 1), v1], S) := q_getR dX5_lastShared_16 rfl ⟨⟨by decide, by decide⟩, by decide⟩ (fun h => (fref5 h).trans (by first | rfl | omega)) h
theorem eX5_lastShared_19 {a : Int} {l0 l1 l2 : Option VV} {v0 v1 : VV} {S : MM} : rn xX5_lastShared (19, [l0, l1, l2, some (vI a)], [v0, v1], S) = rn xX5_lastShared (20, [l0, l1, l2, some (vI a)], [vI a, v0, v1], S) := rn_step dX5_lastShared_19 rfl rfl
theorem eX5_lastShared_20 {a0 : Int} {i : Nat} {l0 l1 l2 l3 : Option VV} {v2 : VV} (h : kd i = 3) {S : MM} : rn xX5_lastShared (20, [l0, l1, l2, l3], [vI a0, vR i, v2], S) = (fX3_keyAt [vR i, vI a0] S).bind (fun q => rn xX5_lastShared (23, [l0, l1, l2, l3], q.1.toList ++ [v2], q.2)) := q_callV (n := 1) (as := [vI a0]) (rest := [v2]) dX5_lastShared_20 rfl rfl rfl rfl h
theorem eX5_lastShared_23 {a : Int} {l0 l2 l3 : Option VV} {v0 v1 : VV} {S : MM} : rn xX5_lastShared (23, [l0, some (vI a), l2, l3], [v0, v1], S) = rn xX5_lastShared (24, [l0, some (vI a), l2, l3], [vI a, v0, v1], S) := rn_step dX5_lastShared_23 rfl rfl
theorem eX5_lastShared_24 {a : Int} {l0 l1 l3 : Option VV} {v0 v1 v2 : VV} {S : MM} : rn xX5_lastShared (24, [l0, l1, some (vI a), l3], [v0, v1, v2], S) = rn xX5_lastShared (25, [l0, l1, some (vI a), l3], [vI a, v0, v1, v2], S) := rn_step dX5_lastShared_24 rfl rfl
theorem eX5_lastShared_25 {a0 : Int} {a1 : Int} {a2 : Int} {i : Nat} {l0 l1 l2 l3 : Option VV} (h : kd i = 5) {S : MM} : rn xX5_lastShared (25, [l0, l1, l2, l3], [vI a2, vI a1, vI a0, vR i], S) = (fX5_isShared [vR i, vI a0, vI a1, vI a2] S).bind (fun q => rn xX5_lastShared (28, [l0, l1, l2, l3], q.1.toList ++ [], q.2)) := q_callV (n := 3) (as := [vI a0, vI a1, vI a2]) (rest := []) dX5_lastShared_25 rfl rfl rfl rfl h
theorem eX5_lastShared_28 {a : Int} {l0 l1 l2 l3 : Option VV} (h : -2147483648 ≤ a ∧ a ≤ 2147483647) {S : MM} : rn xX5_lastShared (28, [l0, l1, l2, l3], [vI a], S) = if a = 0 then rn xX5_lastShared (40, [l0, l1, l2, l3], [], S) else rn xX5_lastShared (31, [l0, l1, l2, l3], [], S) := q_if_eq dX5_lastShared_28 (by decide) rfl h
theorem eX5_lastShared_31 {a : Option Nat} {l1 l2 l3 : Option VV} {S : MM} : rn xX5_lastShared (31, [some (.inr (.inl a)), l1, l2, l3], [], S) = rn xX5_lastShared (32, [some (.inr (.inl a)), l1, l2, l3], [.inr (.inl a)], S) := rn_step dX5_lastShared_31 rfl rfl
theorem eX5_lastShared_32 {i : Nat} {l0 l1 l2 l3 : Option VV} (h : kd i = 5) {S : MM} : rn xX5_lastShared (32, [l0, l1, l2, l3], [vR i], S) = rn xX5_lastShared (35, [l0, l1, l2, l3], [vR (i + 1)], S) := q_getR dX5_lastShared_32 rfl ⟨⟨by decide, by decide⟩, by decide⟩ (fun h => (fref5 h).trans (by first | rfl | omega)) h
theorem eX5_lastShared_35 {a : Int} {l0 l1 l2 : Option VV} {v0 : VV} {S : MM} : rn xX5_lastShared (35, [l0, l1, l2, some (vI a)], [v0], S) = rn xX5_lastShared (36, [l0, l1, l2, some (vI a)], [vI a, v0], S) := rn_step dX5_lastShared_35 rfl rfl
theorem eX5_lastShared_36 {a0 : Int} {i : Nat} {l0 l1 l2 l3 : Option VV} (h : kd i = 3) {S : MM} : rn xX5_lastShared (36, [l0, l1, l2, l3], [vI a0, vR i], S) = (fX3_keyAt [vR i, vI a0] S).bind (fun q => rn xX5_lastShared (39, [l0, l1, l2, l3], q.1.toList ++ [], q.2)) := q_callV (n := 1) (as := [vI a0]) (rest := []) dX5_lastShared_36 rfl rfl rfl rfl h
theorem eX5_lastShared_39 {z : Int} {l0 l1 l2 l3 : Option VV} {S : MM} : rn xX5_lastShared (39, [l0, l1, l2, l3], [vI z], S) = some (some (vI z), S) := q_retI dX5_lastShared_39 rfl
theorem eX5_lastShared_40 {a : Int} {w : Int} {l0 l1 : Option VV} {S : MM} : rn xX5_lastShared (40, [l0, l1, some (vI w), some (vI a)], [], S) = rn xX5_lastShared (43, [l0, l1, some (vI w), some (vI (a + (-1)))], [], S) := rn_step dX5_lastShared_40 rfl rfl
theorem eX5_lastShared_43 {l0 l1 l2 l3 : Option VV} {S : MM} : rn xX5_lastShared (43, [l0, l1, l2, l3], [], S) = rn xX5_lastShared (10, [l0, l1, l2, l3], [], S) := rn_step dX5_lastShared_43 rfl rfl
theorem eX5_lastShared_46 {l0 l1 l2 l3 : Option VV} {S : MM} : rn xX5_lastShared (46, [l0, l1, l2, l3], [], S) = rn xX5_lastShared (48, [l0, l1, l2, l3], [vI (-6)], S) := rn_step dX5_lastShared_46 rfl rfl
theorem eX5_lastShared_48 {z : Int} {l0 l1 l2 l3 : Option VV} {S : MM} : rn xX5_lastShared (48, [l0, l1, l2, l3], [vI z], S) = some (some (vI z), S) := q_retI dX5_lastShared_48 rfl
noncomputable def qlX5_widestGap : List CE := [(0, 24, 3, 1, fX3_size), (0, 39, 3, 2, fX3_keyAt), (0, 42, 5, 4, fX5_isShared), (1, 45, 0, 2, f_max)]
noncomputable def xX5_widestGap : XX := (cX5_widestGap, fcF fcl5, mcF qlX5_widestGap, 1)
noncomputable def fX5_widestGap : FN := fnX xX5_widestGap 7
set_option maxRecDepth 100000 in
theorem cwX5_widestGap : Cond.code yX5_widestGap cX5_widestGap 7 (some .int) ∈ lw_g := lw_gm 831 (by decide +kernel) (by decide +kernel)
set_option maxRecDepth 100000 in
theorem conX5_widestGap : Con yX5_widestGap cX5_widestGap 7 (some .int) { frames := 3, cells := 0, slots := 0, locals := 66 } fX5_widestGap := con_of (X := xX5_widestGap) (own := "LeapStones$River") (ql := qlX5_widestGap) (by decide) rfl FOK5 rfl (List.forall_mem_cons.mpr ⟨call_V conX3_size cwX3_size (lw_gl _ [494, 399, 400, 25] (by decide +kernel) (by decide +kernel)) (by decide) rfl ⟨by decide, by decide, by decide +kernel⟩ ⟨rfl, rfl⟩ ⟨by decide, by decide⟩ ⟨Nat.le_refl _, Nat.le_refl _⟩, List.forall_mem_cons.mpr ⟨call_V conX3_keyAt cwX3_keyAt (lw_gl _ [809, 372, 373, 25] (by decide +kernel) (by decide +kernel)) (by decide) rfl ⟨by decide, by decide, by decide +kernel⟩ ⟨rfl, rfl⟩ ⟨by decide, by decide⟩ ⟨Nat.le_refl _, Nat.le_refl _⟩, List.forall_mem_cons.mpr ⟨call_V conX5_isShared cwX5_isShared (lw_gl _ [810, 812, 18, 24] (by decide +kernel) (by decide +kernel)) (by decide) rfl ⟨by decide, by decide, by decide +kernel⟩ ⟨rfl, rfl⟩ ⟨by decide, by decide⟩ ⟨Nat.le_refl _, Nat.le_refl _⟩, List.forall_mem_cons.mpr ⟨call_max (lw_gl _ [832, 332, 30, 333] (by decide +kernel) (by decide +kernel)) ⟨by decide, by decide⟩ ⟨Nat.le_refl _, Nat.le_refl _⟩, fun _ h => absurd h List.not_mem_nil⟩⟩⟩⟩) (Or.inr (Or.inl ⟨rfl, rfl⟩))
theorem uX5_widestGap {i : Nat} {a0 : Int} {a1 : Int} {S : MM} : fX5_widestGap [vR i, vI a0, vI a1] S = rn xX5_widestGap (0, [some (vR i), some (vI a0), some (vI a1), none, none, none, none], [], S) := rfl
theorem dX5_widestGap_0 : decode cX5_widestGap 0 = .ok (.bipush (-6), 2) := by decide +kernel
theorem dX5_widestGap_2 : decode cX5_widestGap 2 = .ok (.istore_n 3, 1) := by decide +kernel
theorem dX5_widestGap_3 : decode cX5_widestGap 3 = .ok (.bipush (-6), 2) := by decide +kernel
theorem dX5_widestGap_5 : decode cX5_widestGap 5 = .ok (.istore 4, 2) := by decide +kernel
theorem dX5_widestGap_7 : decode cX5_widestGap 7 = .ok (.iconst 0, 1) := by decide +kernel
theorem dX5_widestGap_8 : decode cX5_widestGap 8 = .ok (.istore 5, 2) := by decide +kernel
theorem dX5_widestGap_10 : decode cX5_widestGap 10 = .ok (.iload 5, 2) := by decide +kernel
theorem dX5_widestGap_12 : decode cX5_widestGap 12 = .ok (.aload_n 0, 1) := by decide +kernel
theorem dX5_widestGap_13 : decode cX5_widestGap 13 = .ok (.getfield 12, 3) := by decide +kernel
theorem dX5_widestGap_16 : decode cX5_widestGap 16 = .ok (.invokevirtual 24, 3) := by decide +kernel
theorem dX5_widestGap_19 : decode cX5_widestGap 19 = .ok (.if_icmp .ge 52, 3) := by decide +kernel
theorem dX5_widestGap_22 : decode cX5_widestGap 22 = .ok (.aload_n 0, 1) := by decide +kernel
theorem dX5_widestGap_23 : decode cX5_widestGap 23 = .ok (.getfield 12, 3) := by decide +kernel
theorem dX5_widestGap_26 : decode cX5_widestGap 26 = .ok (.iload 5, 2) := by decide +kernel
theorem dX5_widestGap_28 : decode cX5_widestGap 28 = .ok (.invokevirtual 39, 3) := by decide +kernel
theorem dX5_widestGap_31 : decode cX5_widestGap 31 = .ok (.istore 6, 2) := by decide +kernel
theorem dX5_widestGap_33 : decode cX5_widestGap 33 = .ok (.aload_n 0, 1) := by decide +kernel
theorem dX5_widestGap_34 : decode cX5_widestGap 34 = .ok (.iload 6, 2) := by decide +kernel
theorem dX5_widestGap_36 : decode cX5_widestGap 36 = .ok (.iload_n 1, 1) := by decide +kernel
theorem dX5_widestGap_37 : decode cX5_widestGap 37 = .ok (.iload_n 2, 1) := by decide +kernel
theorem dX5_widestGap_38 : decode cX5_widestGap 38 = .ok (.invokevirtual 42, 3) := by decide +kernel
theorem dX5_widestGap_41 : decode cX5_widestGap 41 = .ok (.ifCond .eq 24, 3) := by decide +kernel
theorem dX5_widestGap_44 : decode cX5_widestGap 44 = .ok (.iload 4, 2) := by decide +kernel
theorem dX5_widestGap_46 : decode cX5_widestGap 46 = .ok (.bipush (-6), 2) := by decide +kernel
theorem dX5_widestGap_48 : decode cX5_widestGap 48 = .ok (.if_icmp .eq 13, 3) := by decide +kernel
theorem dX5_widestGap_51 : decode cX5_widestGap 51 = .ok (.iload_n 3, 1) := by decide +kernel
theorem dX5_widestGap_52 : decode cX5_widestGap 52 = .ok (.iload 6, 2) := by decide +kernel
theorem dX5_widestGap_54 : decode cX5_widestGap 54 = .ok (.iload 4, 2) := by decide +kernel
theorem dX5_widestGap_56 : decode cX5_widestGap 56 = .ok (.isub, 1) := by decide +kernel
theorem dX5_widestGap_57 : decode cX5_widestGap 57 = .ok (.invokestatic 45, 3) := by decide +kernel
theorem dX5_widestGap_60 : decode cX5_widestGap 60 = .ok (.istore_n 3, 1) := by decide +kernel
theorem dX5_widestGap_61 : decode cX5_widestGap 61 = .ok (.iload 6, 2) := by decide +kernel
theorem dX5_widestGap_63 : decode cX5_widestGap 63 = .ok (.istore 4, 2) := by decide +kernel
theorem dX5_widestGap_65 : decode cX5_widestGap 65 = .ok (.iinc 5 1, 3) := by decide +kernel
theorem dX5_widestGap_68 : decode cX5_widestGap 68 = .ok (.goto (-58), 3) := by decide +kernel
theorem dX5_widestGap_71 : decode cX5_widestGap 71 = .ok (.iload_n 3, 1) := by decide +kernel
theorem dX5_widestGap_72 : decode cX5_widestGap 72 = .ok (.ireturn, 1) := by decide +kernel
theorem eX5_widestGap_0 {l0 l1 l2 l3 l4 l5 l6 : Option VV} {S : MM} : rn xX5_widestGap (0, [l0, l1, l2, l3, l4, l5, l6], [], S) = rn xX5_widestGap (2, [l0, l1, l2, l3, l4, l5, l6], [vI (-6)], S) := rn_step dX5_widestGap_0 rfl rfl
theorem eX5_widestGap_2 {a : Int} {w : Int} {l0 l1 l3 l4 l5 l6 : Option VV} {S : MM} : rn xX5_widestGap (2, [l0, l1, some (vI w), l3, l4, l5, l6], [vI a], S) = rn xX5_widestGap (3, [l0, l1, some (vI w), some (vI a), l4, l5, l6], [], S) := rn_step dX5_widestGap_2 rfl rfl
theorem eX5_widestGap_3 {l0 l1 l2 l3 l4 l5 l6 : Option VV} {S : MM} : rn xX5_widestGap (3, [l0, l1, l2, l3, l4, l5, l6], [], S) = rn xX5_widestGap (5, [l0, l1, l2, l3, l4, l5, l6], [vI (-6)], S) := rn_step dX5_widestGap_3 rfl rfl
theorem eX5_widestGap_5 {a : Int} {w : Int} {l0 l1 l2 l4 l5 l6 : Option VV} {S : MM} : rn xX5_widestGap (5, [l0, l1, l2, some (vI w), l4, l5, l6], [vI a], S) = rn xX5_widestGap (7, [l0, l1, l2, some (vI w), some (vI a), l5, l6], [], S) := rn_step dX5_widestGap_5 rfl rfl
theorem eX5_widestGap_7 {l0 l1 l2 l3 l4 l5 l6 : Option VV} {S : MM} : rn xX5_widestGap (7, [l0, l1, l2, l3, l4, l5, l6], [], S) = rn xX5_widestGap (8, [l0, l1, l2, l3, l4, l5, l6], [vI 0], S) := rn_step dX5_widestGap_7 rfl rfl
theorem eX5_widestGap_8 {a : Int} {w : Int} {l0 l1 l2 l3 l5 l6 : Option VV} {S : MM} : rn xX5_widestGap (8, [l0, l1, l2, l3, some (vI w), l5, l6], [vI a], S) = rn xX5_widestGap (10, [l0, l1, l2, l3, some (vI w), some (vI a), l6], [], S) := rn_step dX5_widestGap_8 rfl rfl
theorem eX5_widestGap_10 {a : Int} {l0 l1 l2 l3 l4 l6 : Option VV} {S : MM} : rn xX5_widestGap (10, [l0, l1, l2, l3, l4, some (vI a), l6], [], S) = rn xX5_widestGap (12, [l0, l1, l2, l3, l4, some (vI a), l6], [vI a], S) := rn_step dX5_widestGap_10 rfl rfl
theorem eX5_widestGap_12 {a : Option Nat} {l1 l2 l3 l4 l5 l6 : Option VV} {v0 : VV} {S : MM} : rn xX5_widestGap (12, [some (.inr (.inl a)), l1, l2, l3, l4, l5, l6], [v0], S) = rn xX5_widestGap (13, [some (.inr (.inl a)), l1, l2, l3, l4, l5, l6], [.inr (.inl a), v0], S) := rn_step dX5_widestGap_12 rfl rfl
theorem eX5_widestGap_13 {i : Nat} {l0 l1 l2 l3 l4 l5 l6 : Option VV} {v1 : VV} (h : kd i = 5) {S : MM} : rn xX5_widestGap (13, [l0, l1, l2, l3, l4, l5, l6], [vR i, v1], S) = rn xX5_widestGap (16, [l0, l1, l2, l3, l4, l5, l6], [vR (i + 1), v1], S) := q_getR dX5_widestGap_13 rfl ⟨⟨by decide, by decide⟩, by decide⟩ (fun h => (fref5 h).trans (by first | rfl | omega)) h
theorem eX5_widestGap_16 {i : Nat} {l0 l1 l2 l3 l4 l5 l6 : Option VV} {v1 : VV} (h : kd i = 3) {S : MM} : rn xX5_widestGap (16, [l0, l1, l2, l3, l4, l5, l6], [vR i, v1], S) = (fX3_size [vR i] S).bind (fun q => rn xX5_widestGap (19, [l0, l1, l2, l3, l4, l5, l6], q.1.toList ++ [v1], q.2)) := q_callV (n := 0) (as := []) (rest := [v1]) dX5_widestGap_16 rfl rfl rfl rfl h
theorem eX5_widestGap_19 {a b : Int} {l0 l1 l2 l3 l4 l5 l6 : Option VV} (h : -2147483648 ≤ a ∧ a ≤ 2147483647) (h1 : -2147483648 ≤ b ∧ b ≤ 2147483647) {S : MM} : rn xX5_widestGap (19, [l0, l1, l2, l3, l4, l5, l6], [vI b, vI a], S) = if a < b then rn xX5_widestGap (22, [l0, l1, l2, l3, l4, l5, l6], [], S) else rn xX5_widestGap (71, [l0, l1, l2, l3, l4, l5, l6], [], S) := q_icmp_ge dX5_widestGap_19 (by decide) rfl h h1
theorem eX5_widestGap_22 {a : Option Nat} {l1 l2 l3 l4 l5 l6 : Option VV} {S : MM} : rn xX5_widestGap (22, [some (.inr (.inl a)), l1, l2, l3, l4, l5, l6], [], S) = rn xX5_widestGap (23, [some (.inr (.inl a)), l1, l2, l3, l4, l5, l6], [.inr (.inl a)], S) := rn_step dX5_widestGap_22 rfl rfl
theorem eX5_widestGap_23 {i : Nat} {l0 l1 l2 l3 l4 l5 l6 : Option VV} (h : kd i = 5) {S : MM} : rn xX5_widestGap (23, [l0, l1, l2, l3, l4, l5, l6], [vR i], S) = rn xX5_widestGap (26, [l0, l1, l2, l3, l4, l5, l6], [vR (i + 1)], S) := q_getR dX5_widestGap_23 rfl ⟨⟨by decide, by decide⟩, by decide⟩ (fun h => (fref5 h).trans (by first | rfl | omega)) h
theorem eX5_widestGap_26 {a : Int} {l0 l1 l2 l3 l4 l6 : Option VV} {v0 : VV} {S : MM} : rn xX5_widestGap (26, [l0, l1, l2, l3, l4, some (vI a), l6], [v0], S) = rn xX5_widestGap (28, [l0, l1, l2, l3, l4, some (vI a), l6], [vI a, v0], S) := rn_step dX5_widestGap_26 rfl rfl
theorem eX5_widestGap_28 {a0 : Int} {i : Nat} {l0 l1 l2 l3 l4 l5 l6 : Option VV} (h : kd i = 3) {S : MM} : rn xX5_widestGap (28, [l0, l1, l2, l3, l4, l5, l6], [vI a0, vR i], S) = (fX3_keyAt [vR i, vI a0] S).bind (fun q => rn xX5_widestGap (31, [l0, l1, l2, l3, l4, l5, l6], q.1.toList ++ [], q.2)) := q_callV (n := 1) (as := [vI a0]) (rest := []) dX5_widestGap_28 rfl rfl rfl rfl h
theorem eX5_widestGap_31 {a : Int} {w : Int} {l0 l1 l2 l3 l4 l6 : Option VV} {S : MM} : rn xX5_widestGap (31, [l0, l1, l2, l3, l4, some (vI w), l6], [vI a], S) = rn xX5_widestGap (33, [l0, l1, l2, l3, l4, some (vI w), some (vI a)], [], S) := rn_step dX5_widestGap_31 rfl rfl
theorem eX5_widestGap_33 {a : Option Nat} {l1 l2 l3 l4 l5 l6 : Option VV} {S : MM} : rn xX5_widestGap (33, [some (.inr (.inl a)), l1, l2, l3, l4, l5, l6], [], S) = rn xX5_widestGap (34, [some (.inr (.inl a)), l1, l2, l3, l4, l5, l6], [.inr (.inl a)], S) := rn_step dX5_widestGap_33 rfl rfl
theorem eX5_widestGap_34 {a : Int} {l0 l1 l2 l3 l4 l5 : Option VV} {v0 : VV} {S : MM} : rn xX5_widestGap (34, [l0, l1, l2, l3, l4, l5, some (vI a)], [v0], S) = rn xX5_widestGap (36, [l0, l1, l2, l3, l4, l5, some (vI a)], [vI a, v0], S) := rn_step dX5_widestGap_34 rfl rfl
theorem eX5_widestGap_36 {a : Int} {l0 l2 l3 l4 l5 l6 : Option VV} {v0 v1 : VV} {S : MM} : rn xX5_widestGap (36, [l0, some (vI a), l2, l3, l4, l5, l6], [v0, v1], S) = rn xX5_widestGap (37, [l0, some (vI a), l2, l3, l4, l5, l6], [vI a, v0, v1], S) := rn_step dX5_widestGap_36 rfl rfl
theorem eX5_widestGap_37 {a : Int} {l0 l1 l3 l4 l5 l6 : Option VV} {v0 v1 v2 : VV} {S : MM} : rn xX5_widestGap (37, [l0, l1, some (vI a), l3, l4, l5, l6], [v0, v1, v2], S) = rn xX5_widestGap (38, [l0, l1, some (vI a), l3, l4, l5, l6], [vI a, v0, v1, v2], S) := rn_step dX5_widestGap_37 rfl rfl
theorem eX5_widestGap_38 {a0 : Int} {a1 : Int} {a2 : Int} {i : Nat} {l0 l1 l2 l3 l4 l5 l6 : Option VV} (h : kd i = 5) {S : MM} : rn xX5_widestGap (38, [l0, l1, l2, l3, l4, l5, l6], [vI a2, vI a1, vI a0, vR i], S) = (fX5_isShared [vR i, vI a0, vI a1, vI a2] S).bind (fun q => rn xX5_widestGap (41, [l0, l1, l2, l3, l4, l5, l6], q.1.toList ++ [], q.2)) := q_callV (n := 3) (as := [vI a0, vI a1, vI a2]) (rest := []) dX5_widestGap_38 rfl rfl rfl rfl h
theorem eX5_widestGap_41 {a : Int} {l0 l1 l2 l3 l4 l5 l6 : Option VV} (h : -2147483648 ≤ a ∧ a ≤ 2147483647) {S : MM} : rn xX5_widestGap (41, [l0, l1, l2, l3, l4, l5, l6], [vI a], S) = if a = 0 then rn xX5_widestGap (65, [l0, l1, l2, l3, l4, l5, l6], [], S) else rn xX5_widestGap (44, [l0, l1, l2, l3, l4, l5, l6], [], S) := q_if_eq dX5_widestGap_41 (by decide) rfl h
theorem eX5_widestGap_44 {a : Int} {l0 l1 l2 l3 l5 l6 : Option VV} {S : MM} : rn xX5_widestGap (44, [l0, l1, l2, l3, some (vI a), l5, l6], [], S) = rn xX5_widestGap (46, [l0, l1, l2, l3, some (vI a), l5, l6], [vI a], S) := rn_step dX5_widestGap_44 rfl rfl
theorem eX5_widestGap_46 {l0 l1 l2 l3 l4 l5 l6 : Option VV} {v0 : VV} {S : MM} : rn xX5_widestGap (46, [l0, l1, l2, l3, l4, l5, l6], [v0], S) = rn xX5_widestGap (48, [l0, l1, l2, l3, l4, l5, l6], [vI (-6), v0], S) := rn_step dX5_widestGap_46 rfl rfl
theorem eX5_widestGap_48 {a b : Int} {l0 l1 l2 l3 l4 l5 l6 : Option VV} (h : -2147483648 ≤ a ∧ a ≤ 2147483647) (h1 : -2147483648 ≤ b ∧ b ≤ 2147483647) {S : MM} : rn xX5_widestGap (48, [l0, l1, l2, l3, l4, l5, l6], [vI b, vI a], S) = if a = b then rn xX5_widestGap (61, [l0, l1, l2, l3, l4, l5, l6], [], S) else rn xX5_widestGap (51, [l0, l1, l2, l3, l4, l5, l6], [], S) := q_icmp_eq dX5_widestGap_48 (by decide) rfl h h1
theorem eX5_widestGap_51 {a : Int} {l0 l1 l2 l4 l5 l6 : Option VV} {S : MM} : rn xX5_widestGap (51, [l0, l1, l2, some (vI a), l4, l5, l6], [], S) = rn xX5_widestGap (52, [l0, l1, l2, some (vI a), l4, l5, l6], [vI a], S) := rn_step dX5_widestGap_51 rfl rfl
theorem eX5_widestGap_52 {a : Int} {l0 l1 l2 l3 l4 l5 : Option VV} {v0 : VV} {S : MM} : rn xX5_widestGap (52, [l0, l1, l2, l3, l4, l5, some (vI a)], [v0], S) = rn xX5_widestGap (54, [l0, l1, l2, l3, l4, l5, some (vI a)], [vI a, v0], S) := rn_step dX5_widestGap_52 rfl rfl
theorem eX5_widestGap_54 {a : Int} {l0 l1 l2 l3 l5 l6 : Option VV} {v0 v1 : VV} {S : MM} : rn xX5_widestGap (54, [l0, l1, l2, l3, some (vI a), l5, l6], [v0, v1], S) = rn xX5_widestGap (56, [l0, l1, l2, l3, some (vI a), l5, l6], [vI a, v0, v1], S) := rn_step dX5_widestGap_54 rfl rfl
theorem eX5_widestGap_56 {a b : Int} {l0 l1 l2 l3 l4 l5 l6 : Option VV} {v2 : VV} {S : MM} : rn xX5_widestGap (56, [l0, l1, l2, l3, l4, l5, l6], [vI b, vI a, v2], S) = rn xX5_widestGap (57, [l0, l1, l2, l3, l4, l5, l6], [vI (a - b), v2], S) := rn_step dX5_widestGap_56 rfl rfl
theorem eX5_widestGap_57 {a0 : Int} {a1 : Int} {l0 l1 l2 l3 l4 l5 l6 : Option VV} {S : MM} : rn xX5_widestGap (57, [l0, l1, l2, l3, l4, l5, l6], [vI a1, vI a0], S) = (f_max [vI a0, vI a1] S).bind (fun q => rn xX5_widestGap (60, [l0, l1, l2, l3, l4, l5, l6], q.1.toList ++ [], q.2)) := q_callS (n := 2) (as := [vI a0, vI a1]) (rest := []) dX5_widestGap_57 rfl rfl rfl rfl
theorem eX5_widestGap_60 {a : Int} {w : Int} {l0 l1 l3 l4 l5 l6 : Option VV} {S : MM} : rn xX5_widestGap (60, [l0, l1, some (vI w), l3, l4, l5, l6], [vI a], S) = rn xX5_widestGap (61, [l0, l1, some (vI w), some (vI a), l4, l5, l6], [], S) := rn_step dX5_widestGap_60 rfl rfl
theorem eX5_widestGap_61 {a : Int} {l0 l1 l2 l3 l4 l5 : Option VV} {S : MM} : rn xX5_widestGap (61, [l0, l1, l2, l3, l4, l5, some (vI a)], [], S) = rn xX5_widestGap (63, [l0, l1, l2, l3, l4, l5, some (vI a)], [vI a], S) := rn_step dX5_widestGap_61 rfl rfl
theorem eX5_widestGap_63 {a : Int} {w : Int} {l0 l1 l2 l4 l5 l6 : Option VV} {S : MM} : rn xX5_widestGap (63, [l0, l1, l2, some (vI w), l4, l5, l6], [vI a], S) = rn xX5_widestGap (65, [l0, l1, l2, some (vI w), some (vI a), l5, l6], [], S) := rn_step dX5_widestGap_63 rfl rfl
theorem eX5_widestGap_65 {a : Int} {w : Int} {l0 l1 l2 l3 l6 : Option VV} {S : MM} : rn xX5_widestGap (65, [l0, l1, l2, l3, some (vI w), some (vI a), l6], [], S) = rn xX5_widestGap (68, [l0, l1, l2, l3, some (vI w), some (vI (a + 1)), l6], [], S) := rn_step dX5_widestGap_65 rfl rfl
theorem eX5_widestGap_68 {l0 l1 l2 l3 l4 l5 l6 : Option VV} {S : MM} : rn xX5_widestGap (68, [l0, l1, l2, l3, l4, l5, l6], [], S) = rn xX5_widestGap (10, [l0, l1, l2, l3, l4, l5, l6], [], S) := rn_step dX5_widestGap_68 rfl rfl
theorem eX5_widestGap_71 {a : Int} {l0 l1 l2 l4 l5 l6 : Option VV} {S : MM} : rn xX5_widestGap (71, [l0, l1, l2, some (vI a), l4, l5, l6], [], S) = rn xX5_widestGap (72, [l0, l1, l2, some (vI a), l4, l5, l6], [vI a], S) := rn_step dX5_widestGap_71 rfl rfl
theorem eX5_widestGap_72 {z : Int} {l0 l1 l2 l3 l4 l5 l6 : Option VV} {S : MM} : rn xX5_widestGap (72, [l0, l1, l2, l3, l4, l5, l6], [vI z], S) = some (some (vI z), S) := q_retI dX5_widestGap_72 rfl
noncomputable def qlX7_change : List CE := [(1, 15, 0, 3, fX8_isBetween)]
noncomputable def xX7_change : XX := (cX7_change, fcF fcl7, mcF qlX7_change, 0)
noncomputable def fX7_change : FN := fnX xX7_change 3
set_option maxRecDepth 100000 in
theorem cwX7_change : Cond.code yX7_change cX7_change 3 none ∈ lw_g := lw_gm 322 (by decide +kernel) (by decide +kernel)
set_option maxRecDepth 100000 in
theorem conX7_change : Con yX7_change cX7_change 3 none { frames := 1, cells := 0, slots := 0, locals := 22 } fX7_change := con_of (X := xX7_change) (own := "LeapStones$Settings") (ql := qlX7_change) (by decide) rfl FOK7 rfl (List.forall_mem_cons.mpr ⟨call_N conX8_isBetween cwX8_isBetween (lw_gl _ [251, 21] (by decide +kernel) (by decide +kernel)) (List.mem_of_getElem? (i := 17) (by decide +kernel)) ⟨by decide, by decide, by decide +kernel⟩ ⟨rfl, rfl⟩ ⟨by decide, by decide⟩ ⟨Nat.le_refl _, Nat.le_refl _⟩, fun _ h => absurd h List.not_mem_nil⟩) (Or.inl ⟨rfl, rfl⟩)
theorem uX7_change {i : Nat} {a0 : Int} {a1 : Int} {S : MM} : fX7_change [vR i, vI a0, vI a1] S = rn xX7_change (0, [some (vR i), some (vI a0), some (vI a1)], [], S) := rfl
theorem dX7_change_0 : decode cX7_change 0 = .ok (.iload_n 1, 1) := by decide +kernel
theorem dX7_change_1 : decode cX7_change 1 = .ok (.iconst 0, 1) := by decide +kernel
theorem dX7_change_2 : decode cX7_change 2 = .ok (.iconst 3, 1) := by decide +kernel
theorem dX7_change_3 : decode cX7_change 3 = .ok (.invokestatic 15, 3) := by decide +kernel
theorem dX7_change_6 : decode cX7_change 6 = .ok (.ifCond .eq 10, 3) := by decide +kernel
theorem dX7_change_9 : decode cX7_change 9 = .ok (.aload_n 0, 1) := by decide +kernel
theorem dX7_change_10 : decode cX7_change 10 = .ok (.getfield 9, 3) := by decide +kernel
theorem dX7_change_13 : decode cX7_change 13 = .ok (.iload_n 1, 1) := by decide +kernel
theorem dX7_change_14 : decode cX7_change 14 = .ok (.iload_n 2, 1) := by decide +kernel
theorem dX7_change_15 : decode cX7_change 15 = .ok (.iastore, 1) := by decide +kernel
theorem dX7_change_16 : decode cX7_change 16 = .ok (.return_, 1) := by decide +kernel
theorem eX7_change_0 {a : Int} {l0 l2 : Option VV} {S : MM} : rn xX7_change (0, [l0, some (vI a), l2], [], S) = rn xX7_change (1, [l0, some (vI a), l2], [vI a], S) := rn_step dX7_change_0 rfl rfl
theorem eX7_change_1 {l0 l1 l2 : Option VV} {v0 : VV} {S : MM} : rn xX7_change (1, [l0, l1, l2], [v0], S) = rn xX7_change (2, [l0, l1, l2], [vI 0, v0], S) := rn_step dX7_change_1 rfl rfl
theorem eX7_change_2 {l0 l1 l2 : Option VV} {v0 v1 : VV} {S : MM} : rn xX7_change (2, [l0, l1, l2], [v0, v1], S) = rn xX7_change (3, [l0, l1, l2], [vI 3, v0, v1], S) := rn_step dX7_change_2 rfl rfl
theorem eX7_change_3 {a0 : Int} {a1 : Int} {a2 : Int} {l0 l1 l2 : Option VV} {S : MM} : rn xX7_change (3, [l0, l1, l2], [vI a2, vI a1, vI a0], S) = (fX8_isBetween [vI a0, vI a1, vI a2] S).bind (fun q => rn xX7_change (6, [l0, l1, l2], q.1.toList ++ [], q.2)) := q_callS (n := 3) (as := [vI a0, vI a1, vI a2]) (rest := []) dX7_change_3 rfl rfl rfl rfl
theorem eX7_change_6 {a : Int} {l0 l1 l2 : Option VV} (h : -2147483648 ≤ a ∧ a ≤ 2147483647) {S : MM} : rn xX7_change (6, [l0, l1, l2], [vI a], S) = if a = 0 then rn xX7_change (16, [l0, l1, l2], [], S) else rn xX7_change (9, [l0, l1, l2], [], S) := q_if_eq dX7_change_6 (by decide) rfl h
theorem eX7_change_9 {a : Option Nat} {l1 l2 : Option VV} {S : MM} : rn xX7_change (9, [some (.inr (.inl a)), l1, l2], [], S) = rn xX7_change (10, [some (.inr (.inl a)), l1, l2], [.inr (.inl a)], S) := rn_step dX7_change_9 rfl rfl
theorem eX7_change_10 {i : Nat} {l0 l1 l2 : Option VV} (h : kd i = 7) {S : MM} : rn xX7_change (10, [l0, l1, l2], [vR i], S) = rn xX7_change (13, [l0, l1, l2], [vR (i + 1)], S) := q_getR dX7_change_10 rfl ⟨⟨by decide, by decide⟩, by decide⟩ (fun h => (fref7 h).trans (by first | rfl | omega)) h
theorem eX7_change_13 {a : Int} {l0 l2 : Option VV} {v0 : VV} {S : MM} : rn xX7_change (13, [l0, some (vI a), l2], [v0], S) = rn xX7_change (14, [l0, some (vI a), l2], [vI a, v0], S) := rn_step dX7_change_13 rfl rfl
theorem eX7_change_14 {a : Int} {l0 l1 : Option VV} {v0 v1 : VV} {S : MM} : rn xX7_change (14, [l0, l1, some (vI a)], [v0, v1], S) = rn xX7_change (15, [l0, l1, some (vI a)], [vI a, v0, v1], S) := rn_step dX7_change_14 rfl rfl
theorem eX7_change_15 {i : Nat} {j z : Int} {l0 l1 l2 : Option VV} (h : kd i = 10) (h0 : 0 ≤ j) (h1 : j < alen i) {S : MM} : rn xX7_change (15, [l0, l1, l2], [vI z, vI j, vR i], S) = rn xX7_change (16, [l0, l1, l2], [], updM S i j.toNat z) := q_iast dX7_change_15 h h0 h1
theorem eX7_change_16 {l0 l1 l2 : Option VV} {S : MM} : rn xX7_change (16, [l0, l1, l2], [], S) = some (none, S) := q_retV dX7_change_16 rfl
noncomputable def qlX6_changeSetting : List CE := [(0, 39, 7, 2, fX7_valueOf), (0, 43, 7, 3, fX7_change), (0, 47, 0, 2, fX0_endAbove)]
noncomputable def xX6_changeSetting : XX := (cX6_changeSetting, fcF fcl6, mcF qlX6_changeSetting, 1)
noncomputable def fX6_changeSetting : FN := fnX xX6_changeSetting 4
set_option maxRecDepth 100000 in
theorem cwX6_changeSetting : Cond.code yX6_changeSetting cX6_changeSetting 4 (some .int) ∈ lw_g := lw_gm 313 (by decide +kernel) (by decide +kernel)
set_option maxRecDepth 100000 in
theorem conX6_changeSetting : Con yX6_changeSetting cX6_changeSetting 4 (some .int) { frames := 3, cells := 0, slots := 0, locals := 62 } fX6_changeSetting := con_of (X := xX6_changeSetting) (own := "LeapStones$Scene") (ql := qlX6_changeSetting) (by decide) rfl FOK6 rfl (List.forall_mem_cons.mpr ⟨call_V conX7_valueOf cwX7_valueOf (lw_gl _ [314, 315, 316, 23] (by decide +kernel) (by decide +kernel)) (by decide) rfl ⟨by decide, by decide, by decide +kernel⟩ ⟨rfl, rfl⟩ ⟨by decide, by decide⟩ ⟨Nat.le_refl _, Nat.le_refl _⟩, List.forall_mem_cons.mpr ⟨call_V conX7_change cwX7_change (lw_gl _ [319, 320, 321, 23] (by decide +kernel) (by decide +kernel)) (by decide) rfl ⟨by decide, by decide, by decide +kernel⟩ ⟨rfl, rfl⟩ ⟨by decide, by decide⟩ ⟨Nat.le_refl _, Nat.le_refl _⟩, List.forall_mem_cons.mpr ⟨call_V conX0_endAbove cwX0_endAbove (lw_gl _ [323, 324, 325, 28] (by decide +kernel) (by decide +kernel)) (by decide) rfl ⟨by decide, by decide, by decide +kernel⟩ ⟨rfl, rfl⟩ ⟨by decide, by decide⟩ ⟨Nat.le_refl _, Nat.le_refl _⟩, fun _ h => absurd h List.not_mem_nil⟩⟩⟩) (Or.inr (Or.inl ⟨rfl, rfl⟩))
theorem uX6_changeSetting {i : Nat} {a0 : Int} {a1 : Int} {S : MM} : fX6_changeSetting [vR i, vI a0, vI a1] S = rn xX6_changeSetting (0, [some (vR i), some (vI a0), some (vI a1), none], [], S) := rfl
theorem dX6_changeSetting_0 : decode cX6_changeSetting 0 = .ok (.aload_n 0, 1) := by decide +kernel
theorem dX6_changeSetting_1 : decode cX6_changeSetting 1 = .ok (.getfield 12, 3) := by decide +kernel
theorem dX6_changeSetting_4 : decode cX6_changeSetting 4 = .ok (.iload_n 1, 1) := by decide +kernel
theorem dX6_changeSetting_5 : decode cX6_changeSetting 5 = .ok (.invokevirtual 39, 3) := by decide +kernel
theorem dX6_changeSetting_8 : decode cX6_changeSetting 8 = .ok (.istore_n 3, 1) := by decide +kernel
theorem dX6_changeSetting_9 : decode cX6_changeSetting 9 = .ok (.aload_n 0, 1) := by decide +kernel
theorem dX6_changeSetting_10 : decode cX6_changeSetting 10 = .ok (.getfield 12, 3) := by decide +kernel
theorem dX6_changeSetting_13 : decode cX6_changeSetting 13 = .ok (.iload_n 1, 1) := by decide +kernel
theorem dX6_changeSetting_14 : decode cX6_changeSetting 14 = .ok (.iload_n 2, 1) := by decide +kernel
theorem dX6_changeSetting_15 : decode cX6_changeSetting 15 = .ok (.invokevirtual 43, 3) := by decide +kernel
theorem dX6_changeSetting_18 : decode cX6_changeSetting 18 = .ok (.iload_n 1, 1) := by decide +kernel
theorem dX6_changeSetting_19 : decode cX6_changeSetting 19 = .ok (.iconst 1, 1) := by decide +kernel
theorem dX6_changeSetting_20 : decode cX6_changeSetting 20 = .ok (.if_icmp .ne 11, 3) := by decide +kernel
theorem dX6_changeSetting_23 : decode cX6_changeSetting 23 = .ok (.aload_n 0, 1) := by decide +kernel
theorem dX6_changeSetting_24 : decode cX6_changeSetting 24 = .ok (.getfield 35, 3) := by decide +kernel
theorem dX6_changeSetting_27 : decode cX6_changeSetting 27 = .ok (.iload_n 2, 1) := by decide +kernel
theorem dX6_changeSetting_28 : decode cX6_changeSetting 28 = .ok (.invokevirtual 47, 3) := by decide +kernel
theorem dX6_changeSetting_31 : decode cX6_changeSetting 31 = .ok (.iload_n 3, 1) := by decide +kernel
theorem dX6_changeSetting_32 : decode cX6_changeSetting 32 = .ok (.ireturn, 1) := by decide +kernel
theorem eX6_changeSetting_0 {a : Option Nat} {l1 l2 l3 : Option VV} {S : MM} : rn xX6_changeSetting (0, [some (.inr (.inl a)), l1, l2, l3], [], S) = rn xX6_changeSetting (1, [some (.inr (.inl a)), l1, l2, l3], [.inr (.inl a)], S) := rn_step dX6_changeSetting_0 rfl rfl
theorem eX6_changeSetting_1 {i : Nat} {l0 l1 l2 l3 : Option VV} (h : kd i = 6) {S : MM} : rn xX6_changeSetting (1, [l0, l1, l2, l3], [vR i], S) = rn xX6_changeSetting (4, [l0, l1, l2, l3], [vR (i + 1)], S) := q_getR dX6_changeSetting_1 rfl ⟨⟨by decide, by decide⟩, by decide⟩ (fun h => (fref6 h).trans (by first | rfl | omega)) h
theorem eX6_changeSetting_4 {a : Int} {l0 l2 l3 : Option VV} {v0 : VV} {S : MM} : rn xX6_changeSetting (4, [l0, some (vI a), l2, l3], [v0], S) = rn xX6_changeSetting (5, [l0, some (vI a), l2, l3], [vI a, v0], S) := rn_step dX6_changeSetting_4 rfl rfl
theorem eX6_changeSetting_5 {a0 : Int} {i : Nat} {l0 l1 l2 l3 : Option VV} (h : kd i = 7) {S : MM} : rn xX6_changeSetting (5, [l0, l1, l2, l3], [vI a0, vR i], S) = (fX7_valueOf [vR i, vI a0] S).bind (fun q => rn xX6_changeSetting (8, [l0, l1, l2, l3], q.1.toList ++ [], q.2)) := q_callV (n := 1) (as := [vI a0]) (rest := []) dX6_changeSetting_5 rfl rfl rfl rfl h
theorem eX6_changeSetting_8 {a : Int} {w : Int} {l0 l1 l3 : Option VV} {S : MM} : rn xX6_changeSetting (8, [l0, l1, some (vI w), l3], [vI a], S) = rn xX6_changeSetting (9, [l0, l1, some (vI w), some (vI a)], [], S) := rn_step dX6_changeSetting_8 rfl rfl
theorem eX6_changeSetting_9 {a : Option Nat} {l1 l2 l3 : Option VV} {S : MM} : rn xX6_changeSetting (9, [some (.inr (.inl a)), l1, l2, l3], [], S) = rn xX6_changeSetting (10, [some (.inr (.inl a)), l1, l2, l3], [.inr (.inl a)], S) := rn_step dX6_changeSetting_9 rfl rfl
theorem eX6_changeSetting_10 {i : Nat} {l0 l1 l2 l3 : Option VV} (h : kd i = 6) {S : MM} : rn xX6_changeSetting (10, [l0, l1, l2, l3], [vR i], S) = rn xX6_changeSetting (13, [l0, l1, l2, l3], [vR (i + 1)], S) := q_getR dX6_changeSetting_10 rfl ⟨⟨by decide, by decide⟩, by decide⟩ (fun h => (fref6 h).trans (by first | rfl | omega)) h
theorem eX6_changeSetting_13 {a : Int} {l0 l2 l3 : Option VV} {v0 : VV} {S : MM} : rn xX6_changeSetting (13, [l0, some (vI a), l2, l3], [v0], S) = rn xX6_changeSetting (14, [l0, some (vI a), l2, l3], [vI a, v0], S) := rn_step dX6_changeSetting_13 rfl rfl
theorem eX6_changeSetting_14 {a : Int} {l0 l1 l3 : Option VV} {v0 v1 : VV} {S : MM} : rn xX6_changeSetting (14, [l0, l1, some (vI a), l3], [v0, v1], S) = rn xX6_changeSetting (15, [l0, l1, some (vI a), l3], [vI a, v0, v1], S) := rn_step dX6_changeSetting_14 rfl rfl
theorem eX6_changeSetting_15 {a0 : Int} {a1 : Int} {i : Nat} {l0 l1 l2 l3 : Option VV} (h : kd i = 7) {S : MM} : rn xX6_changeSetting (15, [l0, l1, l2, l3], [vI a1, vI a0, vR i], S) = (fX7_change [vR i, vI a0, vI a1] S).bind (fun q => rn xX6_changeSetting (18, [l0, l1, l2, l3], q.1.toList ++ [], q.2)) := q_callV (n := 2) (as := [vI a0, vI a1]) (rest := []) dX6_changeSetting_15 rfl rfl rfl rfl h
theorem eX6_changeSetting_18 {a : Int} {l0 l2 l3 : Option VV} {S : MM} : rn xX6_changeSetting (18, [l0, some (vI a), l2, l3], [], S) = rn xX6_changeSetting (19, [l0, some (vI a), l2, l3], [vI a], S) := rn_step dX6_changeSetting_18 rfl rfl
theorem eX6_changeSetting_19 {l0 l1 l2 l3 : Option VV} {v0 : VV} {S : MM} : rn xX6_changeSetting (19, [l0, l1, l2, l3], [v0], S) = rn xX6_changeSetting (20, [l0, l1, l2, l3], [vI 1, v0], S) := rn_step dX6_changeSetting_19 rfl rfl
theorem eX6_changeSetting_20 {a b : Int} {l0 l1 l2 l3 : Option VV} (h : -2147483648 ≤ a ∧ a ≤ 2147483647) (h1 : -2147483648 ≤ b ∧ b ≤ 2147483647) {S : MM} : rn xX6_changeSetting (20, [l0, l1, l2, l3], [vI b, vI a], S) = if a = b then rn xX6_changeSetting (23, [l0, l1, l2, l3], [], S) else rn xX6_changeSetting (31, [l0, l1, l2, l3], [], S) := q_icmp_ne dX6_changeSetting_20 (by decide) rfl h h1
theorem eX6_changeSetting_23 {a : Option Nat} {l1 l2 l3 : Option VV} {S : MM} : rn xX6_changeSetting (23, [some (.inr (.inl a)), l1, l2, l3], [], S) = rn xX6_changeSetting (24, [some (.inr (.inl a)), l1, l2, l3], [.inr (.inl a)], S) := rn_step dX6_changeSetting_23 rfl rfl
theorem eX6_changeSetting_24 {i : Nat} {l0 l1 l2 l3 : Option VV} (h : kd i = 6) {S : MM} : rn xX6_changeSetting (24, [l0, l1, l2, l3], [vR i], S) = rn xX6_changeSetting (27, [l0, l1, l2, l3], [vR (i + 56)], S) := q_getR dX6_changeSetting_24 rfl ⟨⟨by decide, by decide⟩, by decide⟩ (fun h => (fref6 h).trans (by first | rfl | omega)) h
theorem eX6_changeSetting_27 {a : Int} {l0 l1 l3 : Option VV} {v0 : VV} {S : MM} : rn xX6_changeSetting (27, [l0, l1, some (vI a), l3], [v0], S) = rn xX6_changeSetting (28, [l0, l1, some (vI a), l3], [vI a, v0], S) := rn_step dX6_changeSetting_27 rfl rfl
theorem eX6_changeSetting_28 {a0 : Int} {i : Nat} {l0 l1 l2 l3 : Option VV} (h : kd i = 0) {S : MM} : rn xX6_changeSetting (28, [l0, l1, l2, l3], [vI a0, vR i], S) = (fX0_endAbove [vR i, vI a0] S).bind (fun q => rn xX6_changeSetting (31, [l0, l1, l2, l3], q.1.toList ++ [], q.2)) := q_callV (n := 1) (as := [vI a0]) (rest := []) dX6_changeSetting_28 rfl rfl rfl rfl h
theorem eX6_changeSetting_31 {a : Int} {l0 l1 l2 : Option VV} {S : MM} : rn xX6_changeSetting (31, [l0, l1, l2, some (vI a)], [], S) = rn xX6_changeSetting (32, [l0, l1, l2, some (vI a)], [vI a], S) := rn_step dX6_changeSetting_31 rfl rfl
theorem eX6_changeSetting_32 {z : Int} {l0 l1 l2 l3 : Option VV} {S : MM} : rn xX6_changeSetting (32, [l0, l1, l2, l3], [vI z], S) = some (some (vI z), S) := q_retI dX6_changeSetting_32 rfl
noncomputable def qlX6_errorOfLaying : List CE := [(1, 51, 0, 1, fX8_isWalker), (1, 55, 0, 3, fX8_isBetween), (0, 59, 5, 2, fX5_pathOf), (0, 63, 3, 2, fX3_hasRoomFor)]
noncomputable def xX6_errorOfLaying : XX := (cX6_errorOfLaying, fcF fcl6, mcF qlX6_errorOfLaying, 1)
noncomputable def fX6_errorOfLaying : FN := fnX xX6_errorOfLaying 4
set_option maxRecDepth 100000 in
theorem cwX6_errorOfLaying : Cond.code yX6_errorOfLaying cX6_errorOfLaying 4 (some .int) ∈ lw_g := lw_gm 341 (by decide +kernel) (by decide +kernel)
set_option maxRecDepth 100000 in
theorem conX6_errorOfLaying : Con yX6_errorOfLaying cX6_errorOfLaying 4 (some .int) { frames := 2, cells := 0, slots := 0, locals := 43 } fX6_errorOfLaying := con_of (X := xX6_errorOfLaying) (own := "LeapStones$Scene") (ql := qlX6_errorOfLaying) (by decide) rfl FOK6 rfl (List.forall_mem_cons.mpr ⟨call_N conX8_isWalker cwX8_isWalker (lw_gl _ [343, 21] (by decide +kernel) (by decide +kernel)) (List.mem_of_getElem? (i := 18) (by decide +kernel)) ⟨by decide, by decide, by decide +kernel⟩ ⟨rfl, rfl⟩ ⟨by decide, by decide⟩ ⟨Nat.le_refl _, Nat.le_refl _⟩, List.forall_mem_cons.mpr ⟨call_N conX8_isBetween cwX8_isBetween (lw_gl _ [251, 21] (by decide +kernel) (by decide +kernel)) (List.mem_of_getElem? (i := 19) (by decide +kernel)) ⟨by decide, by decide, by decide +kernel⟩ ⟨rfl, rfl⟩ ⟨by decide, by decide⟩ ⟨Nat.le_refl _, Nat.le_refl _⟩, List.forall_mem_cons.mpr ⟨call_V conX5_pathOf cwX5_pathOf (lw_gl _ [346, 347, 348, 24] (by decide +kernel) (by decide +kernel)) (by decide) rfl ⟨by decide, by decide, by decide +kernel⟩ ⟨rfl, rfl⟩ ⟨by decide, by decide⟩ ⟨Nat.le_refl _, Nat.le_refl _⟩, List.forall_mem_cons.mpr ⟨call_V conX3_hasRoomFor cwX3_hasRoomFor (lw_gl _ [350, 351, 352, 25] (by decide +kernel) (by decide +kernel)) (by decide) rfl ⟨by decide, by decide, by decide +kernel⟩ ⟨rfl, rfl⟩ ⟨by decide, by decide⟩ ⟨Nat.le_refl _, Nat.le_refl _⟩, fun _ h => absurd h List.not_mem_nil⟩⟩⟩⟩) (Or.inr (Or.inl ⟨rfl, rfl⟩))
theorem uX6_errorOfLaying {i : Nat} {a0 : Int} {a1 : Int} {a2 : Int} {S : MM} : fX6_errorOfLaying [vR i, vI a0, vI a1, vI a2] S = rn xX6_errorOfLaying (0, [some (vR i), some (vI a0), some (vI a1), some (vI a2)], [], S) := rfl
theorem dX6_errorOfLaying_0 : decode cX6_errorOfLaying 0 = .ok (.iload_n 1, 1) := by decide +kernel
theorem dX6_errorOfLaying_1 : decode cX6_errorOfLaying 1 = .ok (.invokestatic 51, 3) := by decide +kernel
theorem dX6_errorOfLaying_4 : decode cX6_errorOfLaying 4 = .ok (.ifCond .ne 5, 3) := by decide +kernel
theorem dX6_errorOfLaying_7 : decode cX6_errorOfLaying 7 = .ok (.iconst (-1), 1) := by decide +kernel
theorem dX6_errorOfLaying_8 : decode cX6_errorOfLaying 8 = .ok (.ireturn, 1) := by decide +kernel
theorem dX6_errorOfLaying_9 : decode cX6_errorOfLaying 9 = .ok (.iload_n 2, 1) := by decide +kernel
theorem dX6_errorOfLaying_10 : decode cX6_errorOfLaying 10 = .ok (.iconst 0, 1) := by decide +kernel
theorem dX6_errorOfLaying_11 : decode cX6_errorOfLaying 11 = .ok (.sipush 299, 3) := by decide +kernel
theorem dX6_errorOfLaying_14 : decode cX6_errorOfLaying 14 = .ok (.invokestatic 55, 3) := by decide +kernel
theorem dX6_errorOfLaying_17 : decode cX6_errorOfLaying 17 = .ok (.ifCond .eq 13, 3) := by decide +kernel
theorem dX6_errorOfLaying_20 : decode cX6_errorOfLaying 20 = .ok (.iload_n 3, 1) := by decide +kernel
theorem dX6_errorOfLaying_21 : decode cX6_errorOfLaying 21 = .ok (.iconst 1, 1) := by decide +kernel
theorem dX6_errorOfLaying_22 : decode cX6_errorOfLaying 22 = .ok (.bipush 9, 2) := by decide +kernel
theorem dX6_errorOfLaying_24 : decode cX6_errorOfLaying 24 = .ok (.invokestatic 55, 3) := by decide +kernel
theorem dX6_errorOfLaying_27 : decode cX6_errorOfLaying 27 = .ok (.ifCond .ne 6, 3) := by decide +kernel
theorem dX6_errorOfLaying_30 : decode cX6_errorOfLaying 30 = .ok (.bipush (-2), 2) := by decide +kernel
theorem dX6_errorOfLaying_32 : decode cX6_errorOfLaying 32 = .ok (.ireturn, 1) := by decide +kernel
theorem dX6_errorOfLaying_33 : decode cX6_errorOfLaying 33 = .ok (.aload_n 0, 1) := by decide +kernel
theorem dX6_errorOfLaying_34 : decode cX6_errorOfLaying 34 = .ok (.getfield 21, 3) := by decide +kernel
theorem dX6_errorOfLaying_37 : decode cX6_errorOfLaying 37 = .ok (.iload_n 1, 1) := by decide +kernel
theorem dX6_errorOfLaying_38 : decode cX6_errorOfLaying 38 = .ok (.invokevirtual 59, 3) := by decide +kernel
theorem dX6_errorOfLaying_41 : decode cX6_errorOfLaying 41 = .ok (.iload_n 2, 1) := by decide +kernel
theorem dX6_errorOfLaying_42 : decode cX6_errorOfLaying 42 = .ok (.invokevirtual 63, 3) := by decide +kernel
theorem dX6_errorOfLaying_45 : decode cX6_errorOfLaying 45 = .ok (.ifCond .eq 7, 3) := by decide +kernel
theorem dX6_errorOfLaying_48 : decode cX6_errorOfLaying 48 = .ok (.iconst 0, 1) := by decide +kernel
theorem dX6_errorOfLaying_49 : decode cX6_errorOfLaying 49 = .ok (.goto 5, 3) := by decide +kernel
theorem dX6_errorOfLaying_52 : decode cX6_errorOfLaying 52 = .ok (.bipush (-4), 2) := by decide +kernel
theorem dX6_errorOfLaying_54 : decode cX6_errorOfLaying 54 = .ok (.ireturn, 1) := by decide +kernel
theorem eX6_errorOfLaying_0 {a : Int} {l0 l2 l3 : Option VV} {S : MM} : rn xX6_errorOfLaying (0, [l0, some (vI a), l2, l3], [], S) = rn xX6_errorOfLaying (1, [l0, some (vI a), l2, l3], [vI a], S) := rn_step dX6_errorOfLaying_0 rfl rfl
theorem eX6_errorOfLaying_1 {a0 : Int} {l0 l1 l2 l3 : Option VV} {S : MM} : rn xX6_errorOfLaying (1, [l0, l1, l2, l3], [vI a0], S) = (fX8_isWalker [vI a0] S).bind (fun q => rn xX6_errorOfLaying (4, [l0, l1, l2, l3], q.1.toList ++ [], q.2)) := q_callS (n := 1) (as := [vI a0]) (rest := []) dX6_errorOfLaying_1 rfl rfl rfl rfl
theorem eX6_errorOfLaying_4 {a : Int} {l0 l1 l2 l3 : Option VV} (h : -2147483648 ≤ a ∧ a ≤ 2147483647) {S : MM} : rn xX6_errorOfLaying (4, [l0, l1, l2, l3], [vI a], S) = if a = 0 then rn xX6_errorOfLaying (7, [l0, l1, l2, l3], [], S) else rn xX6_errorOfLaying (9, [l0, l1, l2, l3], [], S) := q_if_ne dX6_errorOfLaying_4 (by decide) rfl h
theorem eX6_errorOfLaying_7 {l0 l1 l2 l3 : Option VV} {S : MM} : rn xX6_errorOfLaying (7, [l0, l1, l2, l3], [], S) = rn xX6_errorOfLaying (8, [l0, l1, l2, l3], [vI (-1)], S) := rn_step dX6_errorOfLaying_7 rfl rfl
theorem eX6_errorOfLaying_8 {z : Int} {l0 l1 l2 l3 : Option VV} {S : MM} : rn xX6_errorOfLaying (8, [l0, l1, l2, l3], [vI z], S) = some (some (vI z), S) := q_retI dX6_errorOfLaying_8 rfl
theorem eX6_errorOfLaying_9 {a : Int} {l0 l1 l3 : Option VV} {S : MM} : rn xX6_errorOfLaying (9, [l0, l1, some (vI a), l3], [], S) = rn xX6_errorOfLaying (10, [l0, l1, some (vI a), l3], [vI a], S) := rn_step dX6_errorOfLaying_9 rfl rfl
theorem eX6_errorOfLaying_10 {l0 l1 l2 l3 : Option VV} {v0 : VV} {S : MM} : rn xX6_errorOfLaying (10, [l0, l1, l2, l3], [v0], S) = rn xX6_errorOfLaying (11, [l0, l1, l2, l3], [vI 0, v0], S) := rn_step dX6_errorOfLaying_10 rfl rfl
theorem eX6_errorOfLaying_11 {l0 l1 l2 l3 : Option VV} {v0 v1 : VV} {S : MM} : rn xX6_errorOfLaying (11, [l0, l1, l2, l3], [v0, v1], S) = rn xX6_errorOfLaying (14, [l0, l1, l2, l3], [vI 299, v0, v1], S) := rn_step dX6_errorOfLaying_11 rfl rfl
theorem eX6_errorOfLaying_14 {a0 : Int} {a1 : Int} {a2 : Int} {l0 l1 l2 l3 : Option VV} {S : MM} : rn xX6_errorOfLaying (14, [l0, l1, l2, l3], [vI a2, vI a1, vI a0], S) = (fX8_isBetween [vI a0, vI a1, vI a2] S).bind (fun q => rn xX6_errorOfLaying (17, [l0, l1, l2, l3], q.1.toList ++ [], q.2)) := q_callS (n := 3) (as := [vI a0, vI a1, vI a2]) (rest := []) dX6_errorOfLaying_14 rfl rfl rfl rfl
theorem eX6_errorOfLaying_17 {a : Int} {l0 l1 l2 l3 : Option VV} (h : -2147483648 ≤ a ∧ a ≤ 2147483647) {S : MM} : rn xX6_errorOfLaying (17, [l0, l1, l2, l3], [vI a], S) = if a = 0 then rn xX6_errorOfLaying (30, [l0, l1, l2, l3], [], S) else rn xX6_errorOfLaying (20, [l0, l1, l2, l3], [], S) := q_if_eq dX6_errorOfLaying_17 (by decide) rfl h
theorem eX6_errorOfLaying_20 {a : Int} {l0 l1 l2 : Option VV} {S : MM} : rn xX6_errorOfLaying (20, [l0, l1, l2, some (vI a)], [], S) = rn xX6_errorOfLaying (21, [l0, l1, l2, some (vI a)], [vI a], S) := rn_step dX6_errorOfLaying_20 rfl rfl
theorem eX6_errorOfLaying_21 {l0 l1 l2 l3 : Option VV} {v0 : VV} {S : MM} : rn xX6_errorOfLaying (21, [l0, l1, l2, l3], [v0], S) = rn xX6_errorOfLaying (22, [l0, l1, l2, l3], [vI 1, v0], S) := rn_step dX6_errorOfLaying_21 rfl rfl
theorem eX6_errorOfLaying_22 {l0 l1 l2 l3 : Option VV} {v0 v1 : VV} {S : MM} : rn xX6_errorOfLaying (22, [l0, l1, l2, l3], [v0, v1], S) = rn xX6_errorOfLaying (24, [l0, l1, l2, l3], [vI 9, v0, v1], S) := rn_step dX6_errorOfLaying_22 rfl rfl
theorem eX6_errorOfLaying_24 {a0 : Int} {a1 : Int} {a2 : Int} {l0 l1 l2 l3 : Option VV} {S : MM} : rn xX6_errorOfLaying (24, [l0, l1, l2, l3], [vI a2, vI a1, vI a0], S) = (fX8_isBetween [vI a0, vI a1, vI a2] S).bind (fun q => rn xX6_errorOfLaying (27, [l0, l1, l2, l3], q.1.toList ++ [], q.2)) := q_callS (n := 3) (as := [vI a0, vI a1, vI a2]) (rest := []) dX6_errorOfLaying_24 rfl rfl rfl rfl
theorem eX6_errorOfLaying_27 {a : Int} {l0 l1 l2 l3 : Option VV} (h : -2147483648 ≤ a ∧ a ≤ 2147483647) {S : MM} : rn xX6_errorOfLaying (27, [l0, l1, l2, l3], [vI a], S) = if a = 0 then rn xX6_errorOfLaying (30, [l0, l1, l2, l3], [], S) else rn xX6_errorOfLaying (33, [l0, l1, l2, l3], [], S) := q_if_ne dX6_errorOfLaying_27 (by decide) rfl h
theorem eX6_errorOfLaying_30 {l0 l1 l2 l3 : Option VV} {S : MM} : rn xX6_errorOfLaying (30, [l0, l1, l2, l3], [], S) = rn xX6_errorOfLaying (32, [l0, l1, l2, l3], [vI (-2)], S) := rn_step dX6_errorOfLaying_30 rfl rfl
theorem eX6_errorOfLaying_32 {z : Int} {l0 l1 l2 l3 : Option VV} {S : MM} : rn xX6_errorOfLaying (32, [l0, l1, l2, l3], [vI z], S) = some (some (vI z), S) := q_retI dX6_errorOfLaying_32 rfl
theorem eX6_errorOfLaying_33 {a : Option Nat} {l1 l2 l3 : Option VV} {S : MM} : rn xX6_errorOfLaying (33, [some (.inr (.inl a)), l1, l2, l3], [], S) = rn xX6_errorOfLaying (34, [some (.inr (.inl a)), l1, l2, l3], [.inr (.inl a)], S) := rn_step dX6_errorOfLaying_33 rfl rfl
theorem eX6_errorOfLaying_34 {i : Nat} {l0 l1 l2 l3 : Option VV} (h : kd i = 6) {S : MM} : rn xX6_errorOfLaying (34, [l0, l1, l2, l3], [vR i], S) = rn xX6_errorOfLaying (37, [l0, l1, l2, l3], [vR (i + 3)], S) := q_getR dX6_errorOfLaying_34 rfl ⟨⟨by decide, by decide⟩, by decide⟩ (fun h => (fref6 h).trans (by first | rfl | omega)) h
theorem eX6_errorOfLaying_37 {a : Int} {l0 l2 l3 : Option VV} {v0 : VV} {S : MM} : rn xX6_errorOfLaying (37, [l0, some (vI a), l2, l3], [v0], S) = rn xX6_errorOfLaying (38, [l0, some (vI a), l2, l3], [vI a, v0], S) := rn_step dX6_errorOfLaying_37 rfl rfl
theorem eX6_errorOfLaying_38 {a0 : Int} {i : Nat} {l0 l1 l2 l3 : Option VV} (h : kd i = 5) {S : MM} : rn xX6_errorOfLaying (38, [l0, l1, l2, l3], [vI a0, vR i], S) = (fX5_pathOf [vR i, vI a0] S).bind (fun q => rn xX6_errorOfLaying (41, [l0, l1, l2, l3], q.1.toList ++ [], q.2)) := q_callV (n := 1) (as := [vI a0]) (rest := []) dX6_errorOfLaying_38 rfl rfl rfl rfl h
theorem eX6_errorOfLaying_41 {a : Int} {l0 l1 l3 : Option VV} {v0 : VV} {S : MM} : rn xX6_errorOfLaying (41, [l0, l1, some (vI a), l3], [v0], S) = rn xX6_errorOfLaying (42, [l0, l1, some (vI a), l3], [vI a, v0], S) := rn_step dX6_errorOfLaying_41 rfl rfl
theorem eX6_errorOfLaying_42 {a0 : Int} {i : Nat} {l0 l1 l2 l3 : Option VV} (h : kd i = 3) {S : MM} : rn xX6_errorOfLaying (42, [l0, l1, l2, l3], [vI a0, vR i], S) = (fX3_hasRoomFor [vR i, vI a0] S).bind (fun q => rn xX6_errorOfLaying (45, [l0, l1, l2, l3], q.1.toList ++ [], q.2)) := q_callV (n := 1) (as := [vI a0]) (rest := []) dX6_errorOfLaying_42 rfl rfl rfl rfl h
theorem eX6_errorOfLaying_45 {a : Int} {l0 l1 l2 l3 : Option VV} (h : -2147483648 ≤ a ∧ a ≤ 2147483647) {S : MM} : rn xX6_errorOfLaying (45, [l0, l1, l2, l3], [vI a], S) = if a = 0 then rn xX6_errorOfLaying (52, [l0, l1, l2, l3], [], S) else rn xX6_errorOfLaying (48, [l0, l1, l2, l3], [], S) := q_if_eq dX6_errorOfLaying_45 (by decide) rfl h
theorem eX6_errorOfLaying_48 {l0 l1 l2 l3 : Option VV} {S : MM} : rn xX6_errorOfLaying (48, [l0, l1, l2, l3], [], S) = rn xX6_errorOfLaying (49, [l0, l1, l2, l3], [vI 0], S) := rn_step dX6_errorOfLaying_48 rfl rfl
theorem eX6_errorOfLaying_49 {l0 l1 l2 l3 : Option VV} {v0 : VV} {S : MM} : rn xX6_errorOfLaying (49, [l0, l1, l2, l3], [v0], S) = rn xX6_errorOfLaying (54, [l0, l1, l2, l3], [v0], S) := rn_step dX6_errorOfLaying_49 rfl rfl
theorem eX6_errorOfLaying_52 {l0 l1 l2 l3 : Option VV} {S : MM} : rn xX6_errorOfLaying (52, [l0, l1, l2, l3], [], S) = rn xX6_errorOfLaying (54, [l0, l1, l2, l3], [vI (-4)], S) := rn_step dX6_errorOfLaying_52 rfl rfl
theorem eX6_errorOfLaying_54 {z : Int} {l0 l1 l2 l3 : Option VV} {S : MM} : rn xX6_errorOfLaying (54, [l0, l1, l2, l3], [vI z], S) = some (some (vI z), S) := q_retI dX6_errorOfLaying_54 rfl
noncomputable def qlX6_lay : List CE := [(0, 59, 5, 2, fX5_pathOf), (0, 68, 3, 2, fX3_repeatsOf), (0, 71, 3, 3, fX3_lay)]
noncomputable def xX6_lay : XX := (cX6_lay, fcF fcl6, mcF qlX6_lay, 1)
noncomputable def fX6_lay : FN := fnX xX6_lay 6
set_option maxRecDepth 100000 in
theorem cwX6_lay : Cond.code yX6_lay cX6_lay 6 (some .int) ∈ lw_g := lw_gm 361 (by decide +kernel) (by decide +kernel)
set_option maxRecDepth 100000 in
theorem conX6_lay : Con yX6_lay cX6_lay 6 (some .int) { frames := 2, cells := 0, slots := 0, locals := 49 } fX6_lay := con_of (X := xX6_lay) (own := "LeapStones$Scene") (ql := qlX6_lay) (by decide) rfl FOK6 rfl (List.forall_mem_cons.mpr ⟨call_V conX5_pathOf cwX5_pathOf (lw_gl _ [346, 347, 348, 24] (by decide +kernel) (by decide +kernel)) (by decide) rfl ⟨by decide, by decide, by decide +kernel⟩ ⟨rfl, rfl⟩ ⟨by decide, by decide⟩ ⟨Nat.le_refl _, Nat.le_refl _⟩, List.forall_mem_cons.mpr ⟨call_V conX3_repeatsOf cwX3_repeatsOf (lw_gl _ [362, 355, 356, 25] (by decide +kernel) (by decide +kernel)) (by decide) rfl ⟨by decide, by decide, by decide +kernel⟩ ⟨rfl, rfl⟩ ⟨by decide, by decide⟩ ⟨Nat.le_refl _, Nat.le_refl _⟩, List.forall_mem_cons.mpr ⟨call_V conX3_lay cwX3_lay (lw_gl _ [363, 364, 365, 25] (by decide +kernel) (by decide +kernel)) (by decide) rfl ⟨by decide, by decide, by decide +kernel⟩ ⟨rfl, rfl⟩ ⟨by decide, by decide⟩ ⟨Nat.le_refl _, Nat.le_refl _⟩, fun _ h => absurd h List.not_mem_nil⟩⟩⟩) (Or.inr (Or.inl ⟨rfl, rfl⟩))
theorem uX6_lay {i : Nat} {a0 : Int} {a1 : Int} {a2 : Int} {S : MM} : fX6_lay [vR i, vI a0, vI a1, vI a2] S = rn xX6_lay (0, [some (vR i), some (vI a0), some (vI a1), some (vI a2), none, none], [], S) := rfl
theorem dX6_lay_0 : decode cX6_lay 0 = .ok (.aload_n 0, 1) := by decide +kernel
theorem dX6_lay_1 : decode cX6_lay 1 = .ok (.getfield 21, 3) := by decide +kernel
theorem dX6_lay_4 : decode cX6_lay 4 = .ok (.iload_n 1, 1) := by decide +kernel
theorem dX6_lay_5 : decode cX6_lay 5 = .ok (.invokevirtual 59, 3) := by decide +kernel
theorem dX6_lay_8 : decode cX6_lay 8 = .ok (.astore 4, 2) := by decide +kernel
theorem dX6_lay_10 : decode cX6_lay 10 = .ok (.aload 4, 2) := by decide +kernel
theorem dX6_lay_12 : decode cX6_lay 12 = .ok (.iload_n 2, 1) := by decide +kernel
theorem dX6_lay_13 : decode cX6_lay 13 = .ok (.invokevirtual 68, 3) := by decide +kernel
theorem dX6_lay_16 : decode cX6_lay 16 = .ok (.istore 5, 2) := by decide +kernel
theorem dX6_lay_18 : decode cX6_lay 18 = .ok (.aload 4, 2) := by decide +kernel
theorem dX6_lay_20 : decode cX6_lay 20 = .ok (.iload_n 2, 1) := by decide +kernel
theorem dX6_lay_21 : decode cX6_lay 21 = .ok (.iload_n 3, 1) := by decide +kernel
theorem dX6_lay_22 : decode cX6_lay 22 = .ok (.invokevirtual 71, 3) := by decide +kernel
theorem dX6_lay_25 : decode cX6_lay 25 = .ok (.iload 5, 2) := by decide +kernel
theorem dX6_lay_27 : decode cX6_lay 27 = .ok (.ireturn, 1) := by decide +kernel
theorem eX6_lay_0 {a : Option Nat} {l1 l2 l3 l4 l5 : Option VV} {S : MM} : rn xX6_lay (0, [some (.inr (.inl a)), l1, l2, l3, l4, l5], [], S) = rn xX6_lay (1, [some (.inr (.inl a)), l1, l2, l3, l4, l5], [.inr (.inl a)], S) := rn_step dX6_lay_0 rfl rfl
theorem eX6_lay_1 {i : Nat} {l0 l1 l2 l3 l4 l5 : Option VV} (h : kd i = 6) {S : MM} : rn xX6_lay (1, [l0, l1, l2, l3, l4, l5], [vR i], S) = rn xX6_lay (4, [l0, l1, l2, l3, l4, l5], [vR (i + 3)], S) := q_getR dX6_lay_1 rfl ⟨⟨by decide, by decide⟩, by decide⟩ (fun h => (fref6 h).trans (by first | rfl | omega)) h
theorem eX6_lay_4 {a : Int} {l0 l2 l3 l4 l5 : Option VV} {v0 : VV} {S : MM} : rn xX6_lay (4, [l0, some (vI a), l2, l3, l4, l5], [v0], S) = rn xX6_lay (5, [l0, some (vI a), l2, l3, l4, l5], [vI a, v0], S) := rn_step dX6_lay_4 rfl rfl
theorem eX6_lay_5 {a0 : Int} {i : Nat} {l0 l1 l2 l3 l4 l5 : Option VV} (h : kd i = 5) {S : MM} : rn xX6_lay (5, [l0, l1, l2, l3, l4, l5], [vI a0, vR i], S) = (fX5_pathOf [vR i, vI a0] S).bind (fun q => rn xX6_lay (8, [l0, l1, l2, l3, l4, l5], q.1.toList ++ [], q.2)) := q_callV (n := 1) (as := [vI a0]) (rest := []) dX6_lay_5 rfl rfl rfl rfl h
theorem eX6_lay_8 {a : Option Nat} {w : Int} {l0 l1 l2 l4 l5 : Option VV} {S : MM} : rn xX6_lay (8, [l0, l1, l2, some (vI w), l4, l5], [.inr (.inl a)], S) = rn xX6_lay (10, [l0, l1, l2, some (vI w), some (.inr (.inl a)), l5], [], S) := rn_step dX6_lay_8 rfl rfl
theorem eX6_lay_10 {a : Option Nat} {l0 l1 l2 l3 l5 : Option VV} {S : MM} : rn xX6_lay (10, [l0, l1, l2, l3, some (.inr (.inl a)), l5], [], S) = rn xX6_lay (12, [l0, l1, l2, l3, some (.inr (.inl a)), l5], [.inr (.inl a)], S) := rn_step dX6_lay_10 rfl rfl
theorem eX6_lay_12 {a : Int} {l0 l1 l3 l4 l5 : Option VV} {v0 : VV} {S : MM} : rn xX6_lay (12, [l0, l1, some (vI a), l3, l4, l5], [v0], S) = rn xX6_lay (13, [l0, l1, some (vI a), l3, l4, l5], [vI a, v0], S) := rn_step dX6_lay_12 rfl rfl
theorem eX6_lay_13 {a0 : Int} {i : Nat} {l0 l1 l2 l3 l4 l5 : Option VV} (h : kd i = 3) {S : MM} : rn xX6_lay (13, [l0, l1, l2, l3, l4, l5], [vI a0, vR i], S) = (fX3_repeatsOf [vR i, vI a0] S).bind (fun q => rn xX6_lay (16, [l0, l1, l2, l3, l4, l5], q.1.toList ++ [], q.2)) := q_callV (n := 1) (as := [vI a0]) (rest := []) dX6_lay_13 rfl rfl rfl rfl h
theorem eX6_lay_16 {a : Int} {w : Option Nat} {l0 l1 l2 l3 l5 : Option VV} {S : MM} : rn xX6_lay (16, [l0, l1, l2, l3, some (.inr (.inl w)), l5], [vI a], S) = rn xX6_lay (18, [l0, l1, l2, l3, some (.inr (.inl w)), some (vI a)], [], S) := rn_step dX6_lay_16 rfl rfl
theorem eX6_lay_18 {a : Option Nat} {l0 l1 l2 l3 l5 : Option VV} {S : MM} : rn xX6_lay (18, [l0, l1, l2, l3, some (.inr (.inl a)), l5], [], S) = rn xX6_lay (20, [l0, l1, l2, l3, some (.inr (.inl a)), l5], [.inr (.inl a)], S) := rn_step dX6_lay_18 rfl rfl
theorem eX6_lay_20 {a : Int} {l0 l1 l3 l4 l5 : Option VV} {v0 : VV} {S : MM} : rn xX6_lay (20, [l0, l1, some (vI a), l3, l4, l5], [v0], S) = rn xX6_lay (21, [l0, l1, some (vI a), l3, l4, l5], [vI a, v0], S) := rn_step dX6_lay_20 rfl rfl
theorem eX6_lay_21 {a : Int} {l0 l1 l2 l4 l5 : Option VV} {v0 v1 : VV} {S : MM} : rn xX6_lay (21, [l0, l1, l2, some (vI a), l4, l5], [v0, v1], S) = rn xX6_lay (22, [l0, l1, l2, some (vI a), l4, l5], [vI a, v0, v1], S) := rn_step dX6_lay_21 rfl rfl
theorem eX6_lay_22 {a0 : Int} {a1 : Int} {i : Nat} {l0 l1 l2 l3 l4 l5 : Option VV} (h : kd i = 3) {S : MM} : rn xX6_lay (22, [l0, l1, l2, l3, l4, l5], [vI a1, vI a0, vR i], S) = (fX3_lay [vR i, vI a0, vI a1] S).bind (fun q => rn xX6_lay (25, [l0, l1, l2, l3, l4, l5], q.1.toList ++ [], q.2)) := q_callV (n := 2) (as := [vI a0, vI a1]) (rest := []) dX6_lay_22 rfl rfl rfl rfl h
theorem eX6_lay_25 {a : Int} {l0 l1 l2 l3 l4 : Option VV} {S : MM} : rn xX6_lay (25, [l0, l1, l2, l3, l4, some (vI a)], [], S) = rn xX6_lay (27, [l0, l1, l2, l3, l4, some (vI a)], [vI a], S) := rn_step dX6_lay_25 rfl rfl
theorem eX6_lay_27 {z : Int} {l0 l1 l2 l3 l4 l5 : Option VV} {S : MM} : rn xX6_lay (27, [l0, l1, l2, l3, l4, l5], [vI z], S) = some (some (vI z), S) := q_retI dX6_lay_27 rfl
noncomputable def qlX8_isRange : List CE := [(1, 57, 0, 3, fX8_isBetween)]
noncomputable def xX8_isRange : XX := (cX8_isRange, fcF fcl8, mcF qlX8_isRange, 2)
noncomputable def fX8_isRange : FN := fnX xX8_isRange 2
set_option maxRecDepth 100000 in
theorem cwX8_isRange : Cond.code yX8_isRange cX8_isRange 2 (some .boolean) ∈ lw_g := lw_gm 435 (by decide +kernel) (by decide +kernel)
set_option maxRecDepth 100000 in
theorem conX8_isRange : Con yX8_isRange cX8_isRange 2 (some .boolean) { frames := 1, cells := 0, slots := 0, locals := 22 } fX8_isRange := con_of (X := xX8_isRange) (own := "LeapStones") (ql := qlX8_isRange) (by decide) rfl FOK8 rfl (List.forall_mem_cons.mpr ⟨call_S conX8_isBetween cwX8_isBetween (lw_gl _ [250, 251, 21] (by decide +kernel) (by decide +kernel)) ⟨by decide, by decide, by decide +kernel⟩ ⟨rfl, rfl⟩ ⟨by decide, by decide⟩ ⟨Nat.le_refl _, Nat.le_refl _⟩, fun _ h => absurd h List.not_mem_nil⟩) (Or.inr (Or.inr (Or.inl ⟨rfl, rfl⟩)))
theorem uX8_isRange {a0 : Int} {a1 : Int} {S : MM} : fX8_isRange [vI a0, vI a1] S = rn xX8_isRange (0, [some (vI a0), some (vI a1)], [], S) := rfl
theorem dX8_isRange_0 : decode cX8_isRange 0 = .ok (.iload_n 0, 1) := by decide +kernel
theorem dX8_isRange_1 : decode cX8_isRange 1 = .ok (.iconst 0, 1) := by decide +kernel
theorem dX8_isRange_2 : decode cX8_isRange 2 = .ok (.sipush 299, 3) := by decide +kernel
theorem dX8_isRange_5 : decode cX8_isRange 5 = .ok (.invokestatic 57, 3) := by decide +kernel
theorem dX8_isRange_8 : decode cX8_isRange 8 = .ok (.ifCond .eq 18, 3) := by decide +kernel
theorem dX8_isRange_11 : decode cX8_isRange 11 = .ok (.iload_n 1, 1) := by decide +kernel
theorem dX8_isRange_12 : decode cX8_isRange 12 = .ok (.iload_n 0, 1) := by decide +kernel
theorem dX8_isRange_13 : decode cX8_isRange 13 = .ok (.sipush 299, 3) := by decide +kernel
theorem dX8_isRange_16 : decode cX8_isRange 16 = .ok (.invokestatic 57, 3) := by decide +kernel
theorem dX8_isRange_19 : decode cX8_isRange 19 = .ok (.ifCond .eq 7, 3) := by decide +kernel
theorem dX8_isRange_22 : decode cX8_isRange 22 = .ok (.iconst 1, 1) := by decide +kernel
theorem dX8_isRange_23 : decode cX8_isRange 23 = .ok (.goto 4, 3) := by decide +kernel
theorem dX8_isRange_26 : decode cX8_isRange 26 = .ok (.iconst 0, 1) := by decide +kernel
theorem dX8_isRange_27 : decode cX8_isRange 27 = .ok (.ireturn, 1) := by decide +kernel
theorem eX8_isRange_0 {a : Int} {l1 : Option VV} {S : MM} : rn xX8_isRange (0, [some (vI a), l1], [], S) = rn xX8_isRange (1, [some (vI a), l1], [vI a], S) := rn_step dX8_isRange_0 rfl rfl
theorem eX8_isRange_1 {l0 l1 : Option VV} {v0 : VV} {S : MM} : rn xX8_isRange (1, [l0, l1], [v0], S) = rn xX8_isRange (2, [l0, l1], [vI 0, v0], S) := rn_step dX8_isRange_1 rfl rfl
theorem eX8_isRange_2 {l0 l1 : Option VV} {v0 v1 : VV} {S : MM} : rn xX8_isRange (2, [l0, l1], [v0, v1], S) = rn xX8_isRange (5, [l0, l1], [vI 299, v0, v1], S) := rn_step dX8_isRange_2 rfl rfl
theorem eX8_isRange_5 {a0 : Int} {a1 : Int} {a2 : Int} {l0 l1 : Option VV} {S : MM} : rn xX8_isRange (5, [l0, l1], [vI a2, vI a1, vI a0], S) = (fX8_isBetween [vI a0, vI a1, vI a2] S).bind (fun q => rn xX8_isRange (8, [l0, l1], q.1.toList ++ [], q.2)) := q_callS (n := 3) (as := [vI a0, vI a1, vI a2]) (rest := []) dX8_isRange_5 rfl rfl rfl rfl
theorem eX8_isRange_8 {a : Int} {l0 l1 : Option VV} (h : -2147483648 ≤ a ∧ a ≤ 2147483647) {S : MM} : rn xX8_isRange (8, [l0, l1], [vI a], S) = if a = 0 then rn xX8_isRange (26, [l0, l1], [], S) else rn xX8_isRange (11, [l0, l1], [], S) := q_if_eq dX8_isRange_8 (by decide) rfl h
theorem eX8_isRange_11 {a : Int} {l0 : Option VV} {S : MM} : rn xX8_isRange (11, [l0, some (vI a)], [], S) = rn xX8_isRange (12, [l0, some (vI a)], [vI a], S) := rn_step dX8_isRange_11 rfl rfl
theorem eX8_isRange_12 {a : Int} {l1 : Option VV} {v0 : VV} {S : MM} : rn xX8_isRange (12, [some (vI a), l1], [v0], S) = rn xX8_isRange (13, [some (vI a), l1], [vI a, v0], S) := rn_step dX8_isRange_12 rfl rfl
theorem eX8_isRange_13 {l0 l1 : Option VV} {v0 v1 : VV} {S : MM} : rn xX8_isRange (13, [l0, l1], [v0, v1], S) = rn xX8_isRange (16, [l0, l1], [vI 299, v0, v1], S) := rn_step dX8_isRange_13 rfl rfl
theorem eX8_isRange_16 {a0 : Int} {a1 : Int} {a2 : Int} {l0 l1 : Option VV} {S : MM} : rn xX8_isRange (16, [l0, l1], [vI a2, vI a1, vI a0], S) = (fX8_isBetween [vI a0, vI a1, vI a2] S).bind (fun q => rn xX8_isRange (19, [l0, l1], q.1.toList ++ [], q.2)) := q_callS (n := 3) (as := [vI a0, vI a1, vI a2]) (rest := []) dX8_isRange_16 rfl rfl rfl rfl
theorem eX8_isRange_19 {a : Int} {l0 l1 : Option VV} (h : -2147483648 ≤ a ∧ a ≤ 2147483647) {S : MM} : rn xX8_isRange (19, [l0, l1], [vI a], S) = if a = 0 then rn xX8_isRange (26, [l0, l1], [], S) else rn xX8_isRange (22, [l0, l1], [], S) := q_if_eq dX8_isRange_19 (by decide) rfl h
theorem eX8_isRange_22 {l0 l1 : Option VV} {S : MM} : rn xX8_isRange (22, [l0, l1], [], S) = rn xX8_isRange (23, [l0, l1], [vI 1], S) := rn_step dX8_isRange_22 rfl rfl
theorem eX8_isRange_23 {l0 l1 : Option VV} {v0 : VV} {S : MM} : rn xX8_isRange (23, [l0, l1], [v0], S) = rn xX8_isRange (27, [l0, l1], [v0], S) := rn_step dX8_isRange_23 rfl rfl
theorem eX8_isRange_26 {l0 l1 : Option VV} {S : MM} : rn xX8_isRange (26, [l0, l1], [], S) = rn xX8_isRange (27, [l0, l1], [vI 0], S) := rn_step dX8_isRange_26 rfl rfl
theorem eX8_isRange_27 {z : Int} {l0 l1 : Option VV} (hz : z = 0 ∨ z = 1) {S : MM} : rn xX8_isRange (27, [l0, l1], [vI z], S) = some (some (vI z), S) := q_retZ dX8_isRange_27 rfl hz
noncomputable def qlX6_errorOfFlooding : List CE := [(1, 51, 0, 1, fX8_isWalker), (1, 74, 0, 2, fX8_isRange)]
noncomputable def xX6_errorOfFlooding : XX := (cX6_errorOfFlooding, fcF fcl6, mcF qlX6_errorOfFlooding, 1)
noncomputable def fX6_errorOfFlooding : FN := fnX xX6_errorOfFlooding 4
set_option maxRecDepth 100000 in
theorem cwX6_errorOfFlooding : Cond.code yX6_errorOfFlooding cX6_errorOfFlooding 4 (some .int) ∈ lw_g := lw_gm 432 (by decide +kernel) (by decide +kernel)
set_option maxRecDepth 100000 in
theorem conX6_errorOfFlooding : Con yX6_errorOfFlooding cX6_errorOfFlooding 4 (some .int) { frames := 2, cells := 0, slots := 0, locals := 43 } fX6_errorOfFlooding := con_of (X := xX6_errorOfFlooding) (own := "LeapStones$Scene") (ql := qlX6_errorOfFlooding) (by decide) rfl FOK6 rfl (List.forall_mem_cons.mpr ⟨call_N conX8_isWalker cwX8_isWalker (lw_gl _ [343, 21] (by decide +kernel) (by decide +kernel)) (List.mem_of_getElem? (i := 18) (by decide +kernel)) ⟨by decide, by decide, by decide +kernel⟩ ⟨rfl, rfl⟩ ⟨by decide, by decide⟩ ⟨Nat.le_refl _, Nat.le_refl _⟩, List.forall_mem_cons.mpr ⟨call_N conX8_isRange cwX8_isRange (lw_gl _ [434, 21] (by decide +kernel) (by decide +kernel)) (List.mem_of_getElem? (i := 21) (by decide +kernel)) ⟨by decide, by decide, by decide +kernel⟩ ⟨rfl, rfl⟩ ⟨by decide, by decide⟩ ⟨Nat.le_refl _, Nat.le_refl _⟩, fun _ h => absurd h List.not_mem_nil⟩⟩) (Or.inr (Or.inl ⟨rfl, rfl⟩))
theorem uX6_errorOfFlooding {i : Nat} {a0 : Int} {a1 : Int} {a2 : Int} {S : MM} : fX6_errorOfFlooding [vR i, vI a0, vI a1, vI a2] S = rn xX6_errorOfFlooding (0, [some (vR i), some (vI a0), some (vI a1), some (vI a2)], [], S) := rfl
theorem dX6_errorOfFlooding_0 : decode cX6_errorOfFlooding 0 = .ok (.iload_n 1, 1) := by decide +kernel
theorem dX6_errorOfFlooding_1 : decode cX6_errorOfFlooding 1 = .ok (.bipush (-6), 2) := by decide +kernel
theorem dX6_errorOfFlooding_3 : decode cX6_errorOfFlooding 3 = .ok (.if_icmp .eq 12, 3) := by decide +kernel
theorem dX6_errorOfFlooding_6 : decode cX6_errorOfFlooding 6 = .ok (.iload_n 1, 1) := by decide +kernel
theorem dX6_errorOfFlooding_7 : decode cX6_errorOfFlooding 7 = .ok (.invokestatic 51, 3) := by decide +kernel
theorem dX6_errorOfFlooding_10 : decode cX6_errorOfFlooding 10 = .ok (.ifCond .ne 5, 3) := by decide +kernel
theorem dX6_errorOfFlooding_13 : decode cX6_errorOfFlooding 13 = .ok (.iconst (-1), 1) := by decide +kernel
theorem dX6_errorOfFlooding_14 : decode cX6_errorOfFlooding 14 = .ok (.ireturn, 1) := by decide +kernel
theorem dX6_errorOfFlooding_15 : decode cX6_errorOfFlooding 15 = .ok (.iload_n 2, 1) := by decide +kernel
theorem dX6_errorOfFlooding_16 : decode cX6_errorOfFlooding 16 = .ok (.iload_n 3, 1) := by decide +kernel
theorem dX6_errorOfFlooding_17 : decode cX6_errorOfFlooding 17 = .ok (.invokestatic 74, 3) := by decide +kernel
theorem dX6_errorOfFlooding_20 : decode cX6_errorOfFlooding 20 = .ok (.ifCond .eq 7, 3) := by decide +kernel
theorem dX6_errorOfFlooding_23 : decode cX6_errorOfFlooding 23 = .ok (.iconst 0, 1) := by decide +kernel
theorem dX6_errorOfFlooding_24 : decode cX6_errorOfFlooding 24 = .ok (.goto 5, 3) := by decide +kernel
theorem dX6_errorOfFlooding_27 : decode cX6_errorOfFlooding 27 = .ok (.bipush (-2), 2) := by decide +kernel
theorem dX6_errorOfFlooding_29 : decode cX6_errorOfFlooding 29 = .ok (.ireturn, 1) := by decide +kernel
theorem eX6_errorOfFlooding_0 {a : Int} {l0 l2 l3 : Option VV} {S : MM} : rn xX6_errorOfFlooding (0, [l0, some (vI a), l2, l3], [], S) = rn xX6_errorOfFlooding (1, [l0, some (vI a), l2, l3], [vI a], S) := rn_step dX6_errorOfFlooding_0 rfl rfl
theorem eX6_errorOfFlooding_1 {l0 l1 l2 l3 : Option VV} {v0 : VV} {S : MM} : rn xX6_errorOfFlooding (1, [l0, l1, l2, l3], [v0], S) = rn xX6_errorOfFlooding (3, [l0, l1, l2, l3], [vI (-6), v0], S) := rn_step dX6_errorOfFlooding_1 rfl rfl
theorem eX6_errorOfFlooding_3 {a b : Int} {l0 l1 l2 l3 : Option VV} (h : -2147483648 ≤ a ∧ a ≤ 2147483647) (h1 : -2147483648 ≤ b ∧ b ≤ 2147483647) {S : MM} : rn xX6_errorOfFlooding (3, [l0, l1, l2, l3], [vI b, vI a], S) = if a = b then rn xX6_errorOfFlooding (15, [l0, l1, l2, l3], [], S) else rn xX6_errorOfFlooding (6, [l0, l1, l2, l3], [], S) := q_icmp_eq dX6_errorOfFlooding_3 (by decide) rfl h h1
theorem eX6_errorOfFlooding_6 {a : Int} {l0 l2 l3 : Option VV} {S : MM} : rn xX6_errorOfFlooding (6, [l0, some (vI a), l2, l3], [], S) = rn xX6_errorOfFlooding (7, [l0, some (vI a), l2, l3], [vI a], S) := rn_step dX6_errorOfFlooding_6 rfl rfl
theorem eX6_errorOfFlooding_7 {a0 : Int} {l0 l1 l2 l3 : Option VV} {S : MM} : rn xX6_errorOfFlooding (7, [l0, l1, l2, l3], [vI a0], S) = (fX8_isWalker [vI a0] S).bind (fun q => rn xX6_errorOfFlooding (10, [l0, l1, l2, l3], q.1.toList ++ [], q.2)) := q_callS (n := 1) (as := [vI a0]) (rest := []) dX6_errorOfFlooding_7 rfl rfl rfl rfl
theorem eX6_errorOfFlooding_10 {a : Int} {l0 l1 l2 l3 : Option VV} (h : -2147483648 ≤ a ∧ a ≤ 2147483647) {S : MM} : rn xX6_errorOfFlooding (10, [l0, l1, l2, l3], [vI a], S) = if a = 0 then rn xX6_errorOfFlooding (13, [l0, l1, l2, l3], [], S) else rn xX6_errorOfFlooding (15, [l0, l1, l2, l3], [], S) := q_if_ne dX6_errorOfFlooding_10 (by decide) rfl h
theorem eX6_errorOfFlooding_13 {l0 l1 l2 l3 : Option VV} {S : MM} : rn xX6_errorOfFlooding (13, [l0, l1, l2, l3], [], S) = rn xX6_errorOfFlooding (14, [l0, l1, l2, l3], [vI (-1)], S) := rn_step dX6_errorOfFlooding_13 rfl rfl
theorem eX6_errorOfFlooding_14 {z : Int} {l0 l1 l2 l3 : Option VV} {S : MM} : rn xX6_errorOfFlooding (14, [l0, l1, l2, l3], [vI z], S) = some (some (vI z), S) := q_retI dX6_errorOfFlooding_14 rfl
theorem eX6_errorOfFlooding_15 {a : Int} {l0 l1 l3 : Option VV} {S : MM} : rn xX6_errorOfFlooding (15, [l0, l1, some (vI a), l3], [], S) = rn xX6_errorOfFlooding (16, [l0, l1, some (vI a), l3], [vI a], S) := rn_step dX6_errorOfFlooding_15 rfl rfl
theorem eX6_errorOfFlooding_16 {a : Int} {l0 l1 l2 : Option VV} {v0 : VV} {S : MM} : rn xX6_errorOfFlooding (16, [l0, l1, l2, some (vI a)], [v0], S) = rn xX6_errorOfFlooding (17, [l0, l1, l2, some (vI a)], [vI a, v0], S) := rn_step dX6_errorOfFlooding_16 rfl rfl
theorem eX6_errorOfFlooding_17 {a0 : Int} {a1 : Int} {l0 l1 l2 l3 : Option VV} {S : MM} : rn xX6_errorOfFlooding (17, [l0, l1, l2, l3], [vI a1, vI a0], S) = (fX8_isRange [vI a0, vI a1] S).bind (fun q => rn xX6_errorOfFlooding (20, [l0, l1, l2, l3], q.1.toList ++ [], q.2)) := q_callS (n := 2) (as := [vI a0, vI a1]) (rest := []) dX6_errorOfFlooding_17 rfl rfl rfl rfl
theorem eX6_errorOfFlooding_20 {a : Int} {l0 l1 l2 l3 : Option VV} (h : -2147483648 ≤ a ∧ a ≤ 2147483647) {S : MM} : rn xX6_errorOfFlooding (20, [l0, l1, l2, l3], [vI a], S) = if a = 0 then rn xX6_errorOfFlooding (27, [l0, l1, l2, l3], [], S) else rn xX6_errorOfFlooding (23, [l0, l1, l2, l3], [], S) := q_if_eq dX6_errorOfFlooding_20 (by decide) rfl h
theorem eX6_errorOfFlooding_23 {l0 l1 l2 l3 : Option VV} {S : MM} : rn xX6_errorOfFlooding (23, [l0, l1, l2, l3], [], S) = rn xX6_errorOfFlooding (24, [l0, l1, l2, l3], [vI 0], S) := rn_step dX6_errorOfFlooding_23 rfl rfl
theorem eX6_errorOfFlooding_24 {l0 l1 l2 l3 : Option VV} {v0 : VV} {S : MM} : rn xX6_errorOfFlooding (24, [l0, l1, l2, l3], [v0], S) = rn xX6_errorOfFlooding (29, [l0, l1, l2, l3], [v0], S) := rn_step dX6_errorOfFlooding_24 rfl rfl
theorem eX6_errorOfFlooding_27 {l0 l1 l2 l3 : Option VV} {S : MM} : rn xX6_errorOfFlooding (27, [l0, l1, l2, l3], [], S) = rn xX6_errorOfFlooding (29, [l0, l1, l2, l3], [vI (-2)], S) := rn_step dX6_errorOfFlooding_27 rfl rfl
theorem eX6_errorOfFlooding_29 {z : Int} {l0 l1 l2 l3 : Option VV} {S : MM} : rn xX6_errorOfFlooding (29, [l0, l1, l2, l3], [vI z], S) = some (some (vI z), S) := q_retI dX6_errorOfFlooding_29 rfl
noncomputable def qlX6_takeAway : List CE := [(0, 78, 1, 1, fX1_addEmpty), (0, 59, 5, 2, fX5_pathOf), (0, 82, 3, 4, fX3_moveTo), (0, 86, 0, 2, fX0_slip), (0, 39, 7, 2, fX7_valueOf), (0, 90, 0, 3, fX0_lookRound), (0, 94, 5, 1, fX5_stones)]
noncomputable def xX6_takeAway : XX := (cX6_takeAway, fcF fcl6, mcF qlX6_takeAway, 1)
noncomputable def fX6_takeAway : FN := fnX xX6_takeAway 6
set_option maxRecDepth 100000 in
theorem cwX6_takeAway : Cond.code yX6_takeAway cX6_takeAway 6 (some .int) ∈ lw_g := lw_gm 439 (by decide +kernel) (by decide +kernel)
set_option maxRecDepth 100000 in
theorem conX6_takeAway : Con yX6_takeAway cX6_takeAway 6 (some .int) { frames := 4, cells := 0, slots := 0, locals := 85 } fX6_takeAway := con_of (X := xX6_takeAway) (own := "LeapStones$Scene") (ql := qlX6_takeAway) (by decide) rfl FOK6 rfl (List.forall_mem_cons.mpr ⟨call_V conX1_addEmpty cwX1_addEmpty (lw_gl _ [440, 441, 442, 26] (by decide +kernel) (by decide +kernel)) (by decide) rfl ⟨by decide, by decide, by decide +kernel⟩ ⟨rfl, rfl⟩ ⟨by decide, by decide⟩ ⟨Nat.le_refl _, Nat.le_refl _⟩, List.forall_mem_cons.mpr ⟨call_V conX5_pathOf cwX5_pathOf (lw_gl _ [346, 347, 348, 24] (by decide +kernel) (by decide +kernel)) (by decide) rfl ⟨by decide, by decide, by decide +kernel⟩ ⟨rfl, rfl⟩ ⟨by decide, by decide⟩ ⟨Nat.le_refl _, Nat.le_refl _⟩, List.forall_mem_cons.mpr ⟨call_V conX3_moveTo cwX3_moveTo (lw_gl _ [453, 454, 455, 25] (by decide +kernel) (by decide +kernel)) (by decide) rfl ⟨by decide, by decide, by decide +kernel⟩ ⟨rfl, rfl⟩ ⟨by decide, by decide⟩ ⟨Nat.le_refl _, Nat.le_refl _⟩, List.forall_mem_cons.mpr ⟨call_V conX0_slip cwX0_slip (lw_gl _ [459, 460, 461, 28] (by decide +kernel) (by decide +kernel)) (by decide) rfl ⟨by decide, by decide, by decide +kernel⟩ ⟨rfl, rfl⟩ ⟨by decide, by decide⟩ ⟨Nat.le_refl _, Nat.le_refl _⟩, List.forall_mem_cons.mpr ⟨call_V conX7_valueOf cwX7_valueOf (lw_gl _ [314, 315, 316, 23] (by decide +kernel) (by decide +kernel)) (by decide) rfl ⟨by decide, by decide, by decide +kernel⟩ ⟨rfl, rfl⟩ ⟨by decide, by decide⟩ ⟨Nat.le_refl _, Nat.le_refl _⟩, List.forall_mem_cons.mpr ⟨call_V conX0_lookRound cwX0_lookRound (lw_gl _ [472, 473, 474, 28] (by decide +kernel) (by decide +kernel)) (by decide) rfl ⟨by decide, by decide, by decide +kernel⟩ ⟨rfl, rfl⟩ ⟨by decide, by decide⟩ ⟨Nat.le_refl _, Nat.le_refl _⟩, List.forall_mem_cons.mpr ⟨call_V conX5_stones cwX5_stones (lw_gl _ [490, 491, 492, 24] (by decide +kernel) (by decide +kernel)) (by decide) rfl ⟨by decide, by decide, by decide +kernel⟩ ⟨rfl, rfl⟩ ⟨by decide, by decide⟩ ⟨Nat.le_refl _, Nat.le_refl _⟩, fun _ h => absurd h List.not_mem_nil⟩⟩⟩⟩⟩⟩⟩) (Or.inr (Or.inl ⟨rfl, rfl⟩))
theorem uX6_takeAway {i : Nat} {a0 : Int} {a1 : Int} {a2 : Int} {S : MM} : fX6_takeAway [vR i, vI a0, vI a1, vI a2] S = rn xX6_takeAway (0, [some (vR i), some (vI a0), some (vI a1), some (vI a2), none, none], [], S) := rfl
theorem dX6_takeAway_0 : decode cX6_takeAway 0 = .ok (.aload_n 0, 1) := by decide +kernel
theorem dX6_takeAway_1 : decode cX6_takeAway 1 = .ok (.getfield 28, 3) := by decide +kernel
theorem dX6_takeAway_4 : decode cX6_takeAway 4 = .ok (.invokevirtual 78, 3) := by decide +kernel
theorem dX6_takeAway_7 : decode cX6_takeAway 7 = .ok (.astore 4, 2) := by decide +kernel
theorem dX6_takeAway_9 : decode cX6_takeAway 9 = .ok (.aload 4, 2) := by decide +kernel
theorem dX6_takeAway_11 : decode cX6_takeAway 11 = .ok (.ifnonnull 5, 3) := by decide +kernel
theorem dX6_takeAway_14 : decode cX6_takeAway 14 = .ok (.iconst 0, 1) := by decide +kernel
theorem dX6_takeAway_15 : decode cX6_takeAway 15 = .ok (.ireturn, 1) := by decide +kernel
theorem dX6_takeAway_16 : decode cX6_takeAway 16 = .ok (.iconst 0, 1) := by decide +kernel
theorem dX6_takeAway_17 : decode cX6_takeAway 17 = .ok (.istore 5, 2) := by decide +kernel
theorem dX6_takeAway_19 : decode cX6_takeAway 19 = .ok (.iload 5, 2) := by decide +kernel
theorem dX6_takeAway_21 : decode cX6_takeAway 21 = .ok (.iconst 3, 1) := by decide +kernel
theorem dX6_takeAway_22 : decode cX6_takeAway 22 = .ok (.if_icmp .ge 42, 3) := by decide +kernel
theorem dX6_takeAway_25 : decode cX6_takeAway 25 = .ok (.iload_n 1, 1) := by decide +kernel
theorem dX6_takeAway_26 : decode cX6_takeAway 26 = .ok (.bipush (-6), 2) := by decide +kernel
theorem dX6_takeAway_28 : decode cX6_takeAway 28 = .ok (.if_icmp .eq 9, 3) := by decide +kernel
theorem dX6_takeAway_31 : decode cX6_takeAway 31 = .ok (.iload_n 1, 1) := by decide +kernel
theorem dX6_takeAway_32 : decode cX6_takeAway 32 = .ok (.iload 5, 2) := by decide +kernel
theorem dX6_takeAway_34 : decode cX6_takeAway 34 = .ok (.if_icmp .ne 24, 3) := by decide +kernel
theorem dX6_takeAway_37 : decode cX6_takeAway 37 = .ok (.aload_n 0, 1) := by decide +kernel
theorem dX6_takeAway_38 : decode cX6_takeAway 38 = .ok (.getfield 21, 3) := by decide +kernel
theorem dX6_takeAway_41 : decode cX6_takeAway 41 = .ok (.iload 5, 2) := by decide +kernel
theorem dX6_takeAway_43 : decode cX6_takeAway 43 = .ok (.invokevirtual 59, 3) := by decide +kernel
theorem dX6_takeAway_46 : decode cX6_takeAway 46 = .ok (.aload 4, 2) := by decide +kernel
theorem dX6_takeAway_48 : decode cX6_takeAway 48 = .ok (.iload 5, 2) := by decide +kernel
theorem dX6_takeAway_50 : decode cX6_takeAway 50 = .ok (.invokevirtual 59, 3) := by decide +kernel
theorem dX6_takeAway_53 : decode cX6_takeAway 53 = .ok (.iload_n 2, 1) := by decide +kernel
theorem dX6_takeAway_54 : decode cX6_takeAway 54 = .ok (.iload_n 3, 1) := by decide +kernel
theorem dX6_takeAway_55 : decode cX6_takeAway 55 = .ok (.invokevirtual 82, 3) := by decide +kernel
theorem dX6_takeAway_58 : decode cX6_takeAway 58 = .ok (.iinc 5 1, 3) := by decide +kernel
theorem dX6_takeAway_61 : decode cX6_takeAway 61 = .ok (.goto (-42), 3) := by decide +kernel
theorem dX6_takeAway_64 : decode cX6_takeAway 64 = .ok (.aload_n 0, 1) := by decide +kernel
theorem dX6_takeAway_65 : decode cX6_takeAway 65 = .ok (.getfield 35, 3) := by decide +kernel
theorem dX6_takeAway_68 : decode cX6_takeAway 68 = .ok (.aload_n 0, 1) := by decide +kernel
theorem dX6_takeAway_69 : decode cX6_takeAway 69 = .ok (.getfield 21, 3) := by decide +kernel
theorem dX6_takeAway_72 : decode cX6_takeAway 72 = .ok (.invokevirtual 86, 3) := by decide +kernel
theorem dX6_takeAway_75 : decode cX6_takeAway 75 = .ok (.aload_n 0, 1) := by decide +kernel
theorem dX6_takeAway_76 : decode cX6_takeAway 76 = .ok (.getfield 35, 3) := by decide +kernel
theorem dX6_takeAway_79 : decode cX6_takeAway 79 = .ok (.aload_n 0, 1) := by decide +kernel
theorem dX6_takeAway_80 : decode cX6_takeAway 80 = .ok (.getfield 21, 3) := by decide +kernel
theorem dX6_takeAway_83 : decode cX6_takeAway 83 = .ok (.aload_n 0, 1) := by decide +kernel
theorem dX6_takeAway_84 : decode cX6_takeAway 84 = .ok (.getfield 12, 3) := by decide +kernel
theorem dX6_takeAway_87 : decode cX6_takeAway 87 = .ok (.iconst 1, 1) := by decide +kernel
theorem dX6_takeAway_88 : decode cX6_takeAway 88 = .ok (.invokevirtual 39, 3) := by decide +kernel
theorem dX6_takeAway_91 : decode cX6_takeAway 91 = .ok (.invokevirtual 90, 3) := by decide +kernel
theorem dX6_takeAway_94 : decode cX6_takeAway 94 = .ok (.aload 4, 2) := by decide +kernel
theorem dX6_takeAway_96 : decode cX6_takeAway 96 = .ok (.invokevirtual 94, 3) := by decide +kernel
theorem dX6_takeAway_99 : decode cX6_takeAway 99 = .ok (.ireturn, 1) := by decide +kernel
theorem eX6_takeAway_0 {a : Option Nat} {l1 l2 l3 l4 l5 : Option VV} {S : MM} : rn xX6_takeAway (0, [some (.inr (.inl a)), l1, l2, l3, l4, l5], [], S) = rn xX6_takeAway (1, [some (.inr (.inl a)), l1, l2, l3, l4, l5], [.inr (.inl a)], S) := rn_step dX6_takeAway_0 rfl rfl
theorem eX6_takeAway_1 {i : Nat} {l0 l1 l2 l3 l4 l5 : Option VV} (h : kd i = 6) {S : MM} : rn xX6_takeAway (1, [l0, l1, l2, l3, l4, l5], [vR i], S) = rn xX6_takeAway (4, [l0, l1, l2, l3, l4, l5], [vR (i + 13)], S) := q_getR dX6_takeAway_1 rfl ⟨⟨by decide, by decide⟩, by decide⟩ (fun h => (fref6 h).trans (by first | rfl | omega)) h
theorem eX6_takeAway_4 {i : Nat} {l0 l1 l2 l3 l4 l5 : Option VV} (h : kd i = 1) {S : MM} : rn xX6_takeAway (4, [l0, l1, l2, l3, l4, l5], [vR i], S) = (fX1_addEmpty [vR i] S).bind (fun q => rn xX6_takeAway (7, [l0, l1, l2, l3, l4, l5], q.1.toList ++ [], q.2)) := q_callV (n := 0) (as := []) (rest := []) dX6_takeAway_4 rfl rfl rfl rfl h
theorem eX6_takeAway_7 {a : Option Nat} {w : Int} {l0 l1 l2 l4 l5 : Option VV} {S : MM} : rn xX6_takeAway (7, [l0, l1, l2, some (vI w), l4, l5], [.inr (.inl a)], S) = rn xX6_takeAway (9, [l0, l1, l2, some (vI w), some (.inr (.inl a)), l5], [], S) := rn_step dX6_takeAway_7 rfl rfl
theorem eX6_takeAway_9 {a : Option Nat} {l0 l1 l2 l3 l5 : Option VV} {S : MM} : rn xX6_takeAway (9, [l0, l1, l2, l3, some (.inr (.inl a)), l5], [], S) = rn xX6_takeAway (11, [l0, l1, l2, l3, some (.inr (.inl a)), l5], [.inr (.inl a)], S) := rn_step dX6_takeAway_9 rfl rfl
theorem eX6_takeAway_11n {l0 l1 l2 l3 l4 l5 : Option VV} {S : MM} : rn xX6_takeAway (11, [l0, l1, l2, l3, l4, l5], [vN], S) = rn xX6_takeAway (14, [l0, l1, l2, l3, l4, l5], [], S) := rn_step dX6_takeAway_11 rfl rfl
theorem eX6_takeAway_11r {i : Nat} {l0 l1 l2 l3 l4 l5 : Option VV} {S : MM} : rn xX6_takeAway (11, [l0, l1, l2, l3, l4, l5], [vR i], S) = rn xX6_takeAway (16, [l0, l1, l2, l3, l4, l5], [], S) := rn_step dX6_takeAway_11 rfl rfl
theorem eX6_takeAway_14 {l0 l1 l2 l3 l4 l5 : Option VV} {S : MM} : rn xX6_takeAway (14, [l0, l1, l2, l3, l4, l5], [], S) = rn xX6_takeAway (15, [l0, l1, l2, l3, l4, l5], [vI 0], S) := rn_step dX6_takeAway_14 rfl rfl
theorem eX6_takeAway_15 {z : Int} {l0 l1 l2 l3 l4 l5 : Option VV} {S : MM} : rn xX6_takeAway (15, [l0, l1, l2, l3, l4, l5], [vI z], S) = some (some (vI z), S) := q_retI dX6_takeAway_15 rfl
theorem eX6_takeAway_16 {l0 l1 l2 l3 l4 l5 : Option VV} {S : MM} : rn xX6_takeAway (16, [l0, l1, l2, l3, l4, l5], [], S) = rn xX6_takeAway (17, [l0, l1, l2, l3, l4, l5], [vI 0], S) := rn_step dX6_takeAway_16 rfl rfl
theorem eX6_takeAway_17 {a : Int} {w : Option Nat} {l0 l1 l2 l3 l5 : Option VV} {S : MM} : rn xX6_takeAway (17, [l0, l1, l2, l3, some (.inr (.inl w)), l5], [vI a], S) = rn xX6_takeAway (19, [l0, l1, l2, l3, some (.inr (.inl w)), some (vI a)], [], S) := rn_step dX6_takeAway_17 rfl rfl
theorem eX6_takeAway_19 {a : Int} {l0 l1 l2 l3 l4 : Option VV} {S : MM} : rn xX6_takeAway (19, [l0, l1, l2, l3, l4, some (vI a)], [], S) = rn xX6_takeAway (21, [l0, l1, l2, l3, l4, some (vI a)], [vI a], S) := rn_step dX6_takeAway_19 rfl rfl
theorem eX6_takeAway_21 {l0 l1 l2 l3 l4 l5 : Option VV} {v0 : VV} {S : MM} : rn xX6_takeAway (21, [l0, l1, l2, l3, l4, l5], [v0], S) = rn xX6_takeAway (22, [l0, l1, l2, l3, l4, l5], [vI 3, v0], S) := rn_step dX6_takeAway_21 rfl rfl
theorem eX6_takeAway_22 {a b : Int} {l0 l1 l2 l3 l4 l5 : Option VV} (h : -2147483648 ≤ a ∧ a ≤ 2147483647) (h1 : -2147483648 ≤ b ∧ b ≤ 2147483647) {S : MM} : rn xX6_takeAway (22, [l0, l1, l2, l3, l4, l5], [vI b, vI a], S) = if a < b then rn xX6_takeAway (25, [l0, l1, l2, l3, l4, l5], [], S) else rn xX6_takeAway (64, [l0, l1, l2, l3, l4, l5], [], S) := q_icmp_ge dX6_takeAway_22 (by decide) rfl h h1
theorem eX6_takeAway_25 {a : Int} {l0 l2 l3 l4 l5 : Option VV} {S : MM} : rn xX6_takeAway (25, [l0, some (vI a), l2, l3, l4, l5], [], S) = rn xX6_takeAway (26, [l0, some (vI a), l2, l3, l4, l5], [vI a], S) := rn_step dX6_takeAway_25 rfl rfl
theorem eX6_takeAway_26 {l0 l1 l2 l3 l4 l5 : Option VV} {v0 : VV} {S : MM} : rn xX6_takeAway (26, [l0, l1, l2, l3, l4, l5], [v0], S) = rn xX6_takeAway (28, [l0, l1, l2, l3, l4, l5], [vI (-6), v0], S) := rn_step dX6_takeAway_26 rfl rfl
theorem eX6_takeAway_28 {a b : Int} {l0 l1 l2 l3 l4 l5 : Option VV} (h : -2147483648 ≤ a ∧ a ≤ 2147483647) (h1 : -2147483648 ≤ b ∧ b ≤ 2147483647) {S : MM} : rn xX6_takeAway (28, [l0, l1, l2, l3, l4, l5], [vI b, vI a], S) = if a = b then rn xX6_takeAway (37, [l0, l1, l2, l3, l4, l5], [], S) else rn xX6_takeAway (31, [l0, l1, l2, l3, l4, l5], [], S) := q_icmp_eq dX6_takeAway_28 (by decide) rfl h h1
theorem eX6_takeAway_31 {a : Int} {l0 l2 l3 l4 l5 : Option VV} {S : MM} : rn xX6_takeAway (31, [l0, some (vI a), l2, l3, l4, l5], [], S) = rn xX6_takeAway (32, [l0, some (vI a), l2, l3, l4, l5], [vI a], S) := rn_step dX6_takeAway_31 rfl rfl
theorem eX6_takeAway_32 {a : Int} {l0 l1 l2 l3 l4 : Option VV} {v0 : VV} {S : MM} : rn xX6_takeAway (32, [l0, l1, l2, l3, l4, some (vI a)], [v0], S) = rn xX6_takeAway (34, [l0, l1, l2, l3, l4, some (vI a)], [vI a, v0], S) := rn_step dX6_takeAway_32 rfl rfl
theorem eX6_takeAway_34 {a b : Int} {l0 l1 l2 l3 l4 l5 : Option VV} (h : -2147483648 ≤ a ∧ a ≤ 2147483647) (h1 : -2147483648 ≤ b ∧ b ≤ 2147483647) {S : MM} : rn xX6_takeAway (34, [l0, l1, l2, l3, l4, l5], [vI b, vI a], S) = if a = b then rn xX6_takeAway (37, [l0, l1, l2, l3, l4, l5], [], S) else rn xX6_takeAway (58, [l0, l1, l2, l3, l4, l5], [], S) := q_icmp_ne dX6_takeAway_34 (by decide) rfl h h1
theorem eX6_takeAway_37 {a : Option Nat} {l1 l2 l3 l4 l5 : Option VV} {S : MM} : rn xX6_takeAway (37, [some (.inr (.inl a)), l1, l2, l3, l4, l5], [], S) = rn xX6_takeAway (38, [some (.inr (.inl a)), l1, l2, l3, l4, l5], [.inr (.inl a)], S) := rn_step dX6_takeAway_37 rfl rfl
theorem eX6_takeAway_38 {i : Nat} {l0 l1 l2 l3 l4 l5 : Option VV} (h : kd i = 6) {S : MM} : rn xX6_takeAway (38, [l0, l1, l2, l3, l4, l5], [vR i], S) = rn xX6_takeAway (41, [l0, l1, l2, l3, l4, l5], [vR (i + 3)], S) := q_getR dX6_takeAway_38 rfl ⟨⟨by decide, by decide⟩, by decide⟩ (fun h => (fref6 h).trans (by first | rfl | omega)) h
theorem eX6_takeAway_41 {a : Int} {l0 l1 l2 l3 l4 : Option VV} {v0 : VV} {S : MM} : rn xX6_takeAway (41, [l0, l1, l2, l3, l4, some (vI a)], [v0], S) = rn xX6_takeAway (43, [l0, l1, l2, l3, l4, some (vI a)], [vI a, v0], S) := rn_step dX6_takeAway_41 rfl rfl
theorem eX6_takeAway_43 {a0 : Int} {i : Nat} {l0 l1 l2 l3 l4 l5 : Option VV} (h : kd i = 5) {S : MM} : rn xX6_takeAway (43, [l0, l1, l2, l3, l4, l5], [vI a0, vR i], S) = (fX5_pathOf [vR i, vI a0] S).bind (fun q => rn xX6_takeAway (46, [l0, l1, l2, l3, l4, l5], q.1.toList ++ [], q.2)) := q_callV (n := 1) (as := [vI a0]) (rest := []) dX6_takeAway_43 rfl rfl rfl rfl h
theorem eX6_takeAway_46 {a : Option Nat} {l0 l1 l2 l3 l5 : Option VV} {v0 : VV} {S : MM} : rn xX6_takeAway (46, [l0, l1, l2, l3, some (.inr (.inl a)), l5], [v0], S) = rn xX6_takeAway (48, [l0, l1, l2, l3, some (.inr (.inl a)), l5], [.inr (.inl a), v0], S) := rn_step dX6_takeAway_46 rfl rfl
theorem eX6_takeAway_48 {a : Int} {l0 l1 l2 l3 l4 : Option VV} {v0 v1 : VV} {S : MM} : rn xX6_takeAway (48, [l0, l1, l2, l3, l4, some (vI a)], [v0, v1], S) = rn xX6_takeAway (50, [l0, l1, l2, l3, l4, some (vI a)], [vI a, v0, v1], S) := rn_step dX6_takeAway_48 rfl rfl
theorem eX6_takeAway_50 {a0 : Int} {i : Nat} {l0 l1 l2 l3 l4 l5 : Option VV} {v2 : VV} (h : kd i = 5) {S : MM} : rn xX6_takeAway (50, [l0, l1, l2, l3, l4, l5], [vI a0, vR i, v2], S) = (fX5_pathOf [vR i, vI a0] S).bind (fun q => rn xX6_takeAway (53, [l0, l1, l2, l3, l4, l5], q.1.toList ++ [v2], q.2)) := q_callV (n := 1) (as := [vI a0]) (rest := [v2]) dX6_takeAway_50 rfl rfl rfl rfl h
theorem eX6_takeAway_53 {a : Int} {l0 l1 l3 l4 l5 : Option VV} {v0 v1 : VV} {S : MM} : rn xX6_takeAway (53, [l0, l1, some (vI a), l3, l4, l5], [v0, v1], S) = rn xX6_takeAway (54, [l0, l1, some (vI a), l3, l4, l5], [vI a, v0, v1], S) := rn_step dX6_takeAway_53 rfl rfl
theorem eX6_takeAway_54 {a : Int} {l0 l1 l2 l4 l5 : Option VV} {v0 v1 v2 : VV} {S : MM} : rn xX6_takeAway (54, [l0, l1, l2, some (vI a), l4, l5], [v0, v1, v2], S) = rn xX6_takeAway (55, [l0, l1, l2, some (vI a), l4, l5], [vI a, v0, v1, v2], S) := rn_step dX6_takeAway_54 rfl rfl
theorem eX6_takeAway_55 {a0 : Option Nat} {a1 : Int} {a2 : Int} {i : Nat} {l0 l1 l2 l3 l4 l5 : Option VV} (h : kd i = 3) {S : MM} : rn xX6_takeAway (55, [l0, l1, l2, l3, l4, l5], [vI a2, vI a1, .inr (.inl a0), vR i], S) = (fX3_moveTo [vR i, .inr (.inl a0), vI a1, vI a2] S).bind (fun q => rn xX6_takeAway (58, [l0, l1, l2, l3, l4, l5], q.1.toList ++ [], q.2)) := q_callV (n := 3) (as := [.inr (.inl a0), vI a1, vI a2]) (rest := []) dX6_takeAway_55 rfl rfl rfl rfl h
theorem eX6_takeAway_58 {a : Int} {w : Option Nat} {l0 l1 l2 l3 : Option VV} {S : MM} : rn xX6_takeAway (58, [l0, l1, l2, l3, some (.inr (.inl w)), some (vI a)], [], S) = rn xX6_takeAway (61, [l0, l1, l2, l3, some (.inr (.inl w)), some (vI (a + 1))], [], S) := rn_step dX6_takeAway_58 rfl rfl
theorem eX6_takeAway_61 {l0 l1 l2 l3 l4 l5 : Option VV} {S : MM} : rn xX6_takeAway (61, [l0, l1, l2, l3, l4, l5], [], S) = rn xX6_takeAway (19, [l0, l1, l2, l3, l4, l5], [], S) := rn_step dX6_takeAway_61 rfl rfl
theorem eX6_takeAway_64 {a : Option Nat} {l1 l2 l3 l4 l5 : Option VV} {S : MM} : rn xX6_takeAway (64, [some (.inr (.inl a)), l1, l2, l3, l4, l5], [], S) = rn xX6_takeAway (65, [some (.inr (.inl a)), l1, l2, l3, l4, l5], [.inr (.inl a)], S) := rn_step dX6_takeAway_64 rfl rfl
theorem eX6_takeAway_65 {i : Nat} {l0 l1 l2 l3 l4 l5 : Option VV} (h : kd i = 6) {S : MM} : rn xX6_takeAway (65, [l0, l1, l2, l3, l4, l5], [vR i], S) = rn xX6_takeAway (68, [l0, l1, l2, l3, l4, l5], [vR (i + 56)], S) := q_getR dX6_takeAway_65 rfl ⟨⟨by decide, by decide⟩, by decide⟩ (fun h => (fref6 h).trans (by first | rfl | omega)) h
theorem eX6_takeAway_68 {a : Option Nat} {l1 l2 l3 l4 l5 : Option VV} {v0 : VV} {S : MM} : rn xX6_takeAway (68, [some (.inr (.inl a)), l1, l2, l3, l4, l5], [v0], S) = rn xX6_takeAway (69, [some (.inr (.inl a)), l1, l2, l3, l4, l5], [.inr (.inl a), v0], S) := rn_step dX6_takeAway_68 rfl rfl
theorem eX6_takeAway_69 {i : Nat} {l0 l1 l2 l3 l4 l5 : Option VV} {v1 : VV} (h : kd i = 6) {S : MM} : rn xX6_takeAway (69, [l0, l1, l2, l3, l4, l5], [vR i, v1], S) = rn xX6_takeAway (72, [l0, l1, l2, l3, l4, l5], [vR (i + 3), v1], S) := q_getR dX6_takeAway_69 rfl ⟨⟨by decide, by decide⟩, by decide⟩ (fun h => (fref6 h).trans (by first | rfl | omega)) h
theorem eX6_takeAway_72 {a0 : Option Nat} {i : Nat} {l0 l1 l2 l3 l4 l5 : Option VV} (h : kd i = 0) {S : MM} : rn xX6_takeAway (72, [l0, l1, l2, l3, l4, l5], [.inr (.inl a0), vR i], S) = (fX0_slip [vR i, .inr (.inl a0)] S).bind (fun q => rn xX6_takeAway (75, [l0, l1, l2, l3, l4, l5], q.1.toList ++ [], q.2)) := q_callV (n := 1) (as := [.inr (.inl a0)]) (rest := []) dX6_takeAway_72 rfl rfl rfl rfl h
theorem eX6_takeAway_75 {a : Option Nat} {l1 l2 l3 l4 l5 : Option VV} {S : MM} : rn xX6_takeAway (75, [some (.inr (.inl a)), l1, l2, l3, l4, l5], [], S) = rn xX6_takeAway (76, [some (.inr (.inl a)), l1, l2, l3, l4, l5], [.inr (.inl a)], S) := rn_step dX6_takeAway_75 rfl rfl
theorem eX6_takeAway_76 {i : Nat} {l0 l1 l2 l3 l4 l5 : Option VV} (h : kd i = 6) {S : MM} : rn xX6_takeAway (76, [l0, l1, l2, l3, l4, l5], [vR i], S) = rn xX6_takeAway (79, [l0, l1, l2, l3, l4, l5], [vR (i + 56)], S) := q_getR dX6_takeAway_76 rfl ⟨⟨by decide, by decide⟩, by decide⟩ (fun h => (fref6 h).trans (by first | rfl | omega)) h
theorem eX6_takeAway_79 {a : Option Nat} {l1 l2 l3 l4 l5 : Option VV} {v0 : VV} {S : MM} : rn xX6_takeAway (79, [some (.inr (.inl a)), l1, l2, l3, l4, l5], [v0], S) = rn xX6_takeAway (80, [some (.inr (.inl a)), l1, l2, l3, l4, l5], [.inr (.inl a), v0], S) := rn_step dX6_takeAway_79 rfl rfl
theorem eX6_takeAway_80 {i : Nat} {l0 l1 l2 l3 l4 l5 : Option VV} {v1 : VV} (h : kd i = 6) {S : MM} : rn xX6_takeAway (80, [l0, l1, l2, l3, l4, l5], [vR i, v1], S) = rn xX6_takeAway (83, [l0, l1, l2, l3, l4, l5], [vR (i + 3), v1], S) := q_getR dX6_takeAway_80 rfl ⟨⟨by decide, by decide⟩, by decide⟩ (fun h => (fref6 h).trans (by first | rfl | omega)) h
theorem eX6_takeAway_83 {a : Option Nat} {l1 l2 l3 l4 l5 : Option VV} {v0 v1 : VV} {S : MM} : rn xX6_takeAway (83, [some (.inr (.inl a)), l1, l2, l3, l4, l5], [v0, v1], S) = rn xX6_takeAway (84, [some (.inr (.inl a)), l1, l2, l3, l4, l5], [.inr (.inl a), v0, v1], S) := rn_step dX6_takeAway_83 rfl rfl
theorem eX6_takeAway_84 {i : Nat} {l0 l1 l2 l3 l4 l5 : Option VV} {v1 v2 : VV} (h : kd i = 6) {S : MM} : rn xX6_takeAway (84, [l0, l1, l2, l3, l4, l5], [vR i, v1, v2], S) = rn xX6_takeAway (87, [l0, l1, l2, l3, l4, l5], [vR (i + 1), v1, v2], S) := q_getR dX6_takeAway_84 rfl ⟨⟨by decide, by decide⟩, by decide⟩ (fun h => (fref6 h).trans (by first | rfl | omega)) h
theorem eX6_takeAway_87 {l0 l1 l2 l3 l4 l5 : Option VV} {v0 v1 v2 : VV} {S : MM} : rn xX6_takeAway (87, [l0, l1, l2, l3, l4, l5], [v0, v1, v2], S) = rn xX6_takeAway (88, [l0, l1, l2, l3, l4, l5], [vI 1, v0, v1, v2], S) := rn_step dX6_takeAway_87 rfl rfl
theorem eX6_takeAway_88 {a0 : Int} {i : Nat} {l0 l1 l2 l3 l4 l5 : Option VV} {v2 v3 : VV} (h : kd i = 7) {S : MM} : rn xX6_takeAway (88, [l0, l1, l2, l3, l4, l5], [vI a0, vR i, v2, v3], S) = (fX7_valueOf [vR i, vI a0] S).bind (fun q => rn xX6_takeAway (91, [l0, l1, l2, l3, l4, l5], q.1.toList ++ [v2, v3], q.2)) := q_callV (n := 1) (as := [vI a0]) (rest := [v2, v3]) dX6_takeAway_88 rfl rfl rfl rfl h
theorem eX6_takeAway_91 {a0 : Option Nat} {a1 : Int} {i : Nat} {l0 l1 l2 l3 l4 l5 : Option VV} (h : kd i = 0) {S : MM} : rn xX6_takeAway (91, [l0, l1, l2, l3, l4, l5], [vI a1, .inr (.inl a0), vR i], S) = (fX0_lookRound [vR i, .inr (.inl a0), vI a1] S).bind (fun q => rn xX6_takeAway (94, [l0, l1, l2, l3, l4, l5], q.1.toList ++ [], q.2)) := q_callV (n := 2) (as := [.inr (.inl a0), vI a1]) (rest := []) dX6_takeAway_91 rfl rfl rfl rfl h
theorem eX6_takeAway_94 {a : Option Nat} {l0 l1 l2 l3 l5 : Option VV} {S : MM} : rn xX6_takeAway (94, [l0, l1, l2, l3, some (.inr (.inl a)), l5], [], S) = rn xX6_takeAway (96, [l0, l1, l2, l3, some (.inr (.inl a)), l5], [.inr (.inl a)], S) := rn_step dX6_takeAway_94 rfl rfl
theorem eX6_takeAway_96 {i : Nat} {l0 l1 l2 l3 l4 l5 : Option VV} (h : kd i = 5) {S : MM} : rn xX6_takeAway (96, [l0, l1, l2, l3, l4, l5], [vR i], S) = (fX5_stones [vR i] S).bind (fun q => rn xX6_takeAway (99, [l0, l1, l2, l3, l4, l5], q.1.toList ++ [], q.2)) := q_callV (n := 0) (as := []) (rest := []) dX6_takeAway_96 rfl rfl rfl rfl h
theorem eX6_takeAway_99 {z : Int} {l0 l1 l2 l3 l4 l5 : Option VV} {S : MM} : rn xX6_takeAway (99, [l0, l1, l2, l3, l4, l5], [vI z], S) = some (some (vI z), S) := q_retI dX6_takeAway_99 rfl
noncomputable def qlX6_errorOfDrying : List CE := [(0, 98, 1, 1, fX1_latest), (0, 59, 5, 2, fX5_pathOf), (0, 101, 3, 2, fX3_hasRoomForAll)]
noncomputable def xX6_errorOfDrying : XX := (cX6_errorOfDrying, fcF fcl6, mcF qlX6_errorOfDrying, 1)
noncomputable def fX6_errorOfDrying : FN := fnX xX6_errorOfDrying 3
set_option maxRecDepth 100000 in
theorem cwX6_errorOfDrying : Cond.code yX6_errorOfDrying cX6_errorOfDrying 3 (some .int) ∈ lw_g := lw_gm 544 (by decide +kernel) (by decide +kernel)
set_option maxRecDepth 100000 in
theorem conX6_errorOfDrying : Con yX6_errorOfDrying cX6_errorOfDrying 3 (some .int) { frames := 3, cells := 0, slots := 0, locals := 66 } fX6_errorOfDrying := con_of (X := xX6_errorOfDrying) (own := "LeapStones$Scene") (ql := qlX6_errorOfDrying) (by decide) rfl FOK6 rfl (List.forall_mem_cons.mpr ⟨call_V conX1_latest cwX1_latest (lw_gl _ [545, 546, 547, 26] (by decide +kernel) (by decide +kernel)) (by decide) rfl ⟨by decide, by decide, by decide +kernel⟩ ⟨rfl, rfl⟩ ⟨by decide, by decide⟩ ⟨Nat.le_refl _, Nat.le_refl _⟩, List.forall_mem_cons.mpr ⟨call_V conX5_pathOf cwX5_pathOf (lw_gl _ [346, 347, 348, 24] (by decide +kernel) (by decide +kernel)) (by decide) rfl ⟨by decide, by decide, by decide +kernel⟩ ⟨rfl, rfl⟩ ⟨by decide, by decide⟩ ⟨Nat.le_refl _, Nat.le_refl _⟩, List.forall_mem_cons.mpr ⟨call_V conX3_hasRoomForAll cwX3_hasRoomForAll (lw_gl _ [553, 554, 555, 25] (by decide +kernel) (by decide +kernel)) (by decide) rfl ⟨by decide, by decide, by decide +kernel⟩ ⟨rfl, rfl⟩ ⟨by decide, by decide⟩ ⟨Nat.le_refl _, Nat.le_refl _⟩, fun _ h => absurd h List.not_mem_nil⟩⟩⟩) (Or.inr (Or.inl ⟨rfl, rfl⟩))
theorem uX6_errorOfDrying {i : Nat} {S : MM} : fX6_errorOfDrying [vR i] S = rn xX6_errorOfDrying (0, [some (vR i), none, none], [], S) := rfl
theorem dX6_errorOfDrying_0 : decode cX6_errorOfDrying 0 = .ok (.aload_n 0, 1) := by decide +kernel
theorem dX6_errorOfDrying_1 : decode cX6_errorOfDrying 1 = .ok (.getfield 28, 3) := by decide +kernel
theorem dX6_errorOfDrying_4 : decode cX6_errorOfDrying 4 = .ok (.invokevirtual 98, 3) := by decide +kernel
theorem dX6_errorOfDrying_7 : decode cX6_errorOfDrying 7 = .ok (.astore_n 1, 1) := by decide +kernel
theorem dX6_errorOfDrying_8 : decode cX6_errorOfDrying 8 = .ok (.aload_n 1, 1) := by decide +kernel
theorem dX6_errorOfDrying_9 : decode cX6_errorOfDrying 9 = .ok (.ifnonnull 6, 3) := by decide +kernel
theorem dX6_errorOfDrying_12 : decode cX6_errorOfDrying 12 = .ok (.bipush (-5), 2) := by decide +kernel
theorem dX6_errorOfDrying_14 : decode cX6_errorOfDrying 14 = .ok (.ireturn, 1) := by decide +kernel
theorem dX6_errorOfDrying_15 : decode cX6_errorOfDrying 15 = .ok (.iconst 0, 1) := by decide +kernel
theorem dX6_errorOfDrying_16 : decode cX6_errorOfDrying 16 = .ok (.istore_n 2, 1) := by decide +kernel
theorem dX6_errorOfDrying_17 : decode cX6_errorOfDrying 17 = .ok (.iload_n 2, 1) := by decide +kernel
theorem dX6_errorOfDrying_18 : decode cX6_errorOfDrying 18 = .ok (.iconst 3, 1) := by decide +kernel
theorem dX6_errorOfDrying_19 : decode cX6_errorOfDrying 19 = .ok (.if_icmp .ge 31, 3) := by decide +kernel
theorem dX6_errorOfDrying_22 : decode cX6_errorOfDrying 22 = .ok (.aload_n 0, 1) := by decide +kernel
theorem dX6_errorOfDrying_23 : decode cX6_errorOfDrying 23 = .ok (.getfield 21, 3) := by decide +kernel
theorem dX6_errorOfDrying_26 : decode cX6_errorOfDrying 26 = .ok (.iload_n 2, 1) := by decide +kernel
theorem dX6_errorOfDrying_27 : decode cX6_errorOfDrying 27 = .ok (.invokevirtual 59, 3) := by decide +kernel
theorem dX6_errorOfDrying_30 : decode cX6_errorOfDrying 30 = .ok (.aload_n 1, 1) := by decide +kernel
theorem dX6_errorOfDrying_31 : decode cX6_errorOfDrying 31 = .ok (.iload_n 2, 1) := by decide +kernel
theorem dX6_errorOfDrying_32 : decode cX6_errorOfDrying 32 = .ok (.invokevirtual 59, 3) := by decide +kernel
theorem dX6_errorOfDrying_35 : decode cX6_errorOfDrying 35 = .ok (.invokevirtual 101, 3) := by decide +kernel
theorem dX6_errorOfDrying_38 : decode cX6_errorOfDrying 38 = .ok (.ifCond .ne 6, 3) := by decide +kernel
theorem dX6_errorOfDrying_41 : decode cX6_errorOfDrying 41 = .ok (.bipush (-4), 2) := by decide +kernel
theorem dX6_errorOfDrying_43 : decode cX6_errorOfDrying 43 = .ok (.ireturn, 1) := by decide +kernel
theorem dX6_errorOfDrying_44 : decode cX6_errorOfDrying 44 = .ok (.iinc 2 1, 3) := by decide +kernel
theorem dX6_errorOfDrying_47 : decode cX6_errorOfDrying 47 = .ok (.goto (-30), 3) := by decide +kernel
theorem dX6_errorOfDrying_50 : decode cX6_errorOfDrying 50 = .ok (.iconst 0, 1) := by decide +kernel
theorem dX6_errorOfDrying_51 : decode cX6_errorOfDrying 51 = .ok (.ireturn, 1) := by decide +kernel
theorem eX6_errorOfDrying_0 {a : Option Nat} {l1 l2 : Option VV} {S : MM} : rn xX6_errorOfDrying (0, [some (.inr (.inl a)), l1, l2], [], S) = rn xX6_errorOfDrying (1, [some (.inr (.inl a)), l1, l2], [.inr (.inl a)], S) := rn_step dX6_errorOfDrying_0 rfl rfl
theorem eX6_errorOfDrying_1 {i : Nat} {l0 l1 l2 : Option VV} (h : kd i = 6) {S : MM} : rn xX6_errorOfDrying (1, [l0, l1, l2], [vR i], S) = rn xX6_errorOfDrying (4, [l0, l1, l2], [vR (i + 13)], S) := q_getR dX6_errorOfDrying_1 rfl ⟨⟨by decide, by decide⟩, by decide⟩ (fun h => (fref6 h).trans (by first | rfl | omega)) h
theorem eX6_errorOfDrying_4 {i : Nat} {l0 l1 l2 : Option VV} (h : kd i = 1) {S : MM} : rn xX6_errorOfDrying (4, [l0, l1, l2], [vR i], S) = (fX1_latest [vR i] S).bind (fun q => rn xX6_errorOfDrying (7, [l0, l1, l2], q.1.toList ++ [], q.2)) := q_callV (n := 0) (as := []) (rest := []) dX6_errorOfDrying_4 rfl rfl rfl rfl h
theorem eX6_errorOfDrying_7 {a : Option Nat} {w : Option Nat} {l1 l2 : Option VV} {S : MM} : rn xX6_errorOfDrying (7, [some (.inr (.inl w)), l1, l2], [.inr (.inl a)], S) = rn xX6_errorOfDrying (8, [some (.inr (.inl w)), some (.inr (.inl a)), l2], [], S) := rn_step dX6_errorOfDrying_7 rfl rfl
theorem eX6_errorOfDrying_8 {a : Option Nat} {l0 l2 : Option VV} {S : MM} : rn xX6_errorOfDrying (8, [l0, some (.inr (.inl a)), l2], [], S) = rn xX6_errorOfDrying (9, [l0, some (.inr (.inl a)), l2], [.inr (.inl a)], S) := rn_step dX6_errorOfDrying_8 rfl rfl
theorem eX6_errorOfDrying_9n {l0 l1 l2 : Option VV} {S : MM} : rn xX6_errorOfDrying (9, [l0, l1, l2], [vN], S) = rn xX6_errorOfDrying (12, [l0, l1, l2], [], S) := rn_step dX6_errorOfDrying_9 rfl rfl
theorem eX6_errorOfDrying_9r {i : Nat} {l0 l1 l2 : Option VV} {S : MM} : rn xX6_errorOfDrying (9, [l0, l1, l2], [vR i], S) = rn xX6_errorOfDrying (15, [l0, l1, l2], [], S) := rn_step dX6_errorOfDrying_9 rfl rfl
theorem eX6_errorOfDrying_12 {l0 l1 l2 : Option VV} {S : MM} : rn xX6_errorOfDrying (12, [l0, l1, l2], [], S) = rn xX6_errorOfDrying (14, [l0, l1, l2], [vI (-5)], S) := rn_step dX6_errorOfDrying_12 rfl rfl
theorem eX6_errorOfDrying_14 {z : Int} {l0 l1 l2 : Option VV} {S : MM} : rn xX6_errorOfDrying (14, [l0, l1, l2], [vI z], S) = some (some (vI z), S) := q_retI dX6_errorOfDrying_14 rfl
theorem eX6_errorOfDrying_15 {l0 l1 l2 : Option VV} {S : MM} : rn xX6_errorOfDrying (15, [l0, l1, l2], [], S) = rn xX6_errorOfDrying (16, [l0, l1, l2], [vI 0], S) := rn_step dX6_errorOfDrying_15 rfl rfl
theorem eX6_errorOfDrying_16 {a : Int} {w : Option Nat} {l0 l2 : Option VV} {S : MM} : rn xX6_errorOfDrying (16, [l0, some (.inr (.inl w)), l2], [vI a], S) = rn xX6_errorOfDrying (17, [l0, some (.inr (.inl w)), some (vI a)], [], S) := rn_step dX6_errorOfDrying_16 rfl rfl
theorem eX6_errorOfDrying_17 {a : Int} {l0 l1 : Option VV} {S : MM} : rn xX6_errorOfDrying (17, [l0, l1, some (vI a)], [], S) = rn xX6_errorOfDrying (18, [l0, l1, some (vI a)], [vI a], S) := rn_step dX6_errorOfDrying_17 rfl rfl
theorem eX6_errorOfDrying_18 {l0 l1 l2 : Option VV} {v0 : VV} {S : MM} : rn xX6_errorOfDrying (18, [l0, l1, l2], [v0], S) = rn xX6_errorOfDrying (19, [l0, l1, l2], [vI 3, v0], S) := rn_step dX6_errorOfDrying_18 rfl rfl
theorem eX6_errorOfDrying_19 {a b : Int} {l0 l1 l2 : Option VV} (h : -2147483648 ≤ a ∧ a ≤ 2147483647) (h1 : -2147483648 ≤ b ∧ b ≤ 2147483647) {S : MM} : rn xX6_errorOfDrying (19, [l0, l1, l2], [vI b, vI a], S) = if a < b then rn xX6_errorOfDrying (22, [l0, l1, l2], [], S) else rn xX6_errorOfDrying (50, [l0, l1, l2], [], S) := q_icmp_ge dX6_errorOfDrying_19 (by decide) rfl h h1
theorem eX6_errorOfDrying_22 {a : Option Nat} {l1 l2 : Option VV} {S : MM} : rn xX6_errorOfDrying (22, [some (.inr (.inl a)), l1, l2], [], S) = rn xX6_errorOfDrying (23, [some (.inr (.inl a)), l1, l2], [.inr (.inl a)], S) := rn_step dX6_errorOfDrying_22 rfl rfl
theorem eX6_errorOfDrying_23 {i : Nat} {l0 l1 l2 : Option VV} (h : kd i = 6) {S : MM} : rn xX6_errorOfDrying (23, [l0, l1, l2], [vR i], S) = rn xX6_errorOfDrying (26, [l0, l1, l2], [vR (i + 3)], S) := q_getR dX6_errorOfDrying_23 rfl ⟨⟨by decide, by decide⟩, by decide⟩ (fun h => (fref6 h).trans (by first | rfl | omega)) h
theorem eX6_errorOfDrying_26 {a : Int} {l0 l1 : Option VV} {v0 : VV} {S : MM} : rn xX6_errorOfDrying (26, [l0, l1, some (vI a)], [v0], S) = rn xX6_errorOfDrying (27, [l0, l1, some (vI a)], [vI a, v0], S) := rn_step dX6_errorOfDrying_26 rfl rfl
theorem eX6_errorOfDrying_27 {a0 : Int} {i : Nat} {l0 l1 l2 : Option VV} (h : kd i = 5) {S : MM} : rn xX6_errorOfDrying (27, [l0, l1, l2], [vI a0, vR i], S) = (fX5_pathOf [vR i, vI a0] S).bind (fun q => rn xX6_errorOfDrying (30, [l0, l1, l2], q.1.toList ++ [], q.2)) := q_callV (n := 1) (as := [vI a0]) (rest := []) dX6_errorOfDrying_27 rfl rfl rfl rfl h
theorem eX6_errorOfDrying_30 {a : Option Nat} {l0 l2 : Option VV} {v0 : VV} {S : MM} : rn xX6_errorOfDrying (30, [l0, some (.inr (.inl a)), l2], [v0], S) = rn xX6_errorOfDrying (31, [l0, some (.inr (.inl a)), l2], [.inr (.inl a), v0], S) := rn_step dX6_errorOfDrying_30 rfl rfl
theorem eX6_errorOfDrying_31 {a : Int} {l0 l1 : Option VV} {v0 v1 : VV} {S : MM} : rn xX6_errorOfDrying (31, [l0, l1, some (vI a)], [v0, v1], S) = rn xX6_errorOfDrying (32, [l0, l1, some (vI a)], [vI a, v0, v1], S) := rn_step dX6_errorOfDrying_31 rfl rfl
theorem eX6_errorOfDrying_32 {a0 : Int} {i : Nat} {l0 l1 l2 : Option VV} {v2 : VV} (h : kd i = 5) {S : MM} : rn xX6_errorOfDrying (32, [l0, l1, l2], [vI a0, vR i, v2], S) = (fX5_pathOf [vR i, vI a0] S).bind (fun q => rn xX6_errorOfDrying (35, [l0, l1, l2], q.1.toList ++ [v2], q.2)) := q_callV (n := 1) (as := [vI a0]) (rest := [v2]) dX6_errorOfDrying_32 rfl rfl rfl rfl h
theorem eX6_errorOfDrying_35 {a0 : Option Nat} {i : Nat} {l0 l1 l2 : Option VV} (h : kd i = 3) {S : MM} : rn xX6_errorOfDrying (35, [l0, l1, l2], [.inr (.inl a0), vR i], S) = (fX3_hasRoomForAll [vR i, .inr (.inl a0)] S).bind (fun q => rn xX6_errorOfDrying (38, [l0, l1, l2], q.1.toList ++ [], q.2)) := q_callV (n := 1) (as := [.inr (.inl a0)]) (rest := []) dX6_errorOfDrying_35 rfl rfl rfl rfl h
theorem eX6_errorOfDrying_38 {a : Int} {l0 l1 l2 : Option VV} (h : -2147483648 ≤ a ∧ a ≤ 2147483647) {S : MM} : rn xX6_errorOfDrying (38, [l0, l1, l2], [vI a], S) = if a = 0 then rn xX6_errorOfDrying (41, [l0, l1, l2], [], S) else rn xX6_errorOfDrying (44, [l0, l1, l2], [], S) := q_if_ne dX6_errorOfDrying_38 (by decide) rfl h
theorem eX6_errorOfDrying_41 {l0 l1 l2 : Option VV} {S : MM} : rn xX6_errorOfDrying (41, [l0, l1, l2], [], S) = rn xX6_errorOfDrying (43, [l0, l1, l2], [vI (-4)], S) := rn_step dX6_errorOfDrying_41 rfl rfl
theorem eX6_errorOfDrying_43 {z : Int} {l0 l1 l2 : Option VV} {S : MM} : rn xX6_errorOfDrying (43, [l0, l1, l2], [vI z], S) = some (some (vI z), S) := q_retI dX6_errorOfDrying_43 rfl
theorem eX6_errorOfDrying_44 {a : Int} {w : Option Nat} {l0 : Option VV} {S : MM} : rn xX6_errorOfDrying (44, [l0, some (.inr (.inl w)), some (vI a)], [], S) = rn xX6_errorOfDrying (47, [l0, some (.inr (.inl w)), some (vI (a + 1))], [], S) := rn_step dX6_errorOfDrying_44 rfl rfl
theorem eX6_errorOfDrying_47 {l0 l1 l2 : Option VV} {S : MM} : rn xX6_errorOfDrying (47, [l0, l1, l2], [], S) = rn xX6_errorOfDrying (17, [l0, l1, l2], [], S) := rn_step dX6_errorOfDrying_47 rfl rfl
theorem eX6_errorOfDrying_50 {l0 l1 l2 : Option VV} {S : MM} : rn xX6_errorOfDrying (50, [l0, l1, l2], [], S) = rn xX6_errorOfDrying (51, [l0, l1, l2], [vI 0], S) := rn_step dX6_errorOfDrying_50 rfl rfl
theorem eX6_errorOfDrying_51 {z : Int} {l0 l1 l2 : Option VV} {S : MM} : rn xX6_errorOfDrying (51, [l0, l1, l2], [vI z], S) = some (some (vI z), S) := q_retI dX6_errorOfDrying_51 rfl
noncomputable def qlX6_giveBack : List CE := [(0, 98, 1, 1, fX1_latest), (0, 59, 5, 2, fX5_pathOf), (0, 105, 3, 2, fX3_addAll), (0, 109, 1, 1, fX1_dropLatest), (0, 94, 5, 1, fX5_stones)]
noncomputable def xX6_giveBack : XX := (cX6_giveBack, fcF fcl6, mcF qlX6_giveBack, 1)
noncomputable def fX6_giveBack : FN := fnX xX6_giveBack 3
set_option maxRecDepth 100000 in
theorem cwX6_giveBack : Cond.code yX6_giveBack cX6_giveBack 3 (some .int) ∈ lw_g := lw_gm 561 (by decide +kernel) (by decide +kernel)
set_option maxRecDepth 100000 in
theorem conX6_giveBack : Con yX6_giveBack cX6_giveBack 3 (some .int) { frames := 3, cells := 0, slots := 0, locals := 72 } fX6_giveBack := con_of (X := xX6_giveBack) (own := "LeapStones$Scene") (ql := qlX6_giveBack) (by decide) rfl FOK6 rfl (List.forall_mem_cons.mpr ⟨call_V conX1_latest cwX1_latest (lw_gl _ [545, 546, 547, 26] (by decide +kernel) (by decide +kernel)) (by decide) rfl ⟨by decide, by decide, by decide +kernel⟩ ⟨rfl, rfl⟩ ⟨by decide, by decide⟩ ⟨Nat.le_refl _, Nat.le_refl _⟩, List.forall_mem_cons.mpr ⟨call_V conX5_pathOf cwX5_pathOf (lw_gl _ [346, 347, 348, 24] (by decide +kernel) (by decide +kernel)) (by decide) rfl ⟨by decide, by decide, by decide +kernel⟩ ⟨rfl, rfl⟩ ⟨by decide, by decide⟩ ⟨Nat.le_refl _, Nat.le_refl _⟩, List.forall_mem_cons.mpr ⟨call_V conX3_addAll cwX3_addAll (lw_gl _ [562, 563, 564, 25] (by decide +kernel) (by decide +kernel)) (by decide) rfl ⟨by decide, by decide, by decide +kernel⟩ ⟨rfl, rfl⟩ ⟨by decide, by decide⟩ ⟨Nat.le_refl _, Nat.le_refl _⟩, List.forall_mem_cons.mpr ⟨call_V conX1_dropLatest cwX1_dropLatest (lw_gl _ [567, 568, 569, 26] (by decide +kernel) (by decide +kernel)) (by decide) rfl ⟨by decide, by decide, by decide +kernel⟩ ⟨rfl, rfl⟩ ⟨by decide, by decide⟩ ⟨Nat.le_refl _, Nat.le_refl _⟩, List.forall_mem_cons.mpr ⟨call_V conX5_stones cwX5_stones (lw_gl _ [490, 491, 492, 24] (by decide +kernel) (by decide +kernel)) (by decide) rfl ⟨by decide, by decide, by decide +kernel⟩ ⟨rfl, rfl⟩ ⟨by decide, by decide⟩ ⟨Nat.le_refl _, Nat.le_refl _⟩, fun _ h => absurd h List.not_mem_nil⟩⟩⟩⟩⟩) (Or.inr (Or.inl ⟨rfl, rfl⟩))
theorem uX6_giveBack {i : Nat} {S : MM} : fX6_giveBack [vR i] S = rn xX6_giveBack (0, [some (vR i), none, none], [], S) := rfl
theorem dX6_giveBack_0 : decode cX6_giveBack 0 = .ok (.aload_n 0, 1) := by decide +kernel
theorem dX6_giveBack_1 : decode cX6_giveBack 1 = .ok (.getfield 28, 3) := by decide +kernel
theorem dX6_giveBack_4 : decode cX6_giveBack 4 = .ok (.invokevirtual 98, 3) := by decide +kernel
theorem dX6_giveBack_7 : decode cX6_giveBack 7 = .ok (.astore_n 1, 1) := by decide +kernel
theorem dX6_giveBack_8 : decode cX6_giveBack 8 = .ok (.aload_n 1, 1) := by decide +kernel
theorem dX6_giveBack_9 : decode cX6_giveBack 9 = .ok (.ifnonnull 5, 3) := by decide +kernel
theorem dX6_giveBack_12 : decode cX6_giveBack 12 = .ok (.iconst 0, 1) := by decide +kernel
theorem dX6_giveBack_13 : decode cX6_giveBack 13 = .ok (.ireturn, 1) := by decide +kernel
theorem dX6_giveBack_14 : decode cX6_giveBack 14 = .ok (.iconst 0, 1) := by decide +kernel
theorem dX6_giveBack_15 : decode cX6_giveBack 15 = .ok (.istore_n 2, 1) := by decide +kernel
theorem dX6_giveBack_16 : decode cX6_giveBack 16 = .ok (.iload_n 2, 1) := by decide +kernel
theorem dX6_giveBack_17 : decode cX6_giveBack 17 = .ok (.iconst 3, 1) := by decide +kernel
theorem dX6_giveBack_18 : decode cX6_giveBack 18 = .ok (.if_icmp .ge 25, 3) := by decide +kernel
theorem dX6_giveBack_21 : decode cX6_giveBack 21 = .ok (.aload_n 0, 1) := by decide +kernel
theorem dX6_giveBack_22 : decode cX6_giveBack 22 = .ok (.getfield 21, 3) := by decide +kernel
theorem dX6_giveBack_25 : decode cX6_giveBack 25 = .ok (.iload_n 2, 1) := by decide +kernel
theorem dX6_giveBack_26 : decode cX6_giveBack 26 = .ok (.invokevirtual 59, 3) := by decide +kernel
theorem dX6_giveBack_29 : decode cX6_giveBack 29 = .ok (.aload_n 1, 1) := by decide +kernel
theorem dX6_giveBack_30 : decode cX6_giveBack 30 = .ok (.iload_n 2, 1) := by decide +kernel
theorem dX6_giveBack_31 : decode cX6_giveBack 31 = .ok (.invokevirtual 59, 3) := by decide +kernel
theorem dX6_giveBack_34 : decode cX6_giveBack 34 = .ok (.invokevirtual 105, 3) := by decide +kernel
theorem dX6_giveBack_37 : decode cX6_giveBack 37 = .ok (.iinc 2 1, 3) := by decide +kernel
theorem dX6_giveBack_40 : decode cX6_giveBack 40 = .ok (.goto (-24), 3) := by decide +kernel
theorem dX6_giveBack_43 : decode cX6_giveBack 43 = .ok (.aload_n 0, 1) := by decide +kernel
theorem dX6_giveBack_44 : decode cX6_giveBack 44 = .ok (.getfield 28, 3) := by decide +kernel
theorem dX6_giveBack_47 : decode cX6_giveBack 47 = .ok (.invokevirtual 109, 3) := by decide +kernel
theorem dX6_giveBack_50 : decode cX6_giveBack 50 = .ok (.aload_n 1, 1) := by decide +kernel
theorem dX6_giveBack_51 : decode cX6_giveBack 51 = .ok (.invokevirtual 94, 3) := by decide +kernel
theorem dX6_giveBack_54 : decode cX6_giveBack 54 = .ok (.ireturn, 1) := by decide +kernel
theorem eX6_giveBack_0 {a : Option Nat} {l1 l2 : Option VV} {S : MM} : rn xX6_giveBack (0, [some (.inr (.inl a)), l1, l2], [], S) = rn xX6_giveBack (1, [some (.inr (.inl a)), l1, l2], [.inr (.inl a)], S) := rn_step dX6_giveBack_0 rfl rfl
theorem eX6_giveBack_1 {i : Nat} {l0 l1 l2 : Option VV} (h : kd i = 6) {S : MM} : rn xX6_giveBack (1, [l0, l1, l2], [vR i], S) = rn xX6_giveBack (4, [l0, l1, l2], [vR (i + 13)], S) := q_getR dX6_giveBack_1 rfl ⟨⟨by decide, by decide⟩, by decide⟩ (fun h => (fref6 h).trans (by first | rfl | omega)) h
theorem eX6_giveBack_4 {i : Nat} {l0 l1 l2 : Option VV} (h : kd i = 1) {S : MM} : rn xX6_giveBack (4, [l0, l1, l2], [vR i], S) = (fX1_latest [vR i] S).bind (fun q => rn xX6_giveBack (7, [l0, l1, l2], q.1.toList ++ [], q.2)) := q_callV (n := 0) (as := []) (rest := []) dX6_giveBack_4 rfl rfl rfl rfl h
theorem eX6_giveBack_7 {a : Option Nat} {w : Option Nat} {l1 l2 : Option VV} {S : MM} : rn xX6_giveBack (7, [some (.inr (.inl w)), l1, l2], [.inr (.inl a)], S) = rn xX6_giveBack (8, [some (.inr (.inl w)), some (.inr (.inl a)), l2], [], S) := rn_step dX6_giveBack_7 rfl rfl
theorem eX6_giveBack_8 {a : Option Nat} {l0 l2 : Option VV} {S : MM} : rn xX6_giveBack (8, [l0, some (.inr (.inl a)), l2], [], S) = rn xX6_giveBack (9, [l0, some (.inr (.inl a)), l2], [.inr (.inl a)], S) := rn_step dX6_giveBack_8 rfl rfl
theorem eX6_giveBack_9n {l0 l1 l2 : Option VV} {S : MM} : rn xX6_giveBack (9, [l0, l1, l2], [vN], S) = rn xX6_giveBack (12, [l0, l1, l2], [], S) := rn_step dX6_giveBack_9 rfl rfl
theorem eX6_giveBack_9r {i : Nat} {l0 l1 l2 : Option VV} {S : MM} : rn xX6_giveBack (9, [l0, l1, l2], [vR i], S) = rn xX6_giveBack (14, [l0, l1, l2], [], S) := rn_step dX6_giveBack_9 rfl rfl
theorem eX6_giveBack_12 {l0 l1 l2 : Option VV} {S : MM} : rn xX6_giveBack (12, [l0, l1, l2], [], S) = rn xX6_giveBack (13, [l0, l1, l2], [vI 0], S) := rn_step dX6_giveBack_12 rfl rfl
theorem eX6_giveBack_13 {z : Int} {l0 l1 l2 : Option VV} {S : MM} : rn xX6_giveBack (13, [l0, l1, l2], [vI z], S) = some (some (vI z), S) := q_retI dX6_giveBack_13 rfl
theorem eX6_giveBack_14 {l0 l1 l2 : Option VV} {S : MM} : rn xX6_giveBack (14, [l0, l1, l2], [], S) = rn xX6_giveBack (15, [l0, l1, l2], [vI 0], S) := rn_step dX6_giveBack_14 rfl rfl
theorem eX6_giveBack_15 {a : Int} {w : Option Nat} {l0 l2 : Option VV} {S : MM} : rn xX6_giveBack (15, [l0, some (.inr (.inl w)), l2], [vI a], S) = rn xX6_giveBack (16, [l0, some (.inr (.inl w)), some (vI a)], [], S) := rn_step dX6_giveBack_15 rfl rfl
theorem eX6_giveBack_16 {a : Int} {l0 l1 : Option VV} {S : MM} : rn xX6_giveBack (16, [l0, l1, some (vI a)], [], S) = rn xX6_giveBack (17, [l0, l1, some (vI a)], [vI a], S) := rn_step dX6_giveBack_16 rfl rfl
theorem eX6_giveBack_17 {l0 l1 l2 : Option VV} {v0 : VV} {S : MM} : rn xX6_giveBack (17, [l0, l1, l2], [v0], S) = rn xX6_giveBack (18, [l0, l1, l2], [vI 3, v0], S) := rn_step dX6_giveBack_17 rfl rfl
theorem eX6_giveBack_18 {a b : Int} {l0 l1 l2 : Option VV} (h : -2147483648 ≤ a ∧ a ≤ 2147483647) (h1 : -2147483648 ≤ b ∧ b ≤ 2147483647) {S : MM} : rn xX6_giveBack (18, [l0, l1, l2], [vI b, vI a], S) = if a < b then rn xX6_giveBack (21, [l0, l1, l2], [], S) else rn xX6_giveBack (43, [l0, l1, l2], [], S) := q_icmp_ge dX6_giveBack_18 (by decide) rfl h h1
theorem eX6_giveBack_21 {a : Option Nat} {l1 l2 : Option VV} {S : MM} : rn xX6_giveBack (21, [some (.inr (.inl a)), l1, l2], [], S) = rn xX6_giveBack (22, [some (.inr (.inl a)), l1, l2], [.inr (.inl a)], S) := rn_step dX6_giveBack_21 rfl rfl
theorem eX6_giveBack_22 {i : Nat} {l0 l1 l2 : Option VV} (h : kd i = 6) {S : MM} : rn xX6_giveBack (22, [l0, l1, l2], [vR i], S) = rn xX6_giveBack (25, [l0, l1, l2], [vR (i + 3)], S) := q_getR dX6_giveBack_22 rfl ⟨⟨by decide, by decide⟩, by decide⟩ (fun h => (fref6 h).trans (by first | rfl | omega)) h
theorem eX6_giveBack_25 {a : Int} {l0 l1 : Option VV} {v0 : VV} {S : MM} : rn xX6_giveBack (25, [l0, l1, some (vI a)], [v0], S) = rn xX6_giveBack (26, [l0, l1, some (vI a)], [vI a, v0], S) := rn_step dX6_giveBack_25 rfl rfl
theorem eX6_giveBack_26 {a0 : Int} {i : Nat} {l0 l1 l2 : Option VV} (h : kd i = 5) {S : MM} : rn xX6_giveBack (26, [l0, l1, l2], [vI a0, vR i], S) = (fX5_pathOf [vR i, vI a0] S).bind (fun q => rn xX6_giveBack (29, [l0, l1, l2], q.1.toList ++ [], q.2)) := q_callV (n := 1) (as := [vI a0]) (rest := []) dX6_giveBack_26 rfl rfl rfl rfl h
theorem eX6_giveBack_29 {a : Option Nat} {l0 l2 : Option VV} {v0 : VV} {S : MM} : rn xX6_giveBack (29, [l0, some (.inr (.inl a)), l2], [v0], S) = rn xX6_giveBack (30, [l0, some (.inr (.inl a)), l2], [.inr (.inl a), v0], S) := rn_step dX6_giveBack_29 rfl rfl
theorem eX6_giveBack_30 {a : Int} {l0 l1 : Option VV} {v0 v1 : VV} {S : MM} : rn xX6_giveBack (30, [l0, l1, some (vI a)], [v0, v1], S) = rn xX6_giveBack (31, [l0, l1, some (vI a)], [vI a, v0, v1], S) := rn_step dX6_giveBack_30 rfl rfl
theorem eX6_giveBack_31 {a0 : Int} {i : Nat} {l0 l1 l2 : Option VV} {v2 : VV} (h : kd i = 5) {S : MM} : rn xX6_giveBack (31, [l0, l1, l2], [vI a0, vR i, v2], S) = (fX5_pathOf [vR i, vI a0] S).bind (fun q => rn xX6_giveBack (34, [l0, l1, l2], q.1.toList ++ [v2], q.2)) := q_callV (n := 1) (as := [vI a0]) (rest := [v2]) dX6_giveBack_31 rfl rfl rfl rfl h
theorem eX6_giveBack_34 {a0 : Option Nat} {i : Nat} {l0 l1 l2 : Option VV} (h : kd i = 3) {S : MM} : rn xX6_giveBack (34, [l0, l1, l2], [.inr (.inl a0), vR i], S) = (fX3_addAll [vR i, .inr (.inl a0)] S).bind (fun q => rn xX6_giveBack (37, [l0, l1, l2], q.1.toList ++ [], q.2)) := q_callV (n := 1) (as := [.inr (.inl a0)]) (rest := []) dX6_giveBack_34 rfl rfl rfl rfl h
theorem eX6_giveBack_37 {a : Int} {w : Option Nat} {l0 : Option VV} {S : MM} : rn xX6_giveBack (37, [l0, some (.inr (.inl w)), some (vI a)], [], S) = rn xX6_giveBack (40, [l0, some (.inr (.inl w)), some (vI (a + 1))], [], S) := rn_step dX6_giveBack_37 rfl rfl
theorem eX6_giveBack_40 {l0 l1 l2 : Option VV} {S : MM} : rn xX6_giveBack (40, [l0, l1, l2], [], S) = rn xX6_giveBack (16, [l0, l1, l2], [], S) := rn_step dX6_giveBack_40 rfl rfl
theorem eX6_giveBack_43 {a : Option Nat} {l1 l2 : Option VV} {S : MM} : rn xX6_giveBack (43, [some (.inr (.inl a)), l1, l2], [], S) = rn xX6_giveBack (44, [some (.inr (.inl a)), l1, l2], [.inr (.inl a)], S) := rn_step dX6_giveBack_43 rfl rfl
theorem eX6_giveBack_44 {i : Nat} {l0 l1 l2 : Option VV} (h : kd i = 6) {S : MM} : rn xX6_giveBack (44, [l0, l1, l2], [vR i], S) = rn xX6_giveBack (47, [l0, l1, l2], [vR (i + 13)], S) := q_getR dX6_giveBack_44 rfl ⟨⟨by decide, by decide⟩, by decide⟩ (fun h => (fref6 h).trans (by first | rfl | omega)) h
theorem eX6_giveBack_47 {i : Nat} {l0 l1 l2 : Option VV} (h : kd i = 1) {S : MM} : rn xX6_giveBack (47, [l0, l1, l2], [vR i], S) = (fX1_dropLatest [vR i] S).bind (fun q => rn xX6_giveBack (50, [l0, l1, l2], q.1.toList ++ [], q.2)) := q_callV (n := 0) (as := []) (rest := []) dX6_giveBack_47 rfl rfl rfl rfl h
theorem eX6_giveBack_50 {a : Option Nat} {l0 l2 : Option VV} {S : MM} : rn xX6_giveBack (50, [l0, some (.inr (.inl a)), l2], [], S) = rn xX6_giveBack (51, [l0, some (.inr (.inl a)), l2], [.inr (.inl a)], S) := rn_step dX6_giveBack_50 rfl rfl
theorem eX6_giveBack_51 {i : Nat} {l0 l1 l2 : Option VV} (h : kd i = 5) {S : MM} : rn xX6_giveBack (51, [l0, l1, l2], [vR i], S) = (fX5_stones [vR i] S).bind (fun q => rn xX6_giveBack (54, [l0, l1, l2], q.1.toList ++ [], q.2)) := q_callV (n := 0) (as := []) (rest := []) dX6_giveBack_51 rfl rfl rfl rfl h
theorem eX6_giveBack_54 {z : Int} {l0 l1 l2 : Option VV} {S : MM} : rn xX6_giveBack (54, [l0, l1, l2], [vI z], S) = some (some (vI z), S) := q_retI dX6_giveBack_54 rfl
noncomputable def qlX6_start : List CE := [(0, 112, 0, 3, fX0_start), (0, 116, 0, 1, fX0_isOver)]
noncomputable def xX6_start : XX := (cX6_start, fcF fcl6, mcF qlX6_start, 1)
noncomputable def fX6_start : FN := fnX xX6_start 1
set_option maxRecDepth 100000 in
theorem cwX6_start : Cond.code yX6_start cX6_start 1 (some .int) ∈ lw_g := lw_gm 583 (by decide +kernel) (by decide +kernel)
set_option maxRecDepth 100000 in
theorem conX6_start : Con yX6_start cX6_start 1 (some .int) { frames := 5, cells := 0, slots := 0, locals := 108 } fX6_start := con_of (X := xX6_start) (own := "LeapStones$Scene") (ql := qlX6_start) (by decide) rfl FOK6 rfl (List.forall_mem_cons.mpr ⟨call_V conX0_start cwX0_start (lw_gl _ [584, 585, 586, 28] (by decide +kernel) (by decide +kernel)) (by decide) rfl ⟨by decide, by decide, by decide +kernel⟩ ⟨rfl, rfl⟩ ⟨by decide, by decide⟩ ⟨Nat.le_refl _, Nat.le_refl _⟩, List.forall_mem_cons.mpr ⟨call_V conX0_isOver cwX0_isOver (lw_gl _ [595, 596, 597, 28] (by decide +kernel) (by decide +kernel)) (by decide) rfl ⟨by decide, by decide, by decide +kernel⟩ ⟨rfl, rfl⟩ ⟨by decide, by decide⟩ ⟨Nat.le_refl _, Nat.le_refl _⟩, fun _ h => absurd h List.not_mem_nil⟩⟩) (Or.inr (Or.inl ⟨rfl, rfl⟩))
theorem uX6_start {i : Nat} {S : MM} : fX6_start [vR i] S = rn xX6_start (0, [some (vR i)], [], S) := rfl
theorem dX6_start_0 : decode cX6_start 0 = .ok (.aload_n 0, 1) := by decide +kernel
theorem dX6_start_1 : decode cX6_start 1 = .ok (.getfield 35, 3) := by decide +kernel
theorem dX6_start_4 : decode cX6_start 4 = .ok (.aload_n 0, 1) := by decide +kernel
theorem dX6_start_5 : decode cX6_start 5 = .ok (.getfield 21, 3) := by decide +kernel
theorem dX6_start_8 : decode cX6_start 8 = .ok (.aload_n 0, 1) := by decide +kernel
theorem dX6_start_9 : decode cX6_start 9 = .ok (.getfield 12, 3) := by decide +kernel
theorem dX6_start_12 : decode cX6_start 12 = .ok (.invokevirtual 112, 3) := by decide +kernel
theorem dX6_start_15 : decode cX6_start 15 = .ok (.aload_n 0, 1) := by decide +kernel
theorem dX6_start_16 : decode cX6_start 16 = .ok (.getfield 35, 3) := by decide +kernel
theorem dX6_start_19 : decode cX6_start 19 = .ok (.invokevirtual 116, 3) := by decide +kernel
theorem dX6_start_22 : decode cX6_start 22 = .ok (.ifCond .eq 7, 3) := by decide +kernel
theorem dX6_start_25 : decode cX6_start 25 = .ok (.iconst 1, 1) := by decide +kernel
theorem dX6_start_26 : decode cX6_start 26 = .ok (.goto 4, 3) := by decide +kernel
theorem dX6_start_29 : decode cX6_start 29 = .ok (.iconst 0, 1) := by decide +kernel
theorem dX6_start_30 : decode cX6_start 30 = .ok (.ireturn, 1) := by decide +kernel
theorem eX6_start_0 {a : Option Nat} {S : MM} : rn xX6_start (0, [some (.inr (.inl a))], [], S) = rn xX6_start (1, [some (.inr (.inl a))], [.inr (.inl a)], S) := rn_step dX6_start_0 rfl rfl
theorem eX6_start_1 {i : Nat} {l0 : Option VV} (h : kd i = 6) {S : MM} : rn xX6_start (1, [l0], [vR i], S) = rn xX6_start (4, [l0], [vR (i + 56)], S) := q_getR dX6_start_1 rfl ⟨⟨by decide, by decide⟩, by decide⟩ (fun h => (fref6 h).trans (by first | rfl | omega)) h
theorem eX6_start_4 {a : Option Nat} {v0 : VV} {S : MM} : rn xX6_start (4, [some (.inr (.inl a))], [v0], S) = rn xX6_start (5, [some (.inr (.inl a))], [.inr (.inl a), v0], S) := rn_step dX6_start_4 rfl rfl
theorem eX6_start_5 {i : Nat} {l0 : Option VV} {v1 : VV} (h : kd i = 6) {S : MM} : rn xX6_start (5, [l0], [vR i, v1], S) = rn xX6_start (8, [l0], [vR (i + 3), v1], S) := q_getR dX6_start_5 rfl ⟨⟨by decide, by decide⟩, by decide⟩ (fun h => (fref6 h).trans (by first | rfl | omega)) h
theorem eX6_start_8 {a : Option Nat} {v0 v1 : VV} {S : MM} : rn xX6_start (8, [some (.inr (.inl a))], [v0, v1], S) = rn xX6_start (9, [some (.inr (.inl a))], [.inr (.inl a), v0, v1], S) := rn_step dX6_start_8 rfl rfl
theorem eX6_start_9 {i : Nat} {l0 : Option VV} {v1 v2 : VV} (h : kd i = 6) {S : MM} : rn xX6_start (9, [l0], [vR i, v1, v2], S) = rn xX6_start (12, [l0], [vR (i + 1), v1, v2], S) := q_getR dX6_start_9 rfl ⟨⟨by decide, by decide⟩, by decide⟩ (fun h => (fref6 h).trans (by first | rfl | omega)) h
theorem eX6_start_12 {a0 : Option Nat} {a1 : Option Nat} {i : Nat} {l0 : Option VV} (h : kd i = 0) {S : MM} : rn xX6_start (12, [l0], [.inr (.inl a1), .inr (.inl a0), vR i], S) = (fX0_start [vR i, .inr (.inl a0), .inr (.inl a1)] S).bind (fun q => rn xX6_start (15, [l0], q.1.toList ++ [], q.2)) := q_callV (n := 2) (as := [.inr (.inl a0), .inr (.inl a1)]) (rest := []) dX6_start_12 rfl rfl rfl rfl h
theorem eX6_start_15 {a : Option Nat} {S : MM} : rn xX6_start (15, [some (.inr (.inl a))], [], S) = rn xX6_start (16, [some (.inr (.inl a))], [.inr (.inl a)], S) := rn_step dX6_start_15 rfl rfl
theorem eX6_start_16 {i : Nat} {l0 : Option VV} (h : kd i = 6) {S : MM} : rn xX6_start (16, [l0], [vR i], S) = rn xX6_start (19, [l0], [vR (i + 56)], S) := q_getR dX6_start_16 rfl ⟨⟨by decide, by decide⟩, by decide⟩ (fun h => (fref6 h).trans (by first | rfl | omega)) h
theorem eX6_start_19 {i : Nat} {l0 : Option VV} (h : kd i = 0) {S : MM} : rn xX6_start (19, [l0], [vR i], S) = (fX0_isOver [vR i] S).bind (fun q => rn xX6_start (22, [l0], q.1.toList ++ [], q.2)) := q_callV (n := 0) (as := []) (rest := []) dX6_start_19 rfl rfl rfl rfl h
theorem eX6_start_22 {a : Int} {l0 : Option VV} (h : -2147483648 ≤ a ∧ a ≤ 2147483647) {S : MM} : rn xX6_start (22, [l0], [vI a], S) = if a = 0 then rn xX6_start (29, [l0], [], S) else rn xX6_start (25, [l0], [], S) := q_if_eq dX6_start_22 (by decide) rfl h
theorem eX6_start_25 {l0 : Option VV} {S : MM} : rn xX6_start (25, [l0], [], S) = rn xX6_start (26, [l0], [vI 1], S) := rn_step dX6_start_25 rfl rfl
theorem eX6_start_26 {l0 : Option VV} {v0 : VV} {S : MM} : rn xX6_start (26, [l0], [v0], S) = rn xX6_start (30, [l0], [v0], S) := rn_step dX6_start_26 rfl rfl
theorem eX6_start_29 {l0 : Option VV} {S : MM} : rn xX6_start (29, [l0], [], S) = rn xX6_start (30, [l0], [vI 0], S) := rn_step dX6_start_29 rfl rfl
theorem eX6_start_30 {z : Int} {l0 : Option VV} {S : MM} : rn xX6_start (30, [l0], [vI z], S) = some (some (vI z), S) := q_retI dX6_start_30 rfl
noncomputable def qlX6_step : List CE := [(0, 120, 0, 3, fX0_step)]
noncomputable def xX6_step : XX := (cX6_step, fcF fcl6, mcF qlX6_step, 1)
noncomputable def fX6_step : FN := fnX xX6_step 1
set_option maxRecDepth 100000 in
theorem cwX6_step : Cond.code yX6_step cX6_step 1 (some .int) ∈ lw_g := lw_gm 610 (by decide +kernel) (by decide +kernel)
set_option maxRecDepth 100000 in
theorem conX6_step : Con yX6_step cX6_step 1 (some .int) { frames := 5, cells := 0, slots := 0, locals := 125 } fX6_step := con_of (X := xX6_step) (own := "LeapStones$Scene") (ql := qlX6_step) (by decide) rfl FOK6 rfl (List.forall_mem_cons.mpr ⟨call_V conX0_step cwX0_step (lw_gl _ [611, 612, 613, 28] (by decide +kernel) (by decide +kernel)) (by decide) rfl ⟨by decide, by decide, by decide +kernel⟩ ⟨rfl, rfl⟩ ⟨by decide, by decide⟩ ⟨Nat.le_refl _, Nat.le_refl _⟩, fun _ h => absurd h List.not_mem_nil⟩) (Or.inr (Or.inl ⟨rfl, rfl⟩))
theorem uX6_step {i : Nat} {S : MM} : fX6_step [vR i] S = rn xX6_step (0, [some (vR i)], [], S) := rfl
theorem dX6_step_0 : decode cX6_step 0 = .ok (.aload_n 0, 1) := by decide +kernel
theorem dX6_step_1 : decode cX6_step 1 = .ok (.getfield 35, 3) := by decide +kernel
theorem dX6_step_4 : decode cX6_step 4 = .ok (.aload_n 0, 1) := by decide +kernel
theorem dX6_step_5 : decode cX6_step 5 = .ok (.getfield 21, 3) := by decide +kernel
theorem dX6_step_8 : decode cX6_step 8 = .ok (.aload_n 0, 1) := by decide +kernel
theorem dX6_step_9 : decode cX6_step 9 = .ok (.getfield 12, 3) := by decide +kernel
theorem dX6_step_12 : decode cX6_step 12 = .ok (.invokevirtual 120, 3) := by decide +kernel
theorem dX6_step_15 : decode cX6_step 15 = .ok (.ireturn, 1) := by decide +kernel
theorem eX6_step_0 {a : Option Nat} {S : MM} : rn xX6_step (0, [some (.inr (.inl a))], [], S) = rn xX6_step (1, [some (.inr (.inl a))], [.inr (.inl a)], S) := rn_step dX6_step_0 rfl rfl
theorem eX6_step_1 {i : Nat} {l0 : Option VV} (h : kd i = 6) {S : MM} : rn xX6_step (1, [l0], [vR i], S) = rn xX6_step (4, [l0], [vR (i + 56)], S) := q_getR dX6_step_1 rfl ⟨⟨by decide, by decide⟩, by decide⟩ (fun h => (fref6 h).trans (by first | rfl | omega)) h
theorem eX6_step_4 {a : Option Nat} {v0 : VV} {S : MM} : rn xX6_step (4, [some (.inr (.inl a))], [v0], S) = rn xX6_step (5, [some (.inr (.inl a))], [.inr (.inl a), v0], S) := rn_step dX6_step_4 rfl rfl
theorem eX6_step_5 {i : Nat} {l0 : Option VV} {v1 : VV} (h : kd i = 6) {S : MM} : rn xX6_step (5, [l0], [vR i, v1], S) = rn xX6_step (8, [l0], [vR (i + 3), v1], S) := q_getR dX6_step_5 rfl ⟨⟨by decide, by decide⟩, by decide⟩ (fun h => (fref6 h).trans (by first | rfl | omega)) h
theorem eX6_step_8 {a : Option Nat} {v0 v1 : VV} {S : MM} : rn xX6_step (8, [some (.inr (.inl a))], [v0, v1], S) = rn xX6_step (9, [some (.inr (.inl a))], [.inr (.inl a), v0, v1], S) := rn_step dX6_step_8 rfl rfl
theorem eX6_step_9 {i : Nat} {l0 : Option VV} {v1 v2 : VV} (h : kd i = 6) {S : MM} : rn xX6_step (9, [l0], [vR i, v1, v2], S) = rn xX6_step (12, [l0], [vR (i + 1), v1, v2], S) := q_getR dX6_step_9 rfl ⟨⟨by decide, by decide⟩, by decide⟩ (fun h => (fref6 h).trans (by first | rfl | omega)) h
theorem eX6_step_12 {a0 : Option Nat} {a1 : Option Nat} {i : Nat} {l0 : Option VV} (h : kd i = 0) {S : MM} : rn xX6_step (12, [l0], [.inr (.inl a1), .inr (.inl a0), vR i], S) = (fX0_step [vR i, .inr (.inl a0), .inr (.inl a1)] S).bind (fun q => rn xX6_step (15, [l0], q.1.toList ++ [], q.2)) := q_callV (n := 2) (as := [.inr (.inl a0), .inr (.inl a1)]) (rest := []) dX6_step_12 rfl rfl rfl rfl h
theorem eX6_step_15 {z : Int} {l0 : Option VV} {S : MM} : rn xX6_step (15, [l0], [vI z], S) = some (some (vI z), S) := q_retI dX6_step_15 rfl
noncomputable def qlX7_copyFrom : List CE := [(1, 19, 0, 3, fX8_copyRow)]
noncomputable def xX7_copyFrom : XX := (cX7_copyFrom, fcF fcl7, mcF qlX7_copyFrom, 0)
noncomputable def fX7_copyFrom : FN := fnX xX7_copyFrom 2
set_option maxRecDepth 100000 in
theorem cwX7_copyFrom : Cond.code yX7_copyFrom cX7_copyFrom 2 none ∈ lw_g := lw_gm 274 (by decide +kernel) (by decide +kernel)
set_option maxRecDepth 100000 in
theorem conX7_copyFrom : Con yX7_copyFrom cX7_copyFrom 2 none { frames := 2, cells := 0, slots := 0, locals := 49 } fX7_copyFrom := con_of (X := xX7_copyFrom) (own := "LeapStones$Settings") (ql := qlX7_copyFrom) (by decide) rfl FOK7 rfl (List.forall_mem_cons.mpr ⟨call_N conX8_copyRow cwX8_copyRow (lw_gl _ [276, 21] (by decide +kernel) (by decide +kernel)) (List.mem_of_getElem? (i := 13) (by decide +kernel)) ⟨by decide, by decide, by decide +kernel⟩ ⟨rfl, rfl⟩ ⟨by decide, by decide⟩ ⟨Nat.le_refl _, Nat.le_refl _⟩, fun _ h => absurd h List.not_mem_nil⟩) (Or.inl ⟨rfl, rfl⟩)
theorem uX7_copyFrom {i : Nat} {a0 : Option Nat} {S : MM} : fX7_copyFrom [vR i, .inr (.inl a0)] S = rn xX7_copyFrom (0, [some (vR i), some (.inr (.inl a0))], [], S) := rfl
theorem dX7_copyFrom_0 : decode cX7_copyFrom 0 = .ok (.aload_n 1, 1) := by decide +kernel
theorem dX7_copyFrom_1 : decode cX7_copyFrom 1 = .ok (.getfield 9, 3) := by decide +kernel
theorem dX7_copyFrom_4 : decode cX7_copyFrom 4 = .ok (.aload_n 0, 1) := by decide +kernel
theorem dX7_copyFrom_5 : decode cX7_copyFrom 5 = .ok (.getfield 9, 3) := by decide +kernel
theorem dX7_copyFrom_8 : decode cX7_copyFrom 8 = .ok (.aload_n 0, 1) := by decide +kernel
theorem dX7_copyFrom_9 : decode cX7_copyFrom 9 = .ok (.getfield 9, 3) := by decide +kernel
theorem dX7_copyFrom_12 : decode cX7_copyFrom 12 = .ok (.arraylength, 1) := by decide +kernel
theorem dX7_copyFrom_13 : decode cX7_copyFrom 13 = .ok (.invokestatic 19, 3) := by decide +kernel
theorem dX7_copyFrom_16 : decode cX7_copyFrom 16 = .ok (.return_, 1) := by decide +kernel
theorem eX7_copyFrom_0 {a : Option Nat} {l0 : Option VV} {S : MM} : rn xX7_copyFrom (0, [l0, some (.inr (.inl a))], [], S) = rn xX7_copyFrom (1, [l0, some (.inr (.inl a))], [.inr (.inl a)], S) := rn_step dX7_copyFrom_0 rfl rfl
theorem eX7_copyFrom_1 {i : Nat} {l0 l1 : Option VV} (h : kd i = 7) {S : MM} : rn xX7_copyFrom (1, [l0, l1], [vR i], S) = rn xX7_copyFrom (4, [l0, l1], [vR (i + 1)], S) := q_getR dX7_copyFrom_1 rfl ⟨⟨by decide, by decide⟩, by decide⟩ (fun h => (fref7 h).trans (by first | rfl | omega)) h
theorem eX7_copyFrom_4 {a : Option Nat} {l1 : Option VV} {v0 : VV} {S : MM} : rn xX7_copyFrom (4, [some (.inr (.inl a)), l1], [v0], S) = rn xX7_copyFrom (5, [some (.inr (.inl a)), l1], [.inr (.inl a), v0], S) := rn_step dX7_copyFrom_4 rfl rfl
theorem eX7_copyFrom_5 {i : Nat} {l0 l1 : Option VV} {v1 : VV} (h : kd i = 7) {S : MM} : rn xX7_copyFrom (5, [l0, l1], [vR i, v1], S) = rn xX7_copyFrom (8, [l0, l1], [vR (i + 1), v1], S) := q_getR dX7_copyFrom_5 rfl ⟨⟨by decide, by decide⟩, by decide⟩ (fun h => (fref7 h).trans (by first | rfl | omega)) h
theorem eX7_copyFrom_8 {a : Option Nat} {l1 : Option VV} {v0 v1 : VV} {S : MM} : rn xX7_copyFrom (8, [some (.inr (.inl a)), l1], [v0, v1], S) = rn xX7_copyFrom (9, [some (.inr (.inl a)), l1], [.inr (.inl a), v0, v1], S) := rn_step dX7_copyFrom_8 rfl rfl
theorem eX7_copyFrom_9 {i : Nat} {l0 l1 : Option VV} {v1 v2 : VV} (h : kd i = 7) {S : MM} : rn xX7_copyFrom (9, [l0, l1], [vR i, v1, v2], S) = rn xX7_copyFrom (12, [l0, l1], [vR (i + 1), v1, v2], S) := q_getR dX7_copyFrom_9 rfl ⟨⟨by decide, by decide⟩, by decide⟩ (fun h => (fref7 h).trans (by first | rfl | omega)) h
theorem eX7_copyFrom_12 {i : Nat} {l0 l1 : Option VV} {v1 v2 : VV} (h : 10 ≤ kd i ∧ kd i ≤ 14) {S : MM} : rn xX7_copyFrom (12, [l0, l1], [vR i, v1, v2], S) = rn xX7_copyFrom (13, [l0, l1], [vI (alen i), v1, v2], S) := q_alen dX7_copyFrom_12 h
theorem eX7_copyFrom_12x {l0 l1 : Option VV} {v1 v2 : VV} {S : MM} : rn xX7_copyFrom (12, [l0, l1], [vR 602, v1, v2], S) = rn xX7_copyFrom (13, [l0, l1], [vI (S 604 0), v1, v2], S) := q_alenX dX7_copyFrom_12
theorem eX7_copyFrom_12y {l0 l1 : Option VV} {v1 v2 : VV} {S : MM} : rn xX7_copyFrom (12, [l0, l1], [vR 603, v1, v2], S) = rn xX7_copyFrom (13, [l0, l1], [vI (S 604 1), v1, v2], S) := q_alenY dX7_copyFrom_12
theorem eX7_copyFrom_13 {a0 : Option Nat} {a1 : Option Nat} {a2 : Int} {l0 l1 : Option VV} {S : MM} : rn xX7_copyFrom (13, [l0, l1], [vI a2, .inr (.inl a1), .inr (.inl a0)], S) = (fX8_copyRow [.inr (.inl a0), .inr (.inl a1), vI a2] S).bind (fun q => rn xX7_copyFrom (16, [l0, l1], q.1.toList ++ [], q.2)) := q_callS (n := 3) (as := [.inr (.inl a0), .inr (.inl a1), vI a2]) (rest := []) dX7_copyFrom_13 rfl rfl rfl rfl
theorem eX7_copyFrom_16 {l0 l1 : Option VV} {S : MM} : rn xX7_copyFrom (16, [l0, l1], [], S) = some (none, S) := q_retV dX7_copyFrom_16 rfl

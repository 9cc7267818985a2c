noncomputable def qlX9_in : List CE := []
noncomputable def xX9_in : XX := (cX9_in, fcF fcl9, mcF qlX9_in, 2)
noncomputable def fX9_in : FN := fnX xX9_in 3
set_option maxRecDepth 100000 in
theorem cwX9_in : Cond.code yX9_in cX9_in 3 (some .boolean) ∈ lw_g := lw_gm 1045 (by decide +kernel) (by decide +kernel)
set_option maxRecDepth 100000 in
theorem conX9_in : Con yX9_in cX9_in 3 (some .boolean) { frames := 0, cells := 0, slots := 0, locals := 0 } fX9_in := con_of (X := xX9_in) (own := "LeapStonesModel") (ql := qlX9_in) (by decide) rfl FOK9 rfl (fun _ h => absurd h List.not_mem_nil) (Or.inr (Or.inr (Or.inl ⟨rfl, rfl⟩)))
theorem uX9_in {a0 : Int} {a1 : Int} {a2 : Int} {S : MM} : fX9_in [vI a0, vI a1, vI a2] S = rn xX9_in (0, [some (vI a0), some (vI a1), some (vI a2)], [], S) := rfl
theorem dX9_in_0 : decode cX9_in 0 = .ok (.iload_n 0, 1) := by decide +kernel
theorem dX9_in_1 : decode cX9_in 1 = .ok (.iload_n 1, 1) := by decide +kernel
theorem dX9_in_2 : decode cX9_in 2 = .ok (.if_icmp .lt 12, 3) := by decide +kernel
theorem dX9_in_5 : decode cX9_in 5 = .ok (.iload_n 0, 1) := by decide +kernel
theorem dX9_in_6 : decode cX9_in 6 = .ok (.iload_n 2, 1) := by decide +kernel
theorem dX9_in_7 : decode cX9_in 7 = .ok (.if_icmp .gt 7, 3) := by decide +kernel
theorem dX9_in_10 : decode cX9_in 10 = .ok (.iconst 1, 1) := by decide +kernel
theorem dX9_in_11 : decode cX9_in 11 = .ok (.goto 4, 3) := by decide +kernel
theorem dX9_in_14 : decode cX9_in 14 = .ok (.iconst 0, 1) := by decide +kernel
theorem dX9_in_15 : decode cX9_in 15 = .ok (.ireturn, 1) := by decide +kernel
theorem eX9_in_0 {a : Int} {l1 l2 : Option VV} {S : MM} : rn xX9_in (0, [some (vI a), l1, l2], [], S) = rn xX9_in (1, [some (vI a), l1, l2], [vI a], S) := rn_step dX9_in_0 rfl rfl
theorem eX9_in_1 {a : Int} {l0 l2 : Option VV} {v0 : VV} {S : MM} : rn xX9_in (1, [l0, some (vI a), l2], [v0], S) = rn xX9_in (2, [l0, some (vI a), l2], [vI a, v0], S) := rn_step dX9_in_1 rfl rfl
theorem eX9_in_2 {a b : Int} {l0 l1 l2 : Option VV} (h : -2147483648 ≤ a ∧ a ≤ 2147483647) (h1 : -2147483648 ≤ b ∧ b ≤ 2147483647) {S : MM} : rn xX9_in (2, [l0, l1, l2], [vI b, vI a], S) = if a < b then rn xX9_in (14, [l0, l1, l2], [], S) else rn xX9_in (5, [l0, l1, l2], [], S) := q_icmp_lt dX9_in_2 (by decide) rfl h h1
theorem eX9_in_5 {a : Int} {l1 l2 : Option VV} {S : MM} : rn xX9_in (5, [some (vI a), l1, l2], [], S) = rn xX9_in (6, [some (vI a), l1, l2], [vI a], S) := rn_step dX9_in_5 rfl rfl
theorem eX9_in_6 {a : Int} {l0 l1 : Option VV} {v0 : VV} {S : MM} : rn xX9_in (6, [l0, l1, some (vI a)], [v0], S) = rn xX9_in (7, [l0, l1, some (vI a)], [vI a, v0], S) := rn_step dX9_in_6 rfl rfl
theorem eX9_in_7 {a b : Int} {l0 l1 l2 : Option VV} (h : -2147483648 ≤ a ∧ a ≤ 2147483647) (h1 : -2147483648 ≤ b ∧ b ≤ 2147483647) {S : MM} : rn xX9_in (7, [l0, l1, l2], [vI b, vI a], S) = if b < a then rn xX9_in (14, [l0, l1, l2], [], S) else rn xX9_in (10, [l0, l1, l2], [], S) := q_icmp_gt dX9_in_7 (by decide) rfl h h1
theorem eX9_in_10 {l0 l1 l2 : Option VV} {S : MM} : rn xX9_in (10, [l0, l1, l2], [], S) = rn xX9_in (11, [l0, l1, l2], [vI 1], S) := rn_step dX9_in_10 rfl rfl
theorem eX9_in_11 {l0 l1 l2 : Option VV} {v0 : VV} {S : MM} : rn xX9_in (11, [l0, l1, l2], [v0], S) = rn xX9_in (15, [l0, l1, l2], [v0], S) := rn_step dX9_in_11 rfl rfl
theorem eX9_in_14 {l0 l1 l2 : Option VV} {S : MM} : rn xX9_in (14, [l0, l1, l2], [], S) = rn xX9_in (15, [l0, l1, l2], [vI 0], S) := rn_step dX9_in_14 rfl rfl
theorem eX9_in_15 {z : Int} {l0 l1 l2 : Option VV} (hz : z = 0 ∨ z = 1) {S : MM} : rn xX9_in (15, [l0, l1, l2], [vI z], S) = some (some (vI z), S) := q_retZ dX9_in_15 rfl hz
noncomputable def qlX9_isWalker : List CE := [(1, 35, 0, 3, fX9_in)]
noncomputable def xX9_isWalker : XX := (cX9_isWalker, fcF fcl9, mcF qlX9_isWalker, 2)
noncomputable def fX9_isWalker : FN := fnX xX9_isWalker 1
set_option maxRecDepth 100000 in
theorem cwX9_isWalker : Cond.code yX9_isWalker cX9_isWalker 1 (some .boolean) ∈ lw_g := lw_gm 1056 (by decide +kernel) (by decide +kernel)
set_option maxRecDepth 100000 in
theorem conX9_isWalker : Con yX9_isWalker cX9_isWalker 1 (some .boolean) { frames := 1, cells := 0, slots := 0, locals := 22 } fX9_isWalker := con_of (X := xX9_isWalker) (own := "LeapStonesModel") (ql := qlX9_isWalker) (by decide) rfl FOK9 rfl (List.forall_mem_cons.mpr ⟨call_S conX9_in cwX9_in (lw_gl _ [1043, 1044, 84] (by decide +kernel) (by decide +kernel)) ⟨by decide, by decide, by decide +kernel⟩ ⟨rfl, rfl⟩ ⟨by decide, by decide⟩ ⟨Nat.le_refl _, Nat.le_refl _⟩, fun _ h => absurd h List.not_mem_nil⟩) (Or.inr (Or.inr (Or.inl ⟨rfl, rfl⟩)))
theorem uX9_isWalker {a0 : Int} {S : MM} : fX9_isWalker [vI a0] S = rn xX9_isWalker (0, [some (vI a0)], [], S) := rfl
theorem dX9_isWalker_0 : decode cX9_isWalker 0 = .ok (.iload_n 0, 1) := by decide +kernel
theorem dX9_isWalker_1 : decode cX9_isWalker 1 = .ok (.iconst 0, 1) := by decide +kernel
theorem dX9_isWalker_2 : decode cX9_isWalker 2 = .ok (.iconst 2, 1) := by decide +kernel
theorem dX9_isWalker_3 : decode cX9_isWalker 3 = .ok (.invokestatic 35, 3) := by decide +kernel
theorem dX9_isWalker_6 : decode cX9_isWalker 6 = .ok (.ireturn, 1) := by decide +kernel
theorem eX9_isWalker_0 {a : Int} {S : MM} : rn xX9_isWalker (0, [some (vI a)], [], S) = rn xX9_isWalker (1, [some (vI a)], [vI a], S) := rn_step dX9_isWalker_0 rfl rfl
theorem eX9_isWalker_1 {l0 : Option VV} {v0 : VV} {S : MM} : rn xX9_isWalker (1, [l0], [v0], S) = rn xX9_isWalker (2, [l0], [vI 0, v0], S) := rn_step dX9_isWalker_1 rfl rfl
theorem eX9_isWalker_2 {l0 : Option VV} {v0 v1 : VV} {S : MM} : rn xX9_isWalker (2, [l0], [v0, v1], S) = rn xX9_isWalker (3, [l0], [vI 2, v0, v1], S) := rn_step dX9_isWalker_2 rfl rfl
theorem eX9_isWalker_3 {a0 : Int} {a1 : Int} {a2 : Int} {l0 : Option VV} {S : MM} : rn xX9_isWalker (3, [l0], [vI a2, vI a1, vI a0], S) = (fX9_in [vI a0, vI a1, vI a2] S).bind (fun q => rn xX9_isWalker (6, [l0], q.1.toList ++ [], q.2)) := q_callS (n := 3) (as := [vI a0, vI a1, vI a2]) (rest := []) dX9_isWalker_3 rfl rfl rfl rfl
theorem eX9_isWalker_6 {z : Int} {l0 : Option VV} (hz : z = 0 ∨ z = 1) {S : MM} : rn xX9_isWalker (6, [l0], [vI z], S) = some (some (vI z), S) := q_retZ dX9_isWalker_6 rfl hz
noncomputable def qlX9_isKey : List CE := [(1, 35, 0, 3, fX9_in)]
noncomputable def xX9_isKey : XX := (cX9_isKey, fcF fcl9, mcF qlX9_isKey, 2)
noncomputable def fX9_isKey : FN := fnX xX9_isKey 1
set_option maxRecDepth 100000 in
theorem cwX9_isKey : Cond.code yX9_isKey cX9_isKey 1 (some .boolean) ∈ lw_g := lw_gm 1059 (by decide +kernel) (by decide +kernel)
set_option maxRecDepth 100000 in
theorem conX9_isKey : Con yX9_isKey cX9_isKey 1 (some .boolean) { frames := 1, cells := 0, slots := 0, locals := 22 } fX9_isKey := con_of (X := xX9_isKey) (own := "LeapStonesModel") (ql := qlX9_isKey) (by decide) rfl FOK9 rfl (List.forall_mem_cons.mpr ⟨call_S conX9_in cwX9_in (lw_gl _ [1043, 1044, 84] (by decide +kernel) (by decide +kernel)) ⟨by decide, by decide, by decide +kernel⟩ ⟨rfl, rfl⟩ ⟨by decide, by decide⟩ ⟨Nat.le_refl _, Nat.le_refl _⟩, fun _ h => absurd h List.not_mem_nil⟩) (Or.inr (Or.inr (Or.inl ⟨rfl, rfl⟩)))
theorem uX9_isKey {a0 : Int} {S : MM} : fX9_isKey [vI a0] S = rn xX9_isKey (0, [some (vI a0)], [], S) := rfl
theorem dX9_isKey_0 : decode cX9_isKey 0 = .ok (.iload_n 0, 1) := by decide +kernel
theorem dX9_isKey_1 : decode cX9_isKey 1 = .ok (.iconst 0, 1) := by decide +kernel
theorem dX9_isKey_2 : decode cX9_isKey 2 = .ok (.sipush 299, 3) := by decide +kernel
theorem dX9_isKey_5 : decode cX9_isKey 5 = .ok (.invokestatic 35, 3) := by decide +kernel
theorem dX9_isKey_8 : decode cX9_isKey 8 = .ok (.ireturn, 1) := by decide +kernel
theorem eX9_isKey_0 {a : Int} {S : MM} : rn xX9_isKey (0, [some (vI a)], [], S) = rn xX9_isKey (1, [some (vI a)], [vI a], S) := rn_step dX9_isKey_0 rfl rfl
theorem eX9_isKey_1 {l0 : Option VV} {v0 : VV} {S : MM} : rn xX9_isKey (1, [l0], [v0], S) = rn xX9_isKey (2, [l0], [vI 0, v0], S) := rn_step dX9_isKey_1 rfl rfl
theorem eX9_isKey_2 {l0 : Option VV} {v0 v1 : VV} {S : MM} : rn xX9_isKey (2, [l0], [v0, v1], S) = rn xX9_isKey (5, [l0], [vI 299, v0, v1], S) := rn_step dX9_isKey_2 rfl rfl
theorem eX9_isKey_5 {a0 : Int} {a1 : Int} {a2 : Int} {l0 : Option VV} {S : MM} : rn xX9_isKey (5, [l0], [vI a2, vI a1, vI a0], S) = (fX9_in [vI a0, vI a1, vI a2] S).bind (fun q => rn xX9_isKey (8, [l0], q.1.toList ++ [], q.2)) := q_callS (n := 3) (as := [vI a0, vI a1, vI a2]) (rest := []) dX9_isKey_5 rfl rfl rfl rfl
theorem eX9_isKey_8 {z : Int} {l0 : Option VV} (hz : z = 0 ∨ z = 1) {S : MM} : rn xX9_isKey (8, [l0], [vI z], S) = some (some (vI z), S) := q_retZ dX9_isKey_8 rfl hz
noncomputable def qlX9_repeats : List CE := []
noncomputable def xX9_repeats : XX := (cX9_repeats, fcF fcl9, mcF qlX9_repeats, 1)
noncomputable def fX9_repeats : FN := fnX xX9_repeats 3
set_option maxRecDepth 100000 in
theorem cwX9_repeats : Cond.code yX9_repeats cX9_repeats 3 (some .int) ∈ lw_g := lw_gm 962 (by decide +kernel) (by decide +kernel)
set_option maxRecDepth 100000 in
theorem conX9_repeats : Con yX9_repeats cX9_repeats 3 (some .int) { frames := 0, cells := 0, slots := 0, locals := 0 } fX9_repeats := con_of (X := xX9_repeats) (own := "LeapStonesModel") (ql := qlX9_repeats) (by decide) rfl FOK9 rfl (fun _ h => absurd h List.not_mem_nil) (Or.inr (Or.inl ⟨rfl, rfl⟩))
theorem uX9_repeats {i : Nat} {a0 : Int} {a1 : Int} {S : MM} : fX9_repeats [vR i, vI a0, vI a1] S = rn xX9_repeats (0, [some (vR i), some (vI a0), some (vI a1)], [], S) := rfl
theorem dX9_repeats_0 : decode cX9_repeats 0 = .ok (.aload_n 0, 1) := by decide +kernel
theorem dX9_repeats_1 : decode cX9_repeats 1 = .ok (.getfield 7, 3) := by decide +kernel
theorem dX9_repeats_4 : decode cX9_repeats 4 = .ok (.bipush 25, 2) := by decide +kernel
theorem dX9_repeats_6 : decode cX9_repeats 6 = .ok (.sipush 300, 3) := by decide +kernel
theorem dX9_repeats_9 : decode cX9_repeats 9 = .ok (.iload_n 1, 1) := by decide +kernel
theorem dX9_repeats_10 : decode cX9_repeats 10 = .ok (.imul, 1) := by decide +kernel
theorem dX9_repeats_11 : decode cX9_repeats 11 = .ok (.iadd, 1) := by decide +kernel
theorem dX9_repeats_12 : decode cX9_repeats 12 = .ok (.iload_n 2, 1) := by decide +kernel
theorem dX9_repeats_13 : decode cX9_repeats 13 = .ok (.iadd, 1) := by decide +kernel
theorem dX9_repeats_14 : decode cX9_repeats 14 = .ok (.iaload, 1) := by decide +kernel
theorem dX9_repeats_15 : decode cX9_repeats 15 = .ok (.ireturn, 1) := by decide +kernel
theorem eX9_repeats_0 {a : Option Nat} {l1 l2 : Option VV} {S : MM} : rn xX9_repeats (0, [some (.inr (.inl a)), l1, l2], [], S) = rn xX9_repeats (1, [some (.inr (.inl a)), l1, l2], [.inr (.inl a)], S) := rn_step dX9_repeats_0 rfl rfl
theorem eX9_repeats_1 {l0 l1 l2 : Option VV} {S : MM} : rn xX9_repeats (1, [l0, l1, l2], [vR 593], S) = rn xX9_repeats (4, [l0, l1, l2], [vR 594], S) := q_getR dX9_repeats_1 rfl ⟨⟨by decide, by decide⟩, by decide⟩ (fun _ => by decide +kernel) kd593
theorem eX9_repeats_4 {l0 l1 l2 : Option VV} {v0 : VV} {S : MM} : rn xX9_repeats (4, [l0, l1, l2], [v0], S) = rn xX9_repeats (6, [l0, l1, l2], [vI 25, v0], S) := rn_step dX9_repeats_4 rfl rfl
theorem eX9_repeats_6 {l0 l1 l2 : Option VV} {v0 v1 : VV} {S : MM} : rn xX9_repeats (6, [l0, l1, l2], [v0, v1], S) = rn xX9_repeats (9, [l0, l1, l2], [vI 300, v0, v1], S) := rn_step dX9_repeats_6 rfl rfl
theorem eX9_repeats_9 {a : Int} {l0 l2 : Option VV} {v0 v1 v2 : VV} {S : MM} : rn xX9_repeats (9, [l0, some (vI a), l2], [v0, v1, v2], S) = rn xX9_repeats (10, [l0, some (vI a), l2], [vI a, v0, v1, v2], S) := rn_step dX9_repeats_9 rfl rfl
theorem eX9_repeats_10 {a b : Int} {l0 l1 l2 : Option VV} {v2 v3 : VV} {S : MM} : rn xX9_repeats (10, [l0, l1, l2], [vI b, vI a, v2, v3], S) = rn xX9_repeats (11, [l0, l1, l2], [vI (a * b), v2, v3], S) := rn_step dX9_repeats_10 rfl rfl
theorem eX9_repeats_11 {a b : Int} {l0 l1 l2 : Option VV} {v2 : VV} {S : MM} : rn xX9_repeats (11, [l0, l1, l2], [vI b, vI a, v2], S) = rn xX9_repeats (12, [l0, l1, l2], [vI (a + b), v2], S) := rn_step dX9_repeats_11 rfl rfl
theorem eX9_repeats_12 {a : Int} {l0 l1 : Option VV} {v0 v1 : VV} {S : MM} : rn xX9_repeats (12, [l0, l1, some (vI a)], [v0, v1], S) = rn xX9_repeats (13, [l0, l1, some (vI a)], [vI a, v0, v1], S) := rn_step dX9_repeats_12 rfl rfl
theorem eX9_repeats_13 {a b : Int} {l0 l1 l2 : Option VV} {v2 : VV} {S : MM} : rn xX9_repeats (13, [l0, l1, l2], [vI b, vI a, v2], S) = rn xX9_repeats (14, [l0, l1, l2], [vI (a + b), v2], S) := rn_step dX9_repeats_13 rfl rfl
theorem eX9_repeats_14 {i : Nat} {j : Int} {l0 l1 l2 : Option VV} (h : kd i = 10) (h0 : 0 ≤ j) (h1 : j < alen i) {S : MM} : rn xX9_repeats (14, [l0, l1, l2], [vI j, vR i], S) = rn xX9_repeats (15, [l0, l1, l2], [vI (S i j.toNat)], S) := q_iald dX9_repeats_14 h h0 h1
theorem eX9_repeats_14x {j : Int} {l0 l1 l2 : Option VV} {S : MM} (h0 : 0 ≤ j) (h1 : j < S 604 0) : rn xX9_repeats (14, [l0, l1, l2], [vI j, vR 602], S) = rn xX9_repeats (15, [l0, l1, l2], [vI (S 602 j.toNat)], S) := q_ialdX dX9_repeats_14 h0 h1
theorem eX9_repeats_14y {j : Int} {l0 l1 l2 : Option VV} {S : MM} (h0 : 0 ≤ j) (h1 : j < S 604 1) : rn xX9_repeats (14, [l0, l1, l2], [vI j, vR 603], S) = rn xX9_repeats (15, [l0, l1, l2], [vI (S 603 j.toNat)], S) := q_ialdY dX9_repeats_14 h0 h1
theorem eX9_repeats_15 {z : Int} {l0 l1 l2 : Option VV} {S : MM} : rn xX9_repeats (15, [l0, l1, l2], [vI z], S) = some (some (vI z), S) := q_retI dX9_repeats_15 rfl
noncomputable def qlX9_stonesOf : List CE := [(0, 39, 9, 3, fX9_repeats)]
noncomputable def xX9_stonesOf : XX := (cX9_stonesOf, fcF fcl9, mcF qlX9_stonesOf, 1)
noncomputable def fX9_stonesOf : FN := fnX xX9_stonesOf 4
set_option maxRecDepth 100000 in
theorem cwX9_stonesOf : Cond.code yX9_stonesOf cX9_stonesOf 4 (some .int) ∈ lw_g := lw_gm 1063 (by decide +kernel) (by decide +kernel)
set_option maxRecDepth 100000 in
theorem conX9_stonesOf : Con yX9_stonesOf cX9_stonesOf 4 (some .int) { frames := 1, cells := 0, slots := 0, locals := 22 } fX9_stonesOf := con_of (X := xX9_stonesOf) (own := "LeapStonesModel") (ql := qlX9_stonesOf) (by decide) rfl FOK9 rfl (List.forall_mem_cons.mpr ⟨call_V conX9_repeats cwX9_repeats (lw_gl _ [959, 961, 23, 84] (by decide +kernel) (by decide +kernel)) (by decide) rfl ⟨by decide, by decide, by decide +kernel⟩ ⟨rfl, rfl⟩ ⟨by decide, by decide⟩ ⟨Nat.le_refl _, Nat.le_refl _⟩, fun _ h => absurd h List.not_mem_nil⟩) (Or.inr (Or.inl ⟨rfl, rfl⟩))
theorem uX9_stonesOf {i : Nat} {a0 : Int} {S : MM} : fX9_stonesOf [vR i, vI a0] S = rn xX9_stonesOf (0, [some (vR i), some (vI a0), none, none], [], S) := rfl
theorem dX9_stonesOf_0 : decode cX9_stonesOf 0 = .ok (.iconst 0, 1) := by decide +kernel
theorem dX9_stonesOf_1 : decode cX9_stonesOf 1 = .ok (.istore_n 2, 1) := by decide +kernel
theorem dX9_stonesOf_2 : decode cX9_stonesOf 2 = .ok (.iconst 0, 1) := by decide +kernel
theorem dX9_stonesOf_3 : decode cX9_stonesOf 3 = .ok (.istore_n 3, 1) := by decide +kernel
theorem dX9_stonesOf_4 : decode cX9_stonesOf 4 = .ok (.iload_n 3, 1) := by decide +kernel
theorem dX9_stonesOf_5 : decode cX9_stonesOf 5 = .ok (.sipush 300, 3) := by decide +kernel
theorem dX9_stonesOf_8 : decode cX9_stonesOf 8 = .ok (.if_icmp .ge 26, 3) := by decide +kernel
theorem dX9_stonesOf_11 : decode cX9_stonesOf 11 = .ok (.iload_n 2, 1) := by decide +kernel
theorem dX9_stonesOf_12 : decode cX9_stonesOf 12 = .ok (.aload_n 0, 1) := by decide +kernel
theorem dX9_stonesOf_13 : decode cX9_stonesOf 13 = .ok (.iload_n 1, 1) := by decide +kernel
theorem dX9_stonesOf_14 : decode cX9_stonesOf 14 = .ok (.iload_n 3, 1) := by decide +kernel
theorem dX9_stonesOf_15 : decode cX9_stonesOf 15 = .ok (.invokevirtual 39, 3) := by decide +kernel
theorem dX9_stonesOf_18 : decode cX9_stonesOf 18 = .ok (.ifCond .le 7, 3) := by decide +kernel
theorem dX9_stonesOf_21 : decode cX9_stonesOf 21 = .ok (.iconst 1, 1) := by decide +kernel
theorem dX9_stonesOf_22 : decode cX9_stonesOf 22 = .ok (.goto 4, 3) := by decide +kernel
theorem dX9_stonesOf_25 : decode cX9_stonesOf 25 = .ok (.iconst 0, 1) := by decide +kernel
theorem dX9_stonesOf_26 : decode cX9_stonesOf 26 = .ok (.iadd, 1) := by decide +kernel
theorem dX9_stonesOf_27 : decode cX9_stonesOf 27 = .ok (.istore_n 2, 1) := by decide +kernel
theorem dX9_stonesOf_28 : decode cX9_stonesOf 28 = .ok (.iinc 3 1, 3) := by decide +kernel
theorem dX9_stonesOf_31 : decode cX9_stonesOf 31 = .ok (.goto (-27), 3) := by decide +kernel
theorem dX9_stonesOf_34 : decode cX9_stonesOf 34 = .ok (.iload_n 2, 1) := by decide +kernel
theorem dX9_stonesOf_35 : decode cX9_stonesOf 35 = .ok (.ireturn, 1) := by decide +kernel
theorem eX9_stonesOf_0 {l0 l1 l2 l3 : Option VV} {S : MM} : rn xX9_stonesOf (0, [l0, l1, l2, l3], [], S) = rn xX9_stonesOf (1, [l0, l1, l2, l3], [vI 0], S) := rn_step dX9_stonesOf_0 rfl rfl
theorem eX9_stonesOf_1 {a : Int} {w : Int} {l0 l2 l3 : Option VV} {S : MM} : rn xX9_stonesOf (1, [l0, some (vI w), l2, l3], [vI a], S) = rn xX9_stonesOf (2, [l0, some (vI w), some (vI a), l3], [], S) := rn_step dX9_stonesOf_1 rfl rfl
theorem eX9_stonesOf_2 {l0 l1 l2 l3 : Option VV} {S : MM} : rn xX9_stonesOf (2, [l0, l1, l2, l3], [], S) = rn xX9_stonesOf (3, [l0, l1, l2, l3], [vI 0], S) := rn_step dX9_stonesOf_2 rfl rfl
theorem eX9_stonesOf_3 {a : Int} {w : Int} {l0 l1 l3 : Option VV} {S : MM} : rn xX9_stonesOf (3, [l0, l1, some (vI w), l3], [vI a], S) = rn xX9_stonesOf (4, [l0, l1, some (vI w), some (vI a)], [], S) := rn_step dX9_stonesOf_3 rfl rfl
theorem eX9_stonesOf_4 {a : Int} {l0 l1 l2 : Option VV} {S : MM} : rn xX9_stonesOf (4, [l0, l1, l2, some (vI a)], [], S) = rn xX9_stonesOf (5, [l0, l1, l2, some (vI a)], [vI a], S) := rn_step dX9_stonesOf_4 rfl rfl
theorem eX9_stonesOf_5 {l0 l1 l2 l3 : Option VV} {v0 : VV} {S : MM} : rn xX9_stonesOf (5, [l0, l1, l2, l3], [v0], S) = rn xX9_stonesOf (8, [l0, l1, l2, l3], [vI 300, v0], S) := rn_step dX9_stonesOf_5 rfl rfl
theorem eX9_stonesOf_8 {a b : Int} {l0 l1 l2 l3 : Option VV} (h : -2147483648 ≤ a ∧ a ≤ 2147483647) (h1 : -2147483648 ≤ b ∧ b ≤ 2147483647) {S : MM} : rn xX9_stonesOf (8, [l0, l1, l2, l3], [vI b, vI a], S) = if a < b then rn xX9_stonesOf (11, [l0, l1, l2, l3], [], S) else rn xX9_stonesOf (34, [l0, l1, l2, l3], [], S) := q_icmp_ge dX9_stonesOf_8 (by decide) rfl h h1
theorem eX9_stonesOf_11 {a : Int} {l0 l1 l3 : Option VV} {S : MM} : rn xX9_stonesOf (11, [l0, l1, some (vI a), l3], [], S) = rn xX9_stonesOf (12, [l0, l1, some (vI a), l3], [vI a], S) := rn_step dX9_stonesOf_11 rfl rfl
theorem eX9_stonesOf_12 {a : Option Nat} {l1 l2 l3 : Option VV} {v0 : VV} {S : MM} : rn xX9_stonesOf (12, [some (.inr (.inl a)), l1, l2, l3], [v0], S) = rn xX9_stonesOf (13, [some (.inr (.inl a)), l1, l2, l3], [.inr (.inl a), v0], S) := rn_step dX9_stonesOf_12 rfl rfl
theorem eX9_stonesOf_13 {a : Int} {l0 l2 l3 : Option VV} {v0 v1 : VV} {S : MM} : rn xX9_stonesOf (13, [l0, some (vI a), l2, l3], [v0, v1], S) = rn xX9_stonesOf (14, [l0, some (vI a), l2, l3], [vI a, v0, v1], S) := rn_step dX9_stonesOf_13 rfl rfl
theorem eX9_stonesOf_14 {a : Int} {l0 l1 l2 : Option VV} {v0 v1 v2 : VV} {S : MM} : rn xX9_stonesOf (14, [l0, l1, l2, some (vI a)], [v0, v1, v2], S) = rn xX9_stonesOf (15, [l0, l1, l2, some (vI a)], [vI a, v0, v1, v2], S) := rn_step dX9_stonesOf_14 rfl rfl
theorem eX9_stonesOf_15 {a0 : Int} {a1 : Int} {l0 l1 l2 l3 : Option VV} {v3 : VV} {S : MM} : rn xX9_stonesOf (15, [l0, l1, l2, l3], [vI a1, vI a0, vR 593, v3], S) = (fX9_repeats [vR 593, vI a0, vI a1] S).bind (fun q => rn xX9_stonesOf (18, [l0, l1, l2, l3], q.1.toList ++ [v3], q.2)) := q_callV (n := 2) (as := [vI a0, vI a1]) (rest := [v3]) dX9_stonesOf_15 rfl rfl rfl rfl kd593
theorem eX9_stonesOf_18 {a : Int} {l0 l1 l2 l3 : Option VV} {v1 : VV} (h : -2147483648 ≤ a ∧ a ≤ 2147483647) {S : MM} : rn xX9_stonesOf (18, [l0, l1, l2, l3], [vI a, v1], S) = if 0 < a then rn xX9_stonesOf (21, [l0, l1, l2, l3], [v1], S) else rn xX9_stonesOf (25, [l0, l1, l2, l3], [v1], S) := q_if_le dX9_stonesOf_18 (by decide) rfl h
theorem eX9_stonesOf_21 {l0 l1 l2 l3 : Option VV} {v0 : VV} {S : MM} : rn xX9_stonesOf (21, [l0, l1, l2, l3], [v0], S) = rn xX9_stonesOf (22, [l0, l1, l2, l3], [vI 1, v0], S) := rn_step dX9_stonesOf_21 rfl rfl
theorem eX9_stonesOf_22 {l0 l1 l2 l3 : Option VV} {v0 v1 : VV} {S : MM} : rn xX9_stonesOf (22, [l0, l1, l2, l3], [v0, v1], S) = rn xX9_stonesOf (26, [l0, l1, l2, l3], [v0, v1], S) := rn_step dX9_stonesOf_22 rfl rfl
theorem eX9_stonesOf_25 {l0 l1 l2 l3 : Option VV} {v0 : VV} {S : MM} : rn xX9_stonesOf (25, [l0, l1, l2, l3], [v0], S) = rn xX9_stonesOf (26, [l0, l1, l2, l3], [vI 0, v0], S) := rn_step dX9_stonesOf_25 rfl rfl
theorem eX9_stonesOf_26 {a b : Int} {l0 l1 l2 l3 : Option VV} {S : MM} : rn xX9_stonesOf (26, [l0, l1, l2, l3], [vI b, vI a], S) = rn xX9_stonesOf (27, [l0, l1, l2, l3], [vI (a + b)], S) := rn_step dX9_stonesOf_26 rfl rfl
theorem eX9_stonesOf_27 {a : Int} {w : Int} {l0 l2 l3 : Option VV} {S : MM} : rn xX9_stonesOf (27, [l0, some (vI w), l2, l3], [vI a], S) = rn xX9_stonesOf (28, [l0, some (vI w), some (vI a), l3], [], S) := rn_step dX9_stonesOf_27 rfl rfl
theorem eX9_stonesOf_28 {a : Int} {w : Int} {l0 l1 : Option VV} {S : MM} : rn xX9_stonesOf (28, [l0, l1, some (vI w), some (vI a)], [], S) = rn xX9_stonesOf (31, [l0, l1, some (vI w), some (vI (a + 1))], [], S) := rn_step dX9_stonesOf_28 rfl rfl
theorem eX9_stonesOf_31 {l0 l1 l2 l3 : Option VV} {S : MM} : rn xX9_stonesOf (31, [l0, l1, l2, l3], [], S) = rn xX9_stonesOf (4, [l0, l1, l2, l3], [], S) := rn_step dX9_stonesOf_31 rfl rfl
theorem eX9_stonesOf_34 {a : Int} {l0 l1 l3 : Option VV} {S : MM} : rn xX9_stonesOf (34, [l0, l1, some (vI a), l3], [], S) = rn xX9_stonesOf (35, [l0, l1, some (vI a), l3], [vI a], S) := rn_step dX9_stonesOf_34 rfl rfl
theorem eX9_stonesOf_35 {z : Int} {l0 l1 l2 l3 : Option VV} {S : MM} : rn xX9_stonesOf (35, [l0, l1, l2, l3], [vI z], S) = some (some (vI z), S) := q_retI dX9_stonesOf_35 rfl
noncomputable def qlX9_keep : List CE := []
noncomputable def xX9_keep : XX := (cX9_keep, fcF fcl9, mcF qlX9_keep, 0)
noncomputable def fX9_keep : FN := fnX xX9_keep 3
set_option maxRecDepth 100000 in
theorem cwX9_keep : Cond.code yX9_keep cX9_keep 3 none ∈ lw_g := lw_gm 950 (by decide +kernel) (by decide +kernel)
set_option maxRecDepth 100000 in
theorem conX9_keep : Con yX9_keep cX9_keep 3 none { frames := 0, cells := 0, slots := 0, locals := 0 } fX9_keep := con_of (X := xX9_keep) (own := "LeapStonesModel") (ql := qlX9_keep) (by decide) rfl FOK9 rfl (fun _ h => absurd h List.not_mem_nil) (Or.inl ⟨rfl, rfl⟩)
theorem uX9_keep {i : Nat} {S : MM} : fX9_keep [vR i] S = rn xX9_keep (0, [some (vR i), none, none], [], S) := rfl
theorem dX9_keep_0 : decode cX9_keep 0 = .ok (.aload_n 0, 1) := by decide +kernel
theorem dX9_keep_1 : decode cX9_keep 1 = .ok (.getfield 43, 3) := by decide +kernel
theorem dX9_keep_4 : decode cX9_keep 4 = .ok (.bipush 6, 2) := by decide +kernel
theorem dX9_keep_6 : decode cX9_keep 6 = .ok (.if_icmp .ne 26, 3) := by decide +kernel
theorem dX9_keep_9 : decode cX9_keep 9 = .ok (.aload_n 0, 1) := by decide +kernel
theorem dX9_keep_10 : decode cX9_keep 10 = .ok (.aload_n 0, 1) := by decide +kernel
theorem dX9_keep_11 : decode cX9_keep 11 = .ok (.getfield 47, 3) := by decide +kernel
theorem dX9_keep_14 : decode cX9_keep 14 = .ok (.iconst 1, 1) := by decide +kernel
theorem dX9_keep_15 : decode cX9_keep 15 = .ok (.iadd, 1) := by decide +kernel
theorem dX9_keep_16 : decode cX9_keep 16 = .ok (.bipush 6, 2) := by decide +kernel
theorem dX9_keep_18 : decode cX9_keep 18 = .ok (.irem, 1) := by decide +kernel
theorem dX9_keep_19 : decode cX9_keep 19 = .ok (.putfield 47, 3) := by decide +kernel
theorem dX9_keep_22 : decode cX9_keep 22 = .ok (.aload_n 0, 1) := by decide +kernel
theorem dX9_keep_23 : decode cX9_keep 23 = .ok (.dup, 1) := by decide +kernel
theorem dX9_keep_24 : decode cX9_keep 24 = .ok (.getfield 43, 3) := by decide +kernel
theorem dX9_keep_27 : decode cX9_keep 27 = .ok (.iconst 1, 1) := by decide +kernel
theorem dX9_keep_28 : decode cX9_keep 28 = .ok (.isub, 1) := by decide +kernel
theorem dX9_keep_29 : decode cX9_keep 29 = .ok (.putfield 43, 3) := by decide +kernel
theorem dX9_keep_32 : decode cX9_keep 32 = .ok (.aload_n 0, 1) := by decide +kernel
theorem dX9_keep_33 : decode cX9_keep 33 = .ok (.getfield 47, 3) := by decide +kernel
theorem dX9_keep_36 : decode cX9_keep 36 = .ok (.aload_n 0, 1) := by decide +kernel
theorem dX9_keep_37 : decode cX9_keep 37 = .ok (.getfield 43, 3) := by decide +kernel
theorem dX9_keep_40 : decode cX9_keep 40 = .ok (.iadd, 1) := by decide +kernel
theorem dX9_keep_41 : decode cX9_keep 41 = .ok (.bipush 6, 2) := by decide +kernel
theorem dX9_keep_43 : decode cX9_keep 43 = .ok (.irem, 1) := by decide +kernel
theorem dX9_keep_44 : decode cX9_keep 44 = .ok (.istore_n 1, 1) := by decide +kernel
theorem dX9_keep_45 : decode cX9_keep 45 = .ok (.iconst 0, 1) := by decide +kernel
theorem dX9_keep_46 : decode cX9_keep 46 = .ok (.istore_n 2, 1) := by decide +kernel
theorem dX9_keep_47 : decode cX9_keep 47 = .ok (.iload_n 2, 1) := by decide +kernel
theorem dX9_keep_48 : decode cX9_keep 48 = .ok (.sipush 4825, 3) := by decide +kernel
theorem dX9_keep_51 : decode cX9_keep 51 = .ok (.if_icmp .ge 27, 3) := by decide +kernel
theorem dX9_keep_54 : decode cX9_keep 54 = .ok (.aload_n 0, 1) := by decide +kernel
theorem dX9_keep_55 : decode cX9_keep 55 = .ok (.getfield 13, 3) := by decide +kernel
theorem dX9_keep_58 : decode cX9_keep 58 = .ok (.sipush 4825, 3) := by decide +kernel
theorem dX9_keep_61 : decode cX9_keep 61 = .ok (.iload_n 1, 1) := by decide +kernel
theorem dX9_keep_62 : decode cX9_keep 62 = .ok (.imul, 1) := by decide +kernel
theorem dX9_keep_63 : decode cX9_keep 63 = .ok (.iload_n 2, 1) := by decide +kernel
theorem dX9_keep_64 : decode cX9_keep 64 = .ok (.iadd, 1) := by decide +kernel
theorem dX9_keep_65 : decode cX9_keep 65 = .ok (.aload_n 0, 1) := by decide +kernel
theorem dX9_keep_66 : decode cX9_keep 66 = .ok (.getfield 7, 3) := by decide +kernel
theorem dX9_keep_69 : decode cX9_keep 69 = .ok (.iload_n 2, 1) := by decide +kernel
theorem dX9_keep_70 : decode cX9_keep 70 = .ok (.iaload, 1) := by decide +kernel
theorem dX9_keep_71 : decode cX9_keep 71 = .ok (.iastore, 1) := by decide +kernel
theorem dX9_keep_72 : decode cX9_keep 72 = .ok (.iinc 2 1, 3) := by decide +kernel
theorem dX9_keep_75 : decode cX9_keep 75 = .ok (.goto (-28), 3) := by decide +kernel
theorem dX9_keep_78 : decode cX9_keep 78 = .ok (.aload_n 0, 1) := by decide +kernel
theorem dX9_keep_79 : decode cX9_keep 79 = .ok (.dup, 1) := by decide +kernel
theorem dX9_keep_80 : decode cX9_keep 80 = .ok (.getfield 43, 3) := by decide +kernel
theorem dX9_keep_83 : decode cX9_keep 83 = .ok (.iconst 1, 1) := by decide +kernel
theorem dX9_keep_84 : decode cX9_keep 84 = .ok (.iadd, 1) := by decide +kernel
theorem dX9_keep_85 : decode cX9_keep 85 = .ok (.putfield 43, 3) := by decide +kernel
theorem dX9_keep_88 : decode cX9_keep 88 = .ok (.return_, 1) := by decide +kernel
theorem eX9_keep_0 {a : Option Nat} {l1 l2 : Option VV} {S : MM} : rn xX9_keep (0, [some (.inr (.inl a)), l1, l2], [], S) = rn xX9_keep (1, [some (.inr (.inl a)), l1, l2], [.inr (.inl a)], S) := rn_step dX9_keep_0 rfl rfl
theorem eX9_keep_1 {l0 l1 l2 : Option VV} {S : MM} : rn xX9_keep (1, [l0, l1, l2], [vR 593], S) = rn xX9_keep (4, [l0, l1, l2], [vI (S 593 3)], S) := q_getI dX9_keep_1 rfl ⟨⟨by decide, by decide⟩, by decide⟩ kd593
theorem eX9_keep_4 {l0 l1 l2 : Option VV} {v0 : VV} {S : MM} : rn xX9_keep (4, [l0, l1, l2], [v0], S) = rn xX9_keep (6, [l0, l1, l2], [vI 6, v0], S) := rn_step dX9_keep_4 rfl rfl
theorem eX9_keep_6 {a b : Int} {l0 l1 l2 : Option VV} (h : -2147483648 ≤ a ∧ a ≤ 2147483647) (h1 : -2147483648 ≤ b ∧ b ≤ 2147483647) {S : MM} : rn xX9_keep (6, [l0, l1, l2], [vI b, vI a], S) = if a = b then rn xX9_keep (9, [l0, l1, l2], [], S) else rn xX9_keep (32, [l0, l1, l2], [], S) := q_icmp_ne dX9_keep_6 (by decide) rfl h h1
theorem eX9_keep_9 {a : Option Nat} {l1 l2 : Option VV} {S : MM} : rn xX9_keep (9, [some (.inr (.inl a)), l1, l2], [], S) = rn xX9_keep (10, [some (.inr (.inl a)), l1, l2], [.inr (.inl a)], S) := rn_step dX9_keep_9 rfl rfl
theorem eX9_keep_10 {a : Option Nat} {l1 l2 : Option VV} {v0 : VV} {S : MM} : rn xX9_keep (10, [some (.inr (.inl a)), l1, l2], [v0], S) = rn xX9_keep (11, [some (.inr (.inl a)), l1, l2], [.inr (.inl a), v0], S) := rn_step dX9_keep_10 rfl rfl
theorem eX9_keep_11 {l0 l1 l2 : Option VV} {v1 : VV} {S : MM} : rn xX9_keep (11, [l0, l1, l2], [vR 593, v1], S) = rn xX9_keep (14, [l0, l1, l2], [vI (S 593 2), v1], S) := q_getI dX9_keep_11 rfl ⟨⟨by decide, by decide⟩, by decide⟩ kd593
theorem eX9_keep_14 {l0 l1 l2 : Option VV} {v0 v1 : VV} {S : MM} : rn xX9_keep (14, [l0, l1, l2], [v0, v1], S) = rn xX9_keep (15, [l0, l1, l2], [vI 1, v0, v1], S) := rn_step dX9_keep_14 rfl rfl
theorem eX9_keep_15 {a b : Int} {l0 l1 l2 : Option VV} {v2 : VV} {S : MM} : rn xX9_keep (15, [l0, l1, l2], [vI b, vI a, v2], S) = rn xX9_keep (16, [l0, l1, l2], [vI (a + b), v2], S) := rn_step dX9_keep_15 rfl rfl
theorem eX9_keep_16 {l0 l1 l2 : Option VV} {v0 v1 : VV} {S : MM} : rn xX9_keep (16, [l0, l1, l2], [v0, v1], S) = rn xX9_keep (18, [l0, l1, l2], [vI 6, v0, v1], S) := rn_step dX9_keep_16 rfl rfl
theorem eX9_keep_18 {a : Int} {l0 l1 l2 : Option VV} {v2 : VV} (h0 : 0 ≤ a) (h1 : a ≤ 2147483647) {S : MM} : rn xX9_keep (18, [l0, l1, l2], [vI 6, vI a, v2], S) = rn xX9_keep (19, [l0, l1, l2], [vI (a % 6), v2], S) := q_irem dX9_keep_18 ⟨by decide, by decide⟩ h0 h1
theorem eX9_keep_19 {z : Int} {l0 l1 l2 : Option VV} {S : MM} : rn xX9_keep (19, [l0, l1, l2], [vI z, vR 593], S) = rn xX9_keep (22, [l0, l1, l2], [], updM S 593 2 z) := q_put dX9_keep_19 rfl ⟨by decide, by decide⟩ rfl kd593
theorem eX9_keep_22 {a : Option Nat} {l1 l2 : Option VV} {S : MM} : rn xX9_keep (22, [some (.inr (.inl a)), l1, l2], [], S) = rn xX9_keep (23, [some (.inr (.inl a)), l1, l2], [.inr (.inl a)], S) := rn_step dX9_keep_22 rfl rfl
theorem eX9_keep_23 {a : Option Nat} {l0 l1 l2 : Option VV} {S : MM} : rn xX9_keep (23, [l0, l1, l2], [.inr (.inl a)], S) = rn xX9_keep (24, [l0, l1, l2], [.inr (.inl a), .inr (.inl a)], S) := rn_step dX9_keep_23 rfl rfl
theorem eX9_keep_24 {l0 l1 l2 : Option VV} {v1 : VV} {S : MM} : rn xX9_keep (24, [l0, l1, l2], [vR 593, v1], S) = rn xX9_keep (27, [l0, l1, l2], [vI (S 593 3), v1], S) := q_getI dX9_keep_24 rfl ⟨⟨by decide, by decide⟩, by decide⟩ kd593
theorem eX9_keep_27 {l0 l1 l2 : Option VV} {v0 v1 : VV} {S : MM} : rn xX9_keep (27, [l0, l1, l2], [v0, v1], S) = rn xX9_keep (28, [l0, l1, l2], [vI 1, v0, v1], S) := rn_step dX9_keep_27 rfl rfl
theorem eX9_keep_28 {a b : Int} {l0 l1 l2 : Option VV} {v2 : VV} {S : MM} : rn xX9_keep (28, [l0, l1, l2], [vI b, vI a, v2], S) = rn xX9_keep (29, [l0, l1, l2], [vI (a - b), v2], S) := rn_step dX9_keep_28 rfl rfl
theorem eX9_keep_29 {z : Int} {l0 l1 l2 : Option VV} {S : MM} : rn xX9_keep (29, [l0, l1, l2], [vI z, vR 593], S) = rn xX9_keep (32, [l0, l1, l2], [], updM S 593 3 z) := q_put dX9_keep_29 rfl ⟨by decide, by decide⟩ rfl kd593
theorem eX9_keep_32 {a : Option Nat} {l1 l2 : Option VV} {S : MM} : rn xX9_keep (32, [some (.inr (.inl a)), l1, l2], [], S) = rn xX9_keep (33, [some (.inr (.inl a)), l1, l2], [.inr (.inl a)], S) := rn_step dX9_keep_32 rfl rfl
theorem eX9_keep_33 {l0 l1 l2 : Option VV} {S : MM} : rn xX9_keep (33, [l0, l1, l2], [vR 593], S) = rn xX9_keep (36, [l0, l1, l2], [vI (S 593 2)], S) := q_getI dX9_keep_33 rfl ⟨⟨by decide, by decide⟩, by decide⟩ kd593
theorem eX9_keep_36 {a : Option Nat} {l1 l2 : Option VV} {v0 : VV} {S : MM} : rn xX9_keep (36, [some (.inr (.inl a)), l1, l2], [v0], S) = rn xX9_keep (37, [some (.inr (.inl a)), l1, l2], [.inr (.inl a), v0], S) := rn_step dX9_keep_36 rfl rfl
theorem eX9_keep_37 {l0 l1 l2 : Option VV} {v1 : VV} {S : MM} : rn xX9_keep (37, [l0, l1, l2], [vR 593, v1], S) = rn xX9_keep (40, [l0, l1, l2], [vI (S 593 3), v1], S) := q_getI dX9_keep_37 rfl ⟨⟨by decide, by decide⟩, by decide⟩ kd593
theorem eX9_keep_40 {a b : Int} {l0 l1 l2 : Option VV} {S : MM} : rn xX9_keep (40, [l0, l1, l2], [vI b, vI a], S) = rn xX9_keep (41, [l0, l1, l2], [vI (a + b)], S) := rn_step dX9_keep_40 rfl rfl
theorem eX9_keep_41 {l0 l1 l2 : Option VV} {v0 : VV} {S : MM} : rn xX9_keep (41, [l0, l1, l2], [v0], S) = rn xX9_keep (43, [l0, l1, l2], [vI 6, v0], S) := rn_step dX9_keep_41 rfl rfl
theorem eX9_keep_43 {a : Int} {l0 l1 l2 : Option VV} (h0 : 0 ≤ a) (h1 : a ≤ 2147483647) {S : MM} : rn xX9_keep (43, [l0, l1, l2], [vI 6, vI a], S) = rn xX9_keep (44, [l0, l1, l2], [vI (a % 6)], S) := q_irem dX9_keep_43 ⟨by decide, by decide⟩ h0 h1
theorem eX9_keep_44 {a : Int} {w : Option Nat} {l1 l2 : Option VV} {S : MM} : rn xX9_keep (44, [some (.inr (.inl w)), l1, l2], [vI a], S) = rn xX9_keep (45, [some (.inr (.inl w)), some (vI a), l2], [], S) := rn_step dX9_keep_44 rfl rfl
theorem eX9_keep_45 {l0 l1 l2 : Option VV} {S : MM} : rn xX9_keep (45, [l0, l1, l2], [], S) = rn xX9_keep (46, [l0, l1, l2], [vI 0], S) := rn_step dX9_keep_45 rfl rfl
theorem eX9_keep_46 {a : Int} {w : Int} {l0 l2 : Option VV} {S : MM} : rn xX9_keep (46, [l0, some (vI w), l2], [vI a], S) = rn xX9_keep (47, [l0, some (vI w), some (vI a)], [], S) := rn_step dX9_keep_46 rfl rfl
theorem eX9_keep_47 {a : Int} {l0 l1 : Option VV} {S : MM} : rn xX9_keep (47, [l0, l1, some (vI a)], [], S) = rn xX9_keep (48, [l0, l1, some (vI a)], [vI a], S) := rn_step dX9_keep_47 rfl rfl
theorem eX9_keep_48 {l0 l1 l2 : Option VV} {v0 : VV} {S : MM} : rn xX9_keep (48, [l0, l1, l2], [v0], S) = rn xX9_keep (51, [l0, l1, l2], [vI 4825, v0], S) := rn_step dX9_keep_48 rfl rfl
theorem eX9_keep_51 {a b : Int} {l0 l1 l2 : Option VV} (h : -2147483648 ≤ a ∧ a ≤ 2147483647) (h1 : -2147483648 ≤ b ∧ b ≤ 2147483647) {S : MM} : rn xX9_keep (51, [l0, l1, l2], [vI b, vI a], S) = if a < b then rn xX9_keep (54, [l0, l1, l2], [], S) else rn xX9_keep (78, [l0, l1, l2], [], S) := q_icmp_ge dX9_keep_51 (by decide) rfl h h1
theorem eX9_keep_54 {a : Option Nat} {l1 l2 : Option VV} {S : MM} : rn xX9_keep (54, [some (.inr (.inl a)), l1, l2], [], S) = rn xX9_keep (55, [some (.inr (.inl a)), l1, l2], [.inr (.inl a)], S) := rn_step dX9_keep_54 rfl rfl
theorem eX9_keep_55 {l0 l1 l2 : Option VV} {S : MM} : rn xX9_keep (55, [l0, l1, l2], [vR 593], S) = rn xX9_keep (58, [l0, l1, l2], [vR 595], S) := q_getR dX9_keep_55 rfl ⟨⟨by decide, by decide⟩, by decide⟩ (fun _ => by decide +kernel) kd593
theorem eX9_keep_58 {l0 l1 l2 : Option VV} {v0 : VV} {S : MM} : rn xX9_keep (58, [l0, l1, l2], [v0], S) = rn xX9_keep (61, [l0, l1, l2], [vI 4825, v0], S) := rn_step dX9_keep_58 rfl rfl
theorem eX9_keep_61 {a : Int} {l0 l2 : Option VV} {v0 v1 : VV} {S : MM} : rn xX9_keep (61, [l0, some (vI a), l2], [v0, v1], S) = rn xX9_keep (62, [l0, some (vI a), l2], [vI a, v0, v1], S) := rn_step dX9_keep_61 rfl rfl
theorem eX9_keep_62 {a b : Int} {l0 l1 l2 : Option VV} {v2 : VV} {S : MM} : rn xX9_keep (62, [l0, l1, l2], [vI b, vI a, v2], S) = rn xX9_keep (63, [l0, l1, l2], [vI (a * b), v2], S) := rn_step dX9_keep_62 rfl rfl
theorem eX9_keep_63 {a : Int} {l0 l1 : Option VV} {v0 v1 : VV} {S : MM} : rn xX9_keep (63, [l0, l1, some (vI a)], [v0, v1], S) = rn xX9_keep (64, [l0, l1, some (vI a)], [vI a, v0, v1], S) := rn_step dX9_keep_63 rfl rfl
theorem eX9_keep_64 {a b : Int} {l0 l1 l2 : Option VV} {v2 : VV} {S : MM} : rn xX9_keep (64, [l0, l1, l2], [vI b, vI a, v2], S) = rn xX9_keep (65, [l0, l1, l2], [vI (a + b), v2], S) := rn_step dX9_keep_64 rfl rfl
theorem eX9_keep_65 {a : Option Nat} {l1 l2 : Option VV} {v0 v1 : VV} {S : MM} : rn xX9_keep (65, [some (.inr (.inl a)), l1, l2], [v0, v1], S) = rn xX9_keep (66, [some (.inr (.inl a)), l1, l2], [.inr (.inl a), v0, v1], S) := rn_step dX9_keep_65 rfl rfl
theorem eX9_keep_66 {l0 l1 l2 : Option VV} {v1 v2 : VV} {S : MM} : rn xX9_keep (66, [l0, l1, l2], [vR 593, v1, v2], S) = rn xX9_keep (69, [l0, l1, l2], [vR 594, v1, v2], S) := q_getR dX9_keep_66 rfl ⟨⟨by decide, by decide⟩, by decide⟩ (fun _ => by decide +kernel) kd593
theorem eX9_keep_69 {a : Int} {l0 l1 : Option VV} {v0 v1 v2 : VV} {S : MM} : rn xX9_keep (69, [l0, l1, some (vI a)], [v0, v1, v2], S) = rn xX9_keep (70, [l0, l1, some (vI a)], [vI a, v0, v1, v2], S) := rn_step dX9_keep_69 rfl rfl
theorem eX9_keep_70 {i : Nat} {j : Int} {l0 l1 l2 : Option VV} {v2 v3 : VV} (h : kd i = 10) (h0 : 0 ≤ j) (h1 : j < alen i) {S : MM} : rn xX9_keep (70, [l0, l1, l2], [vI j, vR i, v2, v3], S) = rn xX9_keep (71, [l0, l1, l2], [vI (S i j.toNat), v2, v3], S) := q_iald dX9_keep_70 h h0 h1
theorem eX9_keep_70x {j : Int} {l0 l1 l2 : Option VV} {v2 v3 : VV} {S : MM} (h0 : 0 ≤ j) (h1 : j < S 604 0) : rn xX9_keep (70, [l0, l1, l2], [vI j, vR 602, v2, v3], S) = rn xX9_keep (71, [l0, l1, l2], [vI (S 602 j.toNat), v2, v3], S) := q_ialdX dX9_keep_70 h0 h1
theorem eX9_keep_70y {j : Int} {l0 l1 l2 : Option VV} {v2 v3 : VV} {S : MM} (h0 : 0 ≤ j) (h1 : j < S 604 1) : rn xX9_keep (70, [l0, l1, l2], [vI j, vR 603, v2, v3], S) = rn xX9_keep (71, [l0, l1, l2], [vI (S 603 j.toNat), v2, v3], S) := q_ialdY dX9_keep_70 h0 h1
theorem eX9_keep_71 {i : Nat} {j z : Int} {l0 l1 l2 : Option VV} (h : kd i = 10) (h0 : 0 ≤ j) (h1 : j < alen i) {S : MM} : rn xX9_keep (71, [l0, l1, l2], [vI z, vI j, vR i], S) = rn xX9_keep (72, [l0, l1, l2], [], updM S i j.toNat z) := q_iast dX9_keep_71 h h0 h1
theorem eX9_keep_72 {a : Int} {w : Int} {l0 : Option VV} {S : MM} : rn xX9_keep (72, [l0, some (vI w), some (vI a)], [], S) = rn xX9_keep (75, [l0, some (vI w), some (vI (a + 1))], [], S) := rn_step dX9_keep_72 rfl rfl
theorem eX9_keep_75 {l0 l1 l2 : Option VV} {S : MM} : rn xX9_keep (75, [l0, l1, l2], [], S) = rn xX9_keep (47, [l0, l1, l2], [], S) := rn_step dX9_keep_75 rfl rfl
theorem eX9_keep_78 {a : Option Nat} {l1 l2 : Option VV} {S : MM} : rn xX9_keep (78, [some (.inr (.inl a)), l1, l2], [], S) = rn xX9_keep (79, [some (.inr (.inl a)), l1, l2], [.inr (.inl a)], S) := rn_step dX9_keep_78 rfl rfl
theorem eX9_keep_79 {a : Option Nat} {l0 l1 l2 : Option VV} {S : MM} : rn xX9_keep (79, [l0, l1, l2], [.inr (.inl a)], S) = rn xX9_keep (80, [l0, l1, l2], [.inr (.inl a), .inr (.inl a)], S) := rn_step dX9_keep_79 rfl rfl
theorem eX9_keep_80 {l0 l1 l2 : Option VV} {v1 : VV} {S : MM} : rn xX9_keep (80, [l0, l1, l2], [vR 593, v1], S) = rn xX9_keep (83, [l0, l1, l2], [vI (S 593 3), v1], S) := q_getI dX9_keep_80 rfl ⟨⟨by decide, by decide⟩, by decide⟩ kd593
theorem eX9_keep_83 {l0 l1 l2 : Option VV} {v0 v1 : VV} {S : MM} : rn xX9_keep (83, [l0, l1, l2], [v0, v1], S) = rn xX9_keep (84, [l0, l1, l2], [vI 1, v0, v1], S) := rn_step dX9_keep_83 rfl rfl
theorem eX9_keep_84 {a b : Int} {l0 l1 l2 : Option VV} {v2 : VV} {S : MM} : rn xX9_keep (84, [l0, l1, l2], [vI b, vI a, v2], S) = rn xX9_keep (85, [l0, l1, l2], [vI (a + b), v2], S) := rn_step dX9_keep_84 rfl rfl
theorem eX9_keep_85 {z : Int} {l0 l1 l2 : Option VV} {S : MM} : rn xX9_keep (85, [l0, l1, l2], [vI z, vR 593], S) = rn xX9_keep (88, [l0, l1, l2], [], updM S 593 3 z) := q_put dX9_keep_85 rfl ⟨by decide, by decide⟩ rfl kd593
theorem eX9_keep_88 {l0 l1 l2 : Option VV} {S : MM} : rn xX9_keep (88, [l0, l1, l2], [], S) = some (none, S) := q_retV dX9_keep_88 rfl
noncomputable def qlX9_keepIf : List CE := [(0, 50, 9, 1, fX9_keep)]
noncomputable def xX9_keepIf : XX := (cX9_keepIf, fcF fcl9, mcF qlX9_keepIf, 0)
noncomputable def fX9_keepIf : FN := fnX xX9_keepIf 2
set_option maxRecDepth 100000 in
theorem cwX9_keepIf : Cond.code yX9_keepIf cX9_keepIf 2 none ∈ lw_g := lw_gm 998 (by decide +kernel) (by decide +kernel)
set_option maxRecDepth 100000 in
theorem conX9_keepIf : Con yX9_keepIf cX9_keepIf 2 none { frames := 1, cells := 0, slots := 0, locals := 22 } fX9_keepIf := con_of (X := xX9_keepIf) (own := "LeapStonesModel") (ql := qlX9_keepIf) (by decide) rfl FOK9 rfl (List.forall_mem_cons.mpr ⟨call_V conX9_keep cwX9_keep (lw_gl _ [947, 949, 20, 84] (by decide +kernel) (by decide +kernel)) (by decide) rfl ⟨by decide, by decide, by decide +kernel⟩ ⟨rfl, rfl⟩ ⟨by decide, by decide⟩ ⟨Nat.le_refl _, Nat.le_refl _⟩, fun _ h => absurd h List.not_mem_nil⟩) (Or.inl ⟨rfl, rfl⟩)
theorem uX9_keepIf {i : Nat} {a0 : Int} {S : MM} : fX9_keepIf [vR i, vI a0] S = rn xX9_keepIf (0, [some (vR i), some (vI a0)], [], S) := rfl
theorem dX9_keepIf_0 : decode cX9_keepIf 0 = .ok (.iload_n 1, 1) := by decide +kernel
theorem dX9_keepIf_1 : decode cX9_keepIf 1 = .ok (.ifCond .eq 7, 3) := by decide +kernel
theorem dX9_keepIf_4 : decode cX9_keepIf 4 = .ok (.aload_n 0, 1) := by decide +kernel
theorem dX9_keepIf_5 : decode cX9_keepIf 5 = .ok (.invokevirtual 50, 3) := by decide +kernel
theorem dX9_keepIf_8 : decode cX9_keepIf 8 = .ok (.return_, 1) := by decide +kernel
theorem eX9_keepIf_0 {a : Int} {l0 : Option VV} {S : MM} : rn xX9_keepIf (0, [l0, some (vI a)], [], S) = rn xX9_keepIf (1, [l0, some (vI a)], [vI a], S) := rn_step dX9_keepIf_0 rfl rfl
theorem eX9_keepIf_1 {a : Int} {l0 l1 : Option VV} (h : -2147483648 ≤ a ∧ a ≤ 2147483647) {S : MM} : rn xX9_keepIf (1, [l0, l1], [vI a], S) = if a = 0 then rn xX9_keepIf (8, [l0, l1], [], S) else rn xX9_keepIf (4, [l0, l1], [], S) := q_if_eq dX9_keepIf_1 (by decide) rfl h
theorem eX9_keepIf_4 {a : Option Nat} {l1 : Option VV} {S : MM} : rn xX9_keepIf (4, [some (.inr (.inl a)), l1], [], S) = rn xX9_keepIf (5, [some (.inr (.inl a)), l1], [.inr (.inl a)], S) := rn_step dX9_keepIf_4 rfl rfl
theorem eX9_keepIf_5 {l0 l1 : Option VV} {S : MM} : rn xX9_keepIf (5, [l0, l1], [vR 593], S) = (fX9_keep [vR 593] S).bind (fun q => rn xX9_keepIf (8, [l0, l1], q.1.toList ++ [], q.2)) := q_callV (n := 0) (as := []) (rest := []) dX9_keepIf_5 rfl rfl rfl rfl kd593
theorem eX9_keepIf_8 {l0 l1 : Option VV} {S : MM} : rn xX9_keepIf (8, [l0, l1], [], S) = some (none, S) := q_retV dX9_keepIf_8 rfl
noncomputable def qlX9_layAside : List CE := []
noncomputable def xX9_layAside : XX := (cX9_layAside, fcF fcl9, mcF qlX9_layAside, 0)
noncomputable def fX9_layAside : FN := fnX xX9_layAside 2
set_option maxRecDepth 100000 in
theorem cwX9_layAside : Cond.code yX9_layAside cX9_layAside 2 none ∈ lw_g := lw_gm 1170 (by decide +kernel) (by decide +kernel)
set_option maxRecDepth 100000 in
theorem conX9_layAside : Con yX9_layAside cX9_layAside 2 none { frames := 0, cells := 0, slots := 0, locals := 0 } fX9_layAside := con_of (X := xX9_layAside) (own := "LeapStonesModel") (ql := qlX9_layAside) (by decide) rfl FOK9 rfl (fun _ h => absurd h List.not_mem_nil) (Or.inl ⟨rfl, rfl⟩)
theorem uX9_layAside {i : Nat} {S : MM} : fX9_layAside [vR i] S = rn xX9_layAside (0, [some (vR i), none], [], S) := rfl
theorem dX9_layAside_0 : decode cX9_layAside 0 = .ok (.iconst 0, 1) := by decide +kernel
theorem dX9_layAside_1 : decode cX9_layAside 1 = .ok (.istore_n 1, 1) := by decide +kernel
theorem dX9_layAside_2 : decode cX9_layAside 2 = .ok (.iload_n 1, 1) := by decide +kernel
theorem dX9_layAside_3 : decode cX9_layAside 3 = .ok (.sipush 4825, 3) := by decide +kernel
theorem dX9_layAside_6 : decode cX9_layAside 6 = .ok (.if_icmp .ge 21, 3) := by decide +kernel
theorem dX9_layAside_9 : decode cX9_layAside 9 = .ok (.aload_n 0, 1) := by decide +kernel
theorem dX9_layAside_10 : decode cX9_layAside 10 = .ok (.getfield 23, 3) := by decide +kernel
theorem dX9_layAside_13 : decode cX9_layAside 13 = .ok (.iload_n 1, 1) := by decide +kernel
theorem dX9_layAside_14 : decode cX9_layAside 14 = .ok (.aload_n 0, 1) := by decide +kernel
theorem dX9_layAside_15 : decode cX9_layAside 15 = .ok (.getfield 7, 3) := by decide +kernel
theorem dX9_layAside_18 : decode cX9_layAside 18 = .ok (.iload_n 1, 1) := by decide +kernel
theorem dX9_layAside_19 : decode cX9_layAside 19 = .ok (.iaload, 1) := by decide +kernel
theorem dX9_layAside_20 : decode cX9_layAside 20 = .ok (.iastore, 1) := by decide +kernel
theorem dX9_layAside_21 : decode cX9_layAside 21 = .ok (.iinc 1 1, 3) := by decide +kernel
theorem dX9_layAside_24 : decode cX9_layAside 24 = .ok (.goto (-22), 3) := by decide +kernel
theorem dX9_layAside_27 : decode cX9_layAside 27 = .ok (.return_, 1) := by decide +kernel
theorem eX9_layAside_0 {l0 l1 : Option VV} {S : MM} : rn xX9_layAside (0, [l0, l1], [], S) = rn xX9_layAside (1, [l0, l1], [vI 0], S) := rn_step dX9_layAside_0 rfl rfl
theorem eX9_layAside_1 {a : Int} {w : Option Nat} {l1 : Option VV} {S : MM} : rn xX9_layAside (1, [some (.inr (.inl w)), l1], [vI a], S) = rn xX9_layAside (2, [some (.inr (.inl w)), some (vI a)], [], S) := rn_step dX9_layAside_1 rfl rfl
theorem eX9_layAside_2 {a : Int} {l0 : Option VV} {S : MM} : rn xX9_layAside (2, [l0, some (vI a)], [], S) = rn xX9_layAside (3, [l0, some (vI a)], [vI a], S) := rn_step dX9_layAside_2 rfl rfl
theorem eX9_layAside_3 {l0 l1 : Option VV} {v0 : VV} {S : MM} : rn xX9_layAside (3, [l0, l1], [v0], S) = rn xX9_layAside (6, [l0, l1], [vI 4825, v0], S) := rn_step dX9_layAside_3 rfl rfl
theorem eX9_layAside_6 {a b : Int} {l0 l1 : Option VV} (h : -2147483648 ≤ a ∧ a ≤ 2147483647) (h1 : -2147483648 ≤ b ∧ b ≤ 2147483647) {S : MM} : rn xX9_layAside (6, [l0, l1], [vI b, vI a], S) = if a < b then rn xX9_layAside (9, [l0, l1], [], S) else rn xX9_layAside (27, [l0, l1], [], S) := q_icmp_ge dX9_layAside_6 (by decide) rfl h h1
theorem eX9_layAside_9 {a : Option Nat} {l1 : Option VV} {S : MM} : rn xX9_layAside (9, [some (.inr (.inl a)), l1], [], S) = rn xX9_layAside (10, [some (.inr (.inl a)), l1], [.inr (.inl a)], S) := rn_step dX9_layAside_9 rfl rfl
theorem eX9_layAside_10 {l0 l1 : Option VV} {S : MM} : rn xX9_layAside (10, [l0, l1], [vR 593], S) = rn xX9_layAside (13, [l0, l1], [vR 598], S) := q_getR dX9_layAside_10 rfl ⟨⟨by decide, by decide⟩, by decide⟩ (fun _ => by decide +kernel) kd593
theorem eX9_layAside_13 {a : Int} {l0 : Option VV} {v0 : VV} {S : MM} : rn xX9_layAside (13, [l0, some (vI a)], [v0], S) = rn xX9_layAside (14, [l0, some (vI a)], [vI a, v0], S) := rn_step dX9_layAside_13 rfl rfl
theorem eX9_layAside_14 {a : Option Nat} {l1 : Option VV} {v0 v1 : VV} {S : MM} : rn xX9_layAside (14, [some (.inr (.inl a)), l1], [v0, v1], S) = rn xX9_layAside (15, [some (.inr (.inl a)), l1], [.inr (.inl a), v0, v1], S) := rn_step dX9_layAside_14 rfl rfl
theorem eX9_layAside_15 {l0 l1 : Option VV} {v1 v2 : VV} {S : MM} : rn xX9_layAside (15, [l0, l1], [vR 593, v1, v2], S) = rn xX9_layAside (18, [l0, l1], [vR 594, v1, v2], S) := q_getR dX9_layAside_15 rfl ⟨⟨by decide, by decide⟩, by decide⟩ (fun _ => by decide +kernel) kd593
theorem eX9_layAside_18 {a : Int} {l0 : Option VV} {v0 v1 v2 : VV} {S : MM} : rn xX9_layAside (18, [l0, some (vI a)], [v0, v1, v2], S) = rn xX9_layAside (19, [l0, some (vI a)], [vI a, v0, v1, v2], S) := rn_step dX9_layAside_18 rfl rfl
theorem eX9_layAside_19 {i : Nat} {j : Int} {l0 l1 : Option VV} {v2 v3 : VV} (h : kd i = 10) (h0 : 0 ≤ j) (h1 : j < alen i) {S : MM} : rn xX9_layAside (19, [l0, l1], [vI j, vR i, v2, v3], S) = rn xX9_layAside (20, [l0, l1], [vI (S i j.toNat), v2, v3], S) := q_iald dX9_layAside_19 h h0 h1
theorem eX9_layAside_19x {j : Int} {l0 l1 : Option VV} {v2 v3 : VV} {S : MM} (h0 : 0 ≤ j) (h1 : j < S 604 0) : rn xX9_layAside (19, [l0, l1], [vI j, vR 602, v2, v3], S) = rn xX9_layAside (20, [l0, l1], [vI (S 602 j.toNat), v2, v3], S) := q_ialdX dX9_layAside_19 h0 h1
theorem eX9_layAside_19y {j : Int} {l0 l1 : Option VV} {v2 v3 : VV} {S : MM} (h0 : 0 ≤ j) (h1 : j < S 604 1) : rn xX9_layAside (19, [l0, l1], [vI j, vR 603, v2, v3], S) = rn xX9_layAside (20, [l0, l1], [vI (S 603 j.toNat), v2, v3], S) := q_ialdY dX9_layAside_19 h0 h1
theorem eX9_layAside_20 {i : Nat} {j z : Int} {l0 l1 : Option VV} (h : kd i = 10) (h0 : 0 ≤ j) (h1 : j < alen i) {S : MM} : rn xX9_layAside (20, [l0, l1], [vI z, vI j, vR i], S) = rn xX9_layAside (21, [l0, l1], [], updM S i j.toNat z) := q_iast dX9_layAside_20 h h0 h1
theorem eX9_layAside_21 {a : Int} {w : Option Nat} {S : MM} : rn xX9_layAside (21, [some (.inr (.inl w)), some (vI a)], [], S) = rn xX9_layAside (24, [some (.inr (.inl w)), some (vI (a + 1))], [], S) := rn_step dX9_layAside_21 rfl rfl
theorem eX9_layAside_24 {l0 l1 : Option VV} {S : MM} : rn xX9_layAside (24, [l0, l1], [], S) = rn xX9_layAside (2, [l0, l1], [], S) := rn_step dX9_layAside_24 rfl rfl
theorem eX9_layAside_27 {l0 l1 : Option VV} {S : MM} : rn xX9_layAside (27, [l0, l1], [], S) = some (none, S) := q_retV dX9_layAside_27 rfl
noncomputable def qlX9_layBack : List CE := []
noncomputable def xX9_layBack : XX := (cX9_layBack, fcF fcl9, mcF qlX9_layBack, 0)
noncomputable def fX9_layBack : FN := fnX xX9_layBack 2
set_option maxRecDepth 100000 in
theorem cwX9_layBack : Cond.code yX9_layBack cX9_layBack 2 none ∈ lw_g := lw_gm 1174 (by decide +kernel) (by decide +kernel)
set_option maxRecDepth 100000 in
theorem conX9_layBack : Con yX9_layBack cX9_layBack 2 none { frames := 0, cells := 0, slots := 0, locals := 0 } fX9_layBack := con_of (X := xX9_layBack) (own := "LeapStonesModel") (ql := qlX9_layBack) (by decide) rfl FOK9 rfl (fun _ h => absurd h List.not_mem_nil) (Or.inl ⟨rfl, rfl⟩)
theorem uX9_layBack {i : Nat} {S : MM} : fX9_layBack [vR i] S = rn xX9_layBack (0, [some (vR i), none], [], S) := rfl
theorem dX9_layBack_0 : decode cX9_layBack 0 = .ok (.iconst 0, 1) := by decide +kernel
theorem dX9_layBack_1 : decode cX9_layBack 1 = .ok (.istore_n 1, 1) := by decide +kernel
theorem dX9_layBack_2 : decode cX9_layBack 2 = .ok (.iload_n 1, 1) := by decide +kernel
theorem dX9_layBack_3 : decode cX9_layBack 3 = .ok (.sipush 4825, 3) := by decide +kernel
theorem dX9_layBack_6 : decode cX9_layBack 6 = .ok (.if_icmp .ge 21, 3) := by decide +kernel
theorem dX9_layBack_9 : decode cX9_layBack 9 = .ok (.aload_n 0, 1) := by decide +kernel
theorem dX9_layBack_10 : decode cX9_layBack 10 = .ok (.getfield 7, 3) := by decide +kernel
theorem dX9_layBack_13 : decode cX9_layBack 13 = .ok (.iload_n 1, 1) := by decide +kernel
theorem dX9_layBack_14 : decode cX9_layBack 14 = .ok (.aload_n 0, 1) := by decide +kernel
theorem dX9_layBack_15 : decode cX9_layBack 15 = .ok (.getfield 23, 3) := by decide +kernel
theorem dX9_layBack_18 : decode cX9_layBack 18 = .ok (.iload_n 1, 1) := by decide +kernel
theorem dX9_layBack_19 : decode cX9_layBack 19 = .ok (.iaload, 1) := by decide +kernel
theorem dX9_layBack_20 : decode cX9_layBack 20 = .ok (.iastore, 1) := by decide +kernel
theorem dX9_layBack_21 : decode cX9_layBack 21 = .ok (.iinc 1 1, 3) := by decide +kernel
theorem dX9_layBack_24 : decode cX9_layBack 24 = .ok (.goto (-22), 3) := by decide +kernel
theorem dX9_layBack_27 : decode cX9_layBack 27 = .ok (.return_, 1) := by decide +kernel
theorem eX9_layBack_0 {l0 l1 : Option VV} {S : MM} : rn xX9_layBack (0, [l0, l1], [], S) = rn xX9_layBack (1, [l0, l1], [vI 0], S) := rn_step dX9_layBack_0 rfl rfl
theorem eX9_layBack_1 {a : Int} {w : Option Nat} {l1 : Option VV} {S : MM} : rn xX9_layBack (1, [some (.inr (.inl w)), l1], [vI a], S) = rn xX9_layBack (2, [some (.inr (.inl w)), some (vI a)], [], S) := rn_step dX9_layBack_1 rfl rfl
theorem eX9_layBack_2 {a : Int} {l0 : Option VV} {S : MM} : rn xX9_layBack (2, [l0, some (vI a)], [], S) = rn xX9_layBack (3, [l0, some (vI a)], [vI a], S) := rn_step dX9_layBack_2 rfl rfl
theorem eX9_layBack_3 {l0 l1 : Option VV} {v0 : VV} {S : MM} : rn xX9_layBack (3, [l0, l1], [v0], S) = rn xX9_layBack (6, [l0, l1], [vI 4825, v0], S) := rn_step dX9_layBack_3 rfl rfl
theorem eX9_layBack_6 {a b : Int} {l0 l1 : Option VV} (h : -2147483648 ≤ a ∧ a ≤ 2147483647) (h1 : -2147483648 ≤ b ∧ b ≤ 2147483647) {S : MM} : rn xX9_layBack (6, [l0, l1], [vI b, vI a], S) = if a < b then rn xX9_layBack (9, [l0, l1], [], S) else rn xX9_layBack (27, [l0, l1], [], S) := q_icmp_ge dX9_layBack_6 (by decide) rfl h h1
theorem eX9_layBack_9 {a : Option Nat} {l1 : Option VV} {S : MM} : rn xX9_layBack (9, [some (.inr (.inl a)), l1], [], S) = rn xX9_layBack (10, [some (.inr (.inl a)), l1], [.inr (.inl a)], S) := rn_step dX9_layBack_9 rfl rfl
theorem eX9_layBack_10 {l0 l1 : Option VV} {S : MM} : rn xX9_layBack (10, [l0, l1], [vR 593], S) = rn xX9_layBack (13, [l0, l1], [vR 594], S) := q_getR dX9_layBack_10 rfl ⟨⟨by decide, by decide⟩, by decide⟩ (fun _ => by decide +kernel) kd593
theorem eX9_layBack_13 {a : Int} {l0 : Option VV} {v0 : VV} {S : MM} : rn xX9_layBack (13, [l0, some (vI a)], [v0], S) = rn xX9_layBack (14, [l0, some (vI a)], [vI a, v0], S) := rn_step dX9_layBack_13 rfl rfl
theorem eX9_layBack_14 {a : Option Nat} {l1 : Option VV} {v0 v1 : VV} {S : MM} : rn xX9_layBack (14, [some (.inr (.inl a)), l1], [v0, v1], S) = rn xX9_layBack (15, [some (.inr (.inl a)), l1], [.inr (.inl a), v0, v1], S) := rn_step dX9_layBack_14 rfl rfl
theorem eX9_layBack_15 {l0 l1 : Option VV} {v1 v2 : VV} {S : MM} : rn xX9_layBack (15, [l0, l1], [vR 593, v1, v2], S) = rn xX9_layBack (18, [l0, l1], [vR 598, v1, v2], S) := q_getR dX9_layBack_15 rfl ⟨⟨by decide, by decide⟩, by decide⟩ (fun _ => by decide +kernel) kd593
theorem eX9_layBack_18 {a : Int} {l0 : Option VV} {v0 v1 v2 : VV} {S : MM} : rn xX9_layBack (18, [l0, some (vI a)], [v0, v1, v2], S) = rn xX9_layBack (19, [l0, some (vI a)], [vI a, v0, v1, v2], S) := rn_step dX9_layBack_18 rfl rfl
theorem eX9_layBack_19 {i : Nat} {j : Int} {l0 l1 : Option VV} {v2 v3 : VV} (h : kd i = 10) (h0 : 0 ≤ j) (h1 : j < alen i) {S : MM} : rn xX9_layBack (19, [l0, l1], [vI j, vR i, v2, v3], S) = rn xX9_layBack (20, [l0, l1], [vI (S i j.toNat), v2, v3], S) := q_iald dX9_layBack_19 h h0 h1
theorem eX9_layBack_19x {j : Int} {l0 l1 : Option VV} {v2 v3 : VV} {S : MM} (h0 : 0 ≤ j) (h1 : j < S 604 0) : rn xX9_layBack (19, [l0, l1], [vI j, vR 602, v2, v3], S) = rn xX9_layBack (20, [l0, l1], [vI (S 602 j.toNat), v2, v3], S) := q_ialdX dX9_layBack_19 h0 h1
theorem eX9_layBack_19y {j : Int} {l0 l1 : Option VV} {v2 v3 : VV} {S : MM} (h0 : 0 ≤ j) (h1 : j < S 604 1) : rn xX9_layBack (19, [l0, l1], [vI j, vR 603, v2, v3], S) = rn xX9_layBack (20, [l0, l1], [vI (S 603 j.toNat), v2, v3], S) := q_ialdY dX9_layBack_19 h0 h1
theorem eX9_layBack_20 {i : Nat} {j z : Int} {l0 l1 : Option VV} (h : kd i = 10) (h0 : 0 ≤ j) (h1 : j < alen i) {S : MM} : rn xX9_layBack (20, [l0, l1], [vI z, vI j, vR i], S) = rn xX9_layBack (21, [l0, l1], [], updM S i j.toNat z) := q_iast dX9_layBack_20 h h0 h1
theorem eX9_layBack_21 {a : Int} {w : Option Nat} {S : MM} : rn xX9_layBack (21, [some (.inr (.inl w)), some (vI a)], [], S) = rn xX9_layBack (24, [some (.inr (.inl w)), some (vI (a + 1))], [], S) := rn_step dX9_layBack_21 rfl rfl
theorem eX9_layBack_24 {l0 l1 : Option VV} {S : MM} : rn xX9_layBack (24, [l0, l1], [], S) = rn xX9_layBack (2, [l0, l1], [], S) := rn_step dX9_layBack_24 rfl rfl
theorem eX9_layBack_27 {l0 l1 : Option VV} {S : MM} : rn xX9_layBack (27, [l0, l1], [], S) = some (none, S) := q_retV dX9_layBack_27 rfl
noncomputable def qlX9_firstFrom : List CE := [(0, 39, 9, 3, fX9_repeats)]
noncomputable def xX9_firstFrom : XX := (cX9_firstFrom, fcF fcl9, mcF qlX9_firstFrom, 1)
noncomputable def fX9_firstFrom : FN := fnX xX9_firstFrom 4
set_option maxRecDepth 100000 in
theorem cwX9_firstFrom : Cond.code yX9_firstFrom cX9_firstFrom 4 (some .int) ∈ lw_g := lw_gm 958 (by decide +kernel) (by decide +kernel)
set_option maxRecDepth 100000 in
theorem conX9_firstFrom : Con yX9_firstFrom cX9_firstFrom 4 (some .int) { frames := 1, cells := 0, slots := 0, locals := 22 } fX9_firstFrom := con_of (X := xX9_firstFrom) (own := "LeapStonesModel") (ql := qlX9_firstFrom) (by decide) rfl FOK9 rfl (List.forall_mem_cons.mpr ⟨call_V conX9_repeats cwX9_repeats (lw_gl _ [959, 961, 23, 84] (by decide +kernel) (by decide +kernel)) (by decide) rfl ⟨by decide, by decide, by decide +kernel⟩ ⟨rfl, rfl⟩ ⟨by decide, by decide⟩ ⟨Nat.le_refl _, Nat.le_refl _⟩, fun _ h => absurd h List.not_mem_nil⟩) (Or.inr (Or.inl ⟨rfl, rfl⟩))
theorem uX9_firstFrom {i : Nat} {a0 : Int} {a1 : Int} {S : MM} : fX9_firstFrom [vR i, vI a0, vI a1] S = rn xX9_firstFrom (0, [some (vR i), some (vI a0), some (vI a1), none], [], S) := rfl
theorem dX9_firstFrom_0 : decode cX9_firstFrom 0 = .ok (.iload_n 2, 1) := by decide +kernel
theorem dX9_firstFrom_1 : decode cX9_firstFrom 1 = .ok (.istore_n 3, 1) := by decide +kernel
theorem dX9_firstFrom_2 : decode cX9_firstFrom 2 = .ok (.iload_n 3, 1) := by decide +kernel
theorem dX9_firstFrom_3 : decode cX9_firstFrom 3 = .ok (.sipush 300, 3) := by decide +kernel
theorem dX9_firstFrom_6 : decode cX9_firstFrom 6 = .ok (.if_icmp .ge 18, 3) := by decide +kernel
theorem dX9_firstFrom_9 : decode cX9_firstFrom 9 = .ok (.aload_n 0, 1) := by decide +kernel
theorem dX9_firstFrom_10 : decode cX9_firstFrom 10 = .ok (.iload_n 1, 1) := by decide +kernel
theorem dX9_firstFrom_11 : decode cX9_firstFrom 11 = .ok (.iload_n 3, 1) := by decide +kernel
theorem dX9_firstFrom_12 : decode cX9_firstFrom 12 = .ok (.invokevirtual 39, 3) := by decide +kernel
theorem dX9_firstFrom_15 : decode cX9_firstFrom 15 = .ok (.ifCond .ne 9, 3) := by decide +kernel
theorem dX9_firstFrom_18 : decode cX9_firstFrom 18 = .ok (.iinc 3 1, 3) := by decide +kernel
theorem dX9_firstFrom_21 : decode cX9_firstFrom 21 = .ok (.goto (-19), 3) := by decide +kernel
theorem dX9_firstFrom_24 : decode cX9_firstFrom 24 = .ok (.iload_n 3, 1) := by decide +kernel
theorem dX9_firstFrom_25 : decode cX9_firstFrom 25 = .ok (.sipush 300, 3) := by decide +kernel
theorem dX9_firstFrom_28 : decode cX9_firstFrom 28 = .ok (.if_icmp .ge 7, 3) := by decide +kernel
theorem dX9_firstFrom_31 : decode cX9_firstFrom 31 = .ok (.iload_n 3, 1) := by decide +kernel
theorem dX9_firstFrom_32 : decode cX9_firstFrom 32 = .ok (.goto 6, 3) := by decide +kernel
theorem dX9_firstFrom_35 : decode cX9_firstFrom 35 = .ok (.sipush 300, 3) := by decide +kernel
theorem dX9_firstFrom_38 : decode cX9_firstFrom 38 = .ok (.ireturn, 1) := by decide +kernel
theorem eX9_firstFrom_0 {a : Int} {l0 l1 l3 : Option VV} {S : MM} : rn xX9_firstFrom (0, [l0, l1, some (vI a), l3], [], S) = rn xX9_firstFrom (1, [l0, l1, some (vI a), l3], [vI a], S) := rn_step dX9_firstFrom_0 rfl rfl
theorem eX9_firstFrom_1 {a : Int} {w : Int} {l0 l1 l3 : Option VV} {S : MM} : rn xX9_firstFrom (1, [l0, l1, some (vI w), l3], [vI a], S) = rn xX9_firstFrom (2, [l0, l1, some (vI w), some (vI a)], [], S) := rn_step dX9_firstFrom_1 rfl rfl
theorem eX9_firstFrom_2 {a : Int} {l0 l1 l2 : Option VV} {S : MM} : rn xX9_firstFrom (2, [l0, l1, l2, some (vI a)], [], S) = rn xX9_firstFrom (3, [l0, l1, l2, some (vI a)], [vI a], S) := rn_step dX9_firstFrom_2 rfl rfl
theorem eX9_firstFrom_3 {l0 l1 l2 l3 : Option VV} {v0 : VV} {S : MM} : rn xX9_firstFrom (3, [l0, l1, l2, l3], [v0], S) = rn xX9_firstFrom (6, [l0, l1, l2, l3], [vI 300, v0], S) := rn_step dX9_firstFrom_3 rfl rfl
theorem eX9_firstFrom_6 {a b : Int} {l0 l1 l2 l3 : Option VV} (h : -2147483648 ≤ a ∧ a ≤ 2147483647) (h1 : -2147483648 ≤ b ∧ b ≤ 2147483647) {S : MM} : rn xX9_firstFrom (6, [l0, l1, l2, l3], [vI b, vI a], S) = if a < b then rn xX9_firstFrom (9, [l0, l1, l2, l3], [], S) else rn xX9_firstFrom (24, [l0, l1, l2, l3], [], S) := q_icmp_ge dX9_firstFrom_6 (by decide) rfl h h1
theorem eX9_firstFrom_9 {a : Option Nat} {l1 l2 l3 : Option VV} {S : MM} : rn xX9_firstFrom (9, [some (.inr (.inl a)), l1, l2, l3], [], S) = rn xX9_firstFrom (10, [some (.inr (.inl a)), l1, l2, l3], [.inr (.inl a)], S) := rn_step dX9_firstFrom_9 rfl rfl
theorem eX9_firstFrom_10 {a : Int} {l0 l2 l3 : Option VV} {v0 : VV} {S : MM} : rn xX9_firstFrom (10, [l0, some (vI a), l2, l3], [v0], S) = rn xX9_firstFrom (11, [l0, some (vI a), l2, l3], [vI a, v0], S) := rn_step dX9_firstFrom_10 rfl rfl
theorem eX9_firstFrom_11 {a : Int} {l0 l1 l2 : Option VV} {v0 v1 : VV} {S : MM} : rn xX9_firstFrom (11, [l0, l1, l2, some (vI a)], [v0, v1], S) = rn xX9_firstFrom (12, [l0, l1, l2, some (vI a)], [vI a, v0, v1], S) := rn_step dX9_firstFrom_11 rfl rfl
theorem eX9_firstFrom_12 {a0 : Int} {a1 : Int} {l0 l1 l2 l3 : Option VV} {S : MM} : rn xX9_firstFrom (12, [l0, l1, l2, l3], [vI a1, vI a0, vR 593], S) = (fX9_repeats [vR 593, vI a0, vI a1] S).bind (fun q => rn xX9_firstFrom (15, [l0, l1, l2, l3], q.1.toList ++ [], q.2)) := q_callV (n := 2) (as := [vI a0, vI a1]) (rest := []) dX9_firstFrom_12 rfl rfl rfl rfl kd593
theorem eX9_firstFrom_15 {a : Int} {l0 l1 l2 l3 : Option VV} (h : -2147483648 ≤ a ∧ a ≤ 2147483647) {S : MM} : rn xX9_firstFrom (15, [l0, l1, l2, l3], [vI a], S) = if a = 0 then rn xX9_firstFrom (18, [l0, l1, l2, l3], [], S) else rn xX9_firstFrom (24, [l0, l1, l2, l3], [], S) := q_if_ne dX9_firstFrom_15 (by decide) rfl h
theorem eX9_firstFrom_18 {a : Int} {w : Int} {l0 l1 : Option VV} {S : MM} : rn xX9_firstFrom (18, [l0, l1, some (vI w), some (vI a)], [], S) = rn xX9_firstFrom (21, [l0, l1, some (vI w), some (vI (a + 1))], [], S) := rn_step dX9_firstFrom_18 rfl rfl
theorem eX9_firstFrom_21 {l0 l1 l2 l3 : Option VV} {S : MM} : rn xX9_firstFrom (21, [l0, l1, l2, l3], [], S) = rn xX9_firstFrom (2, [l0, l1, l2, l3], [], S) := rn_step dX9_firstFrom_21 rfl rfl
theorem eX9_firstFrom_24 {a : Int} {l0 l1 l2 : Option VV} {S : MM} : rn xX9_firstFrom (24, [l0, l1, l2, some (vI a)], [], S) = rn xX9_firstFrom (25, [l0, l1, l2, some (vI a)], [vI a], S) := rn_step dX9_firstFrom_24 rfl rfl
theorem eX9_firstFrom_25 {l0 l1 l2 l3 : Option VV} {v0 : VV} {S : MM} : rn xX9_firstFrom (25, [l0, l1, l2, l3], [v0], S) = rn xX9_firstFrom (28, [l0, l1, l2, l3], [vI 300, v0], S) := rn_step dX9_firstFrom_25 rfl rfl
theorem eX9_firstFrom_28 {a b : Int} {l0 l1 l2 l3 : Option VV} (h : -2147483648 ≤ a ∧ a ≤ 2147483647) (h1 : -2147483648 ≤ b ∧ b ≤ 2147483647) {S : MM} : rn xX9_firstFrom (28, [l0, l1, l2, l3], [vI b, vI a], S) = if a < b then rn xX9_firstFrom (31, [l0, l1, l2, l3], [], S) else rn xX9_firstFrom (35, [l0, l1, l2, l3], [], S) := q_icmp_ge dX9_firstFrom_28 (by decide) rfl h h1
theorem eX9_firstFrom_31 {a : Int} {l0 l1 l2 : Option VV} {S : MM} : rn xX9_firstFrom (31, [l0, l1, l2, some (vI a)], [], S) = rn xX9_firstFrom (32, [l0, l1, l2, some (vI a)], [vI a], S) := rn_step dX9_firstFrom_31 rfl rfl
theorem eX9_firstFrom_32 {l0 l1 l2 l3 : Option VV} {v0 : VV} {S : MM} : rn xX9_firstFrom (32, [l0, l1, l2, l3], [v0], S) = rn xX9_firstFrom (38, [l0, l1, l2, l3], [v0], S) := rn_step dX9_firstFrom_32 rfl rfl
theorem eX9_firstFrom_35 {l0 l1 l2 l3 : Option VV} {S : MM} : rn xX9_firstFrom (35, [l0, l1, l2, l3], [], S) = rn xX9_firstFrom (38, [l0, l1, l2, l3], [vI 300], S) := rn_step dX9_firstFrom_35 rfl rfl
theorem eX9_firstFrom_38 {z : Int} {l0 l1 l2 l3 : Option VV} {S : MM} : rn xX9_firstFrom (38, [l0, l1, l2, l3], [vI z], S) = some (some (vI z), S) := q_retI dX9_firstFrom_38 rfl
noncomputable def qlX9_stands : List CE := []
noncomputable def xX9_stands : XX := (cX9_stands, fcF fcl9, mcF qlX9_stands, 1)
noncomputable def fX9_stands : FN := fnX xX9_stands 2
set_option maxRecDepth 100000 in
theorem cwX9_stands : Cond.code yX9_stands cX9_stands 2 (some .int) ∈ lw_g := lw_gm 978 (by decide +kernel) (by decide +kernel)
set_option maxRecDepth 100000 in
theorem conX9_stands : Con yX9_stands cX9_stands 2 (some .int) { frames := 0, cells := 0, slots := 0, locals := 0 } fX9_stands := con_of (X := xX9_stands) (own := "LeapStonesModel") (ql := qlX9_stands) (by decide) rfl FOK9 rfl (fun _ h => absurd h List.not_mem_nil) (Or.inr (Or.inl ⟨rfl, rfl⟩))
theorem uX9_stands {i : Nat} {a0 : Int} {S : MM} : fX9_stands [vR i, vI a0] S = rn xX9_stands (0, [some (vR i), some (vI a0)], [], S) := rfl
theorem dX9_stands_0 : decode cX9_stands 0 = .ok (.aload_n 0, 1) := by decide +kernel
theorem dX9_stands_1 : decode cX9_stands 1 = .ok (.getfield 7, 3) := by decide +kernel
theorem dX9_stands_4 : decode cX9_stands 4 = .ok (.bipush 20, 2) := by decide +kernel
theorem dX9_stands_6 : decode cX9_stands 6 = .ok (.iload_n 1, 1) := by decide +kernel
theorem dX9_stands_7 : decode cX9_stands 7 = .ok (.iadd, 1) := by decide +kernel
theorem dX9_stands_8 : decode cX9_stands 8 = .ok (.iaload, 1) := by decide +kernel
theorem dX9_stands_9 : decode cX9_stands 9 = .ok (.ireturn, 1) := by decide +kernel
theorem eX9_stands_0 {a : Option Nat} {l1 : Option VV} {S : MM} : rn xX9_stands (0, [some (.inr (.inl a)), l1], [], S) = rn xX9_stands (1, [some (.inr (.inl a)), l1], [.inr (.inl a)], S) := rn_step dX9_stands_0 rfl rfl
theorem eX9_stands_1 {l0 l1 : Option VV} {S : MM} : rn xX9_stands (1, [l0, l1], [vR 593], S) = rn xX9_stands (4, [l0, l1], [vR 594], S) := q_getR dX9_stands_1 rfl ⟨⟨by decide, by decide⟩, by decide⟩ (fun _ => by decide +kernel) kd593
theorem eX9_stands_4 {l0 l1 : Option VV} {v0 : VV} {S : MM} : rn xX9_stands (4, [l0, l1], [v0], S) = rn xX9_stands (6, [l0, l1], [vI 20, v0], S) := rn_step dX9_stands_4 rfl rfl
theorem eX9_stands_6 {a : Int} {l0 : Option VV} {v0 v1 : VV} {S : MM} : rn xX9_stands (6, [l0, some (vI a)], [v0, v1], S) = rn xX9_stands (7, [l0, some (vI a)], [vI a, v0, v1], S) := rn_step dX9_stands_6 rfl rfl
theorem eX9_stands_7 {a b : Int} {l0 l1 : Option VV} {v2 : VV} {S : MM} : rn xX9_stands (7, [l0, l1], [vI b, vI a, v2], S) = rn xX9_stands (8, [l0, l1], [vI (a + b), v2], S) := rn_step dX9_stands_7 rfl rfl
theorem eX9_stands_8 {i : Nat} {j : Int} {l0 l1 : Option VV} (h : kd i = 10) (h0 : 0 ≤ j) (h1 : j < alen i) {S : MM} : rn xX9_stands (8, [l0, l1], [vI j, vR i], S) = rn xX9_stands (9, [l0, l1], [vI (S i j.toNat)], S) := q_iald dX9_stands_8 h h0 h1
theorem eX9_stands_8x {j : Int} {l0 l1 : Option VV} {S : MM} (h0 : 0 ≤ j) (h1 : j < S 604 0) : rn xX9_stands (8, [l0, l1], [vI j, vR 602], S) = rn xX9_stands (9, [l0, l1], [vI (S 602 j.toNat)], S) := q_ialdX dX9_stands_8 h0 h1
theorem eX9_stands_8y {j : Int} {l0 l1 : Option VV} {S : MM} (h0 : 0 ≤ j) (h1 : j < S 604 1) : rn xX9_stands (8, [l0, l1], [vI j, vR 603], S) = rn xX9_stands (9, [l0, l1], [vI (S 603 j.toNat)], S) := q_ialdY dX9_stands_8 h0 h1
theorem eX9_stands_9 {z : Int} {l0 l1 : Option VV} {S : MM} : rn xX9_stands (9, [l0, l1], [vI z], S) = some (some (vI z), S) := q_retI dX9_stands_9 rfl
noncomputable def qlX9_inTurn : List CE := []
noncomputable def xX9_inTurn : XX := (cX9_inTurn, fcF fcl9, mcF qlX9_inTurn, 1)
noncomputable def fX9_inTurn : FN := fnX xX9_inTurn 6
set_option maxRecDepth 100000 in
theorem cwX9_inTurn : Cond.code yX9_inTurn cX9_inTurn 6 (some .int) ∈ lw_g := lw_gm 966 (by decide +kernel) (by decide +kernel)
set_option maxRecDepth 100000 in
theorem conX9_inTurn : Con yX9_inTurn cX9_inTurn 6 (some .int) { frames := 0, cells := 0, slots := 0, locals := 0 } fX9_inTurn := con_of (X := xX9_inTurn) (own := "LeapStonesModel") (ql := qlX9_inTurn) (by decide) rfl FOK9 rfl (fun _ h => absurd h List.not_mem_nil) (Or.inr (Or.inl ⟨rfl, rfl⟩))
theorem uX9_inTurn {i : Nat} {a0 : Int} {S : MM} : fX9_inTurn [vR i, vI a0] S = rn xX9_inTurn (0, [some (vR i), some (vI a0), none, none, none, none], [], S) := rfl
theorem dX9_inTurn_0 : decode cX9_inTurn 0 = .ok (.aload_n 0, 1) := by decide +kernel
theorem dX9_inTurn_1 : decode cX9_inTurn 1 = .ok (.getfield 7, 3) := by decide +kernel
theorem dX9_inTurn_4 : decode cX9_inTurn 4 = .ok (.iconst 3, 1) := by decide +kernel
theorem dX9_inTurn_5 : decode cX9_inTurn 5 = .ok (.iaload, 1) := by decide +kernel
theorem dX9_inTurn_6 : decode cX9_inTurn 6 = .ok (.istore_n 2, 1) := by decide +kernel
theorem dX9_inTurn_7 : decode cX9_inTurn 7 = .ok (.iload_n 2, 1) := by decide +kernel
theorem dX9_inTurn_8 : decode cX9_inTurn 8 = .ok (.iconst 2, 1) := by decide +kernel
theorem dX9_inTurn_9 : decode cX9_inTurn 9 = .ok (.idiv, 1) := by decide +kernel
theorem dX9_inTurn_10 : decode cX9_inTurn 10 = .ok (.istore_n 3, 1) := by decide +kernel
theorem dX9_inTurn_11 : decode cX9_inTurn 11 = .ok (.iload_n 3, 1) := by decide +kernel
theorem dX9_inTurn_12 : decode cX9_inTurn 12 = .ok (.ifCond .ne 7, 3) := by decide +kernel
theorem dX9_inTurn_15 : decode cX9_inTurn 15 = .ok (.iconst 1, 1) := by decide +kernel
theorem dX9_inTurn_16 : decode cX9_inTurn 16 = .ok (.goto 4, 3) := by decide +kernel
theorem dX9_inTurn_19 : decode cX9_inTurn 19 = .ok (.iconst 0, 1) := by decide +kernel
theorem dX9_inTurn_20 : decode cX9_inTurn 20 = .ok (.istore 4, 2) := by decide +kernel
theorem dX9_inTurn_22 : decode cX9_inTurn 22 = .ok (.iload_n 3, 1) := by decide +kernel
theorem dX9_inTurn_23 : decode cX9_inTurn 23 = .ok (.iconst 2, 1) := by decide +kernel
theorem dX9_inTurn_24 : decode cX9_inTurn 24 = .ok (.if_icmp .ne 7, 3) := by decide +kernel
theorem dX9_inTurn_27 : decode cX9_inTurn 27 = .ok (.iconst 1, 1) := by decide +kernel
theorem dX9_inTurn_28 : decode cX9_inTurn 28 = .ok (.goto 4, 3) := by decide +kernel
theorem dX9_inTurn_31 : decode cX9_inTurn 31 = .ok (.iconst 2, 1) := by decide +kernel
theorem dX9_inTurn_32 : decode cX9_inTurn 32 = .ok (.istore 5, 2) := by decide +kernel
theorem dX9_inTurn_34 : decode cX9_inTurn 34 = .ok (.iload_n 1, 1) := by decide +kernel
theorem dX9_inTurn_35 : decode cX9_inTurn 35 = .ok (.ifCond .ne 5, 3) := by decide +kernel
theorem dX9_inTurn_38 : decode cX9_inTurn 38 = .ok (.iload_n 3, 1) := by decide +kernel
theorem dX9_inTurn_39 : decode cX9_inTurn 39 = .ok (.ireturn, 1) := by decide +kernel
theorem dX9_inTurn_40 : decode cX9_inTurn 40 = .ok (.iload_n 1, 1) := by decide +kernel
theorem dX9_inTurn_41 : decode cX9_inTurn 41 = .ok (.iconst 1, 1) := by decide +kernel
theorem dX9_inTurn_42 : decode cX9_inTurn 42 = .ok (.if_icmp .ne 7, 3) := by decide +kernel
theorem dX9_inTurn_45 : decode cX9_inTurn 45 = .ok (.iconst 1, 1) := by decide +kernel
theorem dX9_inTurn_46 : decode cX9_inTurn 46 = .ok (.goto 4, 3) := by decide +kernel
theorem dX9_inTurn_49 : decode cX9_inTurn 49 = .ok (.iconst 0, 1) := by decide +kernel
theorem dX9_inTurn_50 : decode cX9_inTurn 50 = .ok (.iload_n 2, 1) := by decide +kernel
theorem dX9_inTurn_51 : decode cX9_inTurn 51 = .ok (.iconst 2, 1) := by decide +kernel
theorem dX9_inTurn_52 : decode cX9_inTurn 52 = .ok (.irem, 1) := by decide +kernel
theorem dX9_inTurn_53 : decode cX9_inTurn 53 = .ok (.ifCond .ne 7, 3) := by decide +kernel
theorem dX9_inTurn_56 : decode cX9_inTurn 56 = .ok (.iconst 1, 1) := by decide +kernel
theorem dX9_inTurn_57 : decode cX9_inTurn 57 = .ok (.goto 4, 3) := by decide +kernel
theorem dX9_inTurn_60 : decode cX9_inTurn 60 = .ok (.iconst 0, 1) := by decide +kernel
theorem dX9_inTurn_61 : decode cX9_inTurn 61 = .ok (.if_icmp .ne 8, 3) := by decide +kernel
theorem dX9_inTurn_64 : decode cX9_inTurn 64 = .ok (.iload 4, 2) := by decide +kernel
theorem dX9_inTurn_66 : decode cX9_inTurn 66 = .ok (.goto 5, 3) := by decide +kernel
theorem dX9_inTurn_69 : decode cX9_inTurn 69 = .ok (.iload 5, 2) := by decide +kernel
theorem dX9_inTurn_71 : decode cX9_inTurn 71 = .ok (.ireturn, 1) := by decide +kernel
theorem eX9_inTurn_0 {a : Option Nat} {l1 l2 l3 l4 l5 : Option VV} {S : MM} : rn xX9_inTurn (0, [some (.inr (.inl a)), l1, l2, l3, l4, l5], [], S) = rn xX9_inTurn (1, [some (.inr (.inl a)), l1, l2, l3, l4, l5], [.inr (.inl a)], S) := rn_step dX9_inTurn_0 rfl rfl
theorem eX9_inTurn_1 {l0 l1 l2 l3 l4 l5 : Option VV} {S : MM} : rn xX9_inTurn (1, [l0, l1, l2, l3, l4, l5], [vR 593], S) = rn xX9_inTurn (4, [l0, l1, l2, l3, l4, l5], [vR 594], S) := q_getR dX9_inTurn_1 rfl ⟨⟨by decide, by decide⟩, by decide⟩ (fun _ => by decide +kernel) kd593
theorem eX9_inTurn_4 {l0 l1 l2 l3 l4 l5 : Option VV} {v0 : VV} {S : MM} : rn xX9_inTurn (4, [l0, l1, l2, l3, l4, l5], [v0], S) = rn xX9_inTurn (5, [l0, l1, l2, l3, l4, l5], [vI 3, v0], S) := rn_step dX9_inTurn_4 rfl rfl
theorem eX9_inTurn_5 {i : Nat} {j : Int} {l0 l1 l2 l3 l4 l5 : Option VV} (h : kd i = 10) (h0 : 0 ≤ j) (h1 : j < alen i) {S : MM} : rn xX9_inTurn (5, [l0, l1, l2, l3, l4, l5], [vI j, vR i], S) = rn xX9_inTurn (6, [l0, l1, l2, l3, l4, l5], [vI (S i j.toNat)], S) := q_iald dX9_inTurn_5 h h0 h1
theorem eX9_inTurn_5x {j : Int} {l0 l1 l2 l3 l4 l5 : Option VV} {S : MM} (h0 : 0 ≤ j) (h1 : j < S 604 0) : rn xX9_inTurn (5, [l0, l1, l2, l3, l4, l5], [vI j, vR 602], S) = rn xX9_inTurn (6, [l0, l1, l2, l3, l4, l5], [vI (S 602 j.toNat)], S) := q_ialdX dX9_inTurn_5 h0 h1
theorem eX9_inTurn_5y {j : Int} {l0 l1 l2 l3 l4 l5 : Option VV} {S : MM} (h0 : 0 ≤ j) (h1 : j < S 604 1) : rn xX9_inTurn (5, [l0, l1, l2, l3, l4, l5], [vI j, vR 603], S) = rn xX9_inTurn (6, [l0, l1, l2, l3, l4, l5], [vI (S 603 j.toNat)], S) := q_ialdY dX9_inTurn_5 h0 h1
theorem eX9_inTurn_6 {a : Int} {w : Int} {l0 l2 l3 l4 l5 : Option VV} {S : MM} : rn xX9_inTurn (6, [l0, some (vI w), l2, l3, l4, l5], [vI a], S) = rn xX9_inTurn (7, [l0, some (vI w), some (vI a), l3, l4, l5], [], S) := rn_step dX9_inTurn_6 rfl rfl
theorem eX9_inTurn_7 {a : Int} {l0 l1 l3 l4 l5 : Option VV} {S : MM} : rn xX9_inTurn (7, [l0, l1, some (vI a), l3, l4, l5], [], S) = rn xX9_inTurn (8, [l0, l1, some (vI a), l3, l4, l5], [vI a], S) := rn_step dX9_inTurn_7 rfl rfl
theorem eX9_inTurn_8 {l0 l1 l2 l3 l4 l5 : Option VV} {v0 : VV} {S : MM} : rn xX9_inTurn (8, [l0, l1, l2, l3, l4, l5], [v0], S) = rn xX9_inTurn (9, [l0, l1, l2, l3, l4, l5], [vI 2, v0], S) := rn_step dX9_inTurn_8 rfl rfl
theorem eX9_inTurn_9 {a : Int} {l0 l1 l2 l3 l4 l5 : Option VV} (h0 : 0 ≤ a) (h1 : a ≤ 2147483647) {S : MM} : rn xX9_inTurn (9, [l0, l1, l2, l3, l4, l5], [vI 2, vI a], S) = rn xX9_inTurn (10, [l0, l1, l2, l3, l4, l5], [vI (a / 2)], S) := q_idiv dX9_inTurn_9 ⟨by decide, by decide⟩ h0 h1
theorem eX9_inTurn_10 {a : Int} {w : Int} {l0 l1 l3 l4 l5 : Option VV} {S : MM} : rn xX9_inTurn (10, [l0, l1, some (vI w), l3, l4, l5], [vI a], S) = rn xX9_inTurn (11, [l0, l1, some (vI w), some (vI a), l4, l5], [], S) := rn_step dX9_inTurn_10 rfl rfl
theorem eX9_inTurn_11 {a : Int} {l0 l1 l2 l4 l5 : Option VV} {S : MM} : rn xX9_inTurn (11, [l0, l1, l2, some (vI a), l4, l5], [], S) = rn xX9_inTurn (12, [l0, l1, l2, some (vI a), l4, l5], [vI a], S) := rn_step dX9_inTurn_11 rfl rfl
theorem eX9_inTurn_12 {a : Int} {l0 l1 l2 l3 l4 l5 : Option VV} (h : -2147483648 ≤ a ∧ a ≤ 2147483647) {S : MM} : rn xX9_inTurn (12, [l0, l1, l2, l3, l4, l5], [vI a], S) = if a = 0 then rn xX9_inTurn (15, [l0, l1, l2, l3, l4, l5], [], S) else rn xX9_inTurn (19, [l0, l1, l2, l3, l4, l5], [], S) := q_if_ne dX9_inTurn_12 (by decide) rfl h
theorem eX9_inTurn_15 {l0 l1 l2 l3 l4 l5 : Option VV} {S : MM} : rn xX9_inTurn (15, [l0, l1, l2, l3, l4, l5], [], S) = rn xX9_inTurn (16, [l0, l1, l2, l3, l4, l5], [vI 1], S) := rn_step dX9_inTurn_15 rfl rfl
theorem eX9_inTurn_16 {l0 l1 l2 l3 l4 l5 : Option VV} {v0 : VV} {S : MM} : rn xX9_inTurn (16, [l0, l1, l2, l3, l4, l5], [v0], S) = rn xX9_inTurn (20, [l0, l1, l2, l3, l4, l5], [v0], S) := rn_step dX9_inTurn_16 rfl rfl
theorem eX9_inTurn_19 {l0 l1 l2 l3 l4 l5 : Option VV} {S : MM} : rn xX9_inTurn (19, [l0, l1, l2, l3, l4, l5], [], S) = rn xX9_inTurn (20, [l0, l1, l2, l3, l4, l5], [vI 0], S) := rn_step dX9_inTurn_19 rfl rfl
theorem eX9_inTurn_20 {a : Int} {w : Int} {l0 l1 l2 l4 l5 : Option VV} {S : MM} : rn xX9_inTurn (20, [l0, l1, l2, some (vI w), l4, l5], [vI a], S) = rn xX9_inTurn (22, [l0, l1, l2, some (vI w), some (vI a), l5], [], S) := rn_step dX9_inTurn_20 rfl rfl
theorem eX9_inTurn_22 {a : Int} {l0 l1 l2 l4 l5 : Option VV} {S : MM} : rn xX9_inTurn (22, [l0, l1, l2, some (vI a), l4, l5], [], S) = rn xX9_inTurn (23, [l0, l1, l2, some (vI a), l4, l5], [vI a], S) := rn_step dX9_inTurn_22 rfl rfl
theorem eX9_inTurn_23 {l0 l1 l2 l3 l4 l5 : Option VV} {v0 : VV} {S : MM} : rn xX9_inTurn (23, [l0, l1, l2, l3, l4, l5], [v0], S) = rn xX9_inTurn (24, [l0, l1, l2, l3, l4, l5], [vI 2, v0], S) := rn_step dX9_inTurn_23 rfl rfl
theorem eX9_inTurn_24 {a b : Int} {l0 l1 l2 l3 l4 l5 : Option VV} (h : -2147483648 ≤ a ∧ a ≤ 2147483647) (h1 : -2147483648 ≤ b ∧ b ≤ 2147483647) {S : MM} : rn xX9_inTurn (24, [l0, l1, l2, l3, l4, l5], [vI b, vI a], S) = if a = b then rn xX9_inTurn (27, [l0, l1, l2, l3, l4, l5], [], S) else rn xX9_inTurn (31, [l0, l1, l2, l3, l4, l5], [], S) := q_icmp_ne dX9_inTurn_24 (by decide) rfl h h1
theorem eX9_inTurn_27 {l0 l1 l2 l3 l4 l5 : Option VV} {S : MM} : rn xX9_inTurn (27, [l0, l1, l2, l3, l4, l5], [], S) = rn xX9_inTurn (28, [l0, l1, l2, l3, l4, l5], [vI 1], S) := rn_step dX9_inTurn_27 rfl rfl
theorem eX9_inTurn_28 {l0 l1 l2 l3 l4 l5 : Option VV} {v0 : VV} {S : MM} : rn xX9_inTurn (28, [l0, l1, l2, l3, l4, l5], [v0], S) = rn xX9_inTurn (32, [l0, l1, l2, l3, l4, l5], [v0], S) := rn_step dX9_inTurn_28 rfl rfl
theorem eX9_inTurn_31 {l0 l1 l2 l3 l4 l5 : Option VV} {S : MM} : rn xX9_inTurn (31, [l0, l1, l2, l3, l4, l5], [], S) = rn xX9_inTurn (32, [l0, l1, l2, l3, l4, l5], [vI 2], S) := rn_step dX9_inTurn_31 rfl rfl
theorem eX9_inTurn_32 {a : Int} {w : Int} {l0 l1 l2 l3 l5 : Option VV} {S : MM} : rn xX9_inTurn (32, [l0, l1, l2, l3, some (vI w), l5], [vI a], S) = rn xX9_inTurn (34, [l0, l1, l2, l3, some (vI w), some (vI a)], [], S) := rn_step dX9_inTurn_32 rfl rfl
theorem eX9_inTurn_34 {a : Int} {l0 l2 l3 l4 l5 : Option VV} {S : MM} : rn xX9_inTurn (34, [l0, some (vI a), l2, l3, l4, l5], [], S) = rn xX9_inTurn (35, [l0, some (vI a), l2, l3, l4, l5], [vI a], S) := rn_step dX9_inTurn_34 rfl rfl
theorem eX9_inTurn_35 {a : Int} {l0 l1 l2 l3 l4 l5 : Option VV} (h : -2147483648 ≤ a ∧ a ≤ 2147483647) {S : MM} : rn xX9_inTurn (35, [l0, l1, l2, l3, l4, l5], [vI a], S) = if a = 0 then rn xX9_inTurn (38, [l0, l1, l2, l3, l4, l5], [], S) else rn xX9_inTurn (40, [l0, l1, l2, l3, l4, l5], [], S) := q_if_ne dX9_inTurn_35 (by decide) rfl h
theorem eX9_inTurn_38 {a : Int} {l0 l1 l2 l4 l5 : Option VV} {S : MM} : rn xX9_inTurn (38, [l0, l1, l2, some (vI a), l4, l5], [], S) = rn xX9_inTurn (39, [l0, l1, l2, some (vI a), l4, l5], [vI a], S) := rn_step dX9_inTurn_38 rfl rfl
theorem eX9_inTurn_39 {z : Int} {l0 l1 l2 l3 l4 l5 : Option VV} {S : MM} : rn xX9_inTurn (39, [l0, l1, l2, l3, l4, l5], [vI z], S) = some (some (vI z), S) := q_retI dX9_inTurn_39 rfl
theorem eX9_inTurn_40 {a : Int} {l0 l2 l3 l4 l5 : Option VV} {S : MM} : rn xX9_inTurn (40, [l0, some (vI a), l2, l3, l4, l5], [], S) = rn xX9_inTurn (41, [l0, some (vI a), l2, l3, l4, l5], [vI a], S) := rn_step dX9_inTurn_40 rfl rfl
theorem eX9_inTurn_41 {l0 l1 l2 l3 l4 l5 : Option VV} {v0 : VV} {S : MM} : rn xX9_inTurn (41, [l0, l1, l2, l3, l4, l5], [v0], S) = rn xX9_inTurn (42, [l0, l1, l2, l3, l4, l5], [vI 1, v0], S) := rn_step dX9_inTurn_41 rfl rfl
theorem eX9_inTurn_42 {a b : Int} {l0 l1 l2 l3 l4 l5 : Option VV} (h : -2147483648 ≤ a ∧ a ≤ 2147483647) (h1 : -2147483648 ≤ b ∧ b ≤ 2147483647) {S : MM} : rn xX9_inTurn (42, [l0, l1, l2, l3, l4, l5], [vI b, vI a], S) = if a = b then rn xX9_inTurn (45, [l0, l1, l2, l3, l4, l5], [], S) else rn xX9_inTurn (49, [l0, l1, l2, l3, l4, l5], [], S) := q_icmp_ne dX9_inTurn_42 (by decide) rfl h h1
theorem eX9_inTurn_45 {l0 l1 l2 l3 l4 l5 : Option VV} {S : MM} : rn xX9_inTurn (45, [l0, l1, l2, l3, l4, l5], [], S) = rn xX9_inTurn (46, [l0, l1, l2, l3, l4, l5], [vI 1], S) := rn_step dX9_inTurn_45 rfl rfl
theorem eX9_inTurn_46 {l0 l1 l2 l3 l4 l5 : Option VV} {v0 : VV} {S : MM} : rn xX9_inTurn (46, [l0, l1, l2, l3, l4, l5], [v0], S) = rn xX9_inTurn (50, [l0, l1, l2, l3, l4, l5], [v0], S) := rn_step dX9_inTurn_46 rfl rfl
theorem eX9_inTurn_49 {l0 l1 l2 l3 l4 l5 : Option VV} {S : MM} : rn xX9_inTurn (49, [l0, l1, l2, l3, l4, l5], [], S) = rn xX9_inTurn (50, [l0, l1, l2, l3, l4, l5], [vI 0], S) := rn_step dX9_inTurn_49 rfl rfl
theorem eX9_inTurn_50 {a : Int} {l0 l1 l3 l4 l5 : Option VV} {v0 : VV} {S : MM} : rn xX9_inTurn (50, [l0, l1, some (vI a), l3, l4, l5], [v0], S) = rn xX9_inTurn (51, [l0, l1, some (vI a), l3, l4, l5], [vI a, v0], S) := rn_step dX9_inTurn_50 rfl rfl
theorem eX9_inTurn_51 {l0 l1 l2 l3 l4 l5 : Option VV} {v0 v1 : VV} {S : MM} : rn xX9_inTurn (51, [l0, l1, l2, l3, l4, l5], [v0, v1], S) = rn xX9_inTurn (52, [l0, l1, l2, l3, l4, l5], [vI 2, v0, v1], S) := rn_step dX9_inTurn_51 rfl rfl
theorem eX9_inTurn_52 {a : Int} {l0 l1 l2 l3 l4 l5 : Option VV} {v2 : VV} (h0 : 0 ≤ a) (h1 : a ≤ 2147483647) {S : MM} : rn xX9_inTurn (52, [l0, l1, l2, l3, l4, l5], [vI 2, vI a, v2], S) = rn xX9_inTurn (53, [l0, l1, l2, l3, l4, l5], [vI (a % 2), v2], S) := q_irem dX9_inTurn_52 ⟨by decide, by decide⟩ h0 h1
theorem eX9_inTurn_53 {a : Int} {l0 l1 l2 l3 l4 l5 : Option VV} {v1 : VV} (h : -2147483648 ≤ a ∧ a ≤ 2147483647) {S : MM} : rn xX9_inTurn (53, [l0, l1, l2, l3, l4, l5], [vI a, v1], S) = if a = 0 then rn xX9_inTurn (56, [l0, l1, l2, l3, l4, l5], [v1], S) else rn xX9_inTurn (60, [l0, l1, l2, l3, l4, l5], [v1], S) := q_if_ne dX9_inTurn_53 (by decide) rfl h
theorem eX9_inTurn_56 {l0 l1 l2 l3 l4 l5 : Option VV} {v0 : VV} {S : MM} : rn xX9_inTurn (56, [l0, l1, l2, l3, l4, l5], [v0], S) = rn xX9_inTurn (57, [l0, l1, l2, l3, l4, l5], [vI 1, v0], S) := rn_step dX9_inTurn_56 rfl rfl
theorem eX9_inTurn_57 {l0 l1 l2 l3 l4 l5 : Option VV} {v0 v1 : VV} {S : MM} : rn xX9_inTurn (57, [l0, l1, l2, l3, l4, l5], [v0, v1], S) = rn xX9_inTurn (61, [l0, l1, l2, l3, l4, l5], [v0, v1], S) := rn_step dX9_inTurn_57 rfl rfl
theorem eX9_inTurn_60 {l0 l1 l2 l3 l4 l5 : Option VV} {v0 : VV} {S : MM} : rn xX9_inTurn (60, [l0, l1, l2, l3, l4, l5], [v0], S) = rn xX9_inTurn (61, [l0, l1, l2, l3, l4, l5], [vI 0, v0], S) := rn_step dX9_inTurn_60 rfl rfl
theorem eX9_inTurn_61 {a b : Int} {l0 l1 l2 l3 l4 l5 : Option VV} (h : -2147483648 ≤ a ∧ a ≤ 2147483647) (h1 : -2147483648 ≤ b ∧ b ≤ 2147483647) {S : MM} : rn xX9_inTurn (61, [l0, l1, l2, l3, l4, l5], [vI b, vI a], S) = if a = b then rn xX9_inTurn (64, [l0, l1, l2, l3, l4, l5], [], S) else rn xX9_inTurn (69, [l0, l1, l2, l3, l4, l5], [], S) := q_icmp_ne dX9_inTurn_61 (by decide) rfl h h1
theorem eX9_inTurn_64 {a : Int} {l0 l1 l2 l3 l5 : Option VV} {S : MM} : rn xX9_inTurn (64, [l0, l1, l2, l3, some (vI a), l5], [], S) = rn xX9_inTurn (66, [l0, l1, l2, l3, some (vI a), l5], [vI a], S) := rn_step dX9_inTurn_64 rfl rfl
theorem eX9_inTurn_66 {l0 l1 l2 l3 l4 l5 : Option VV} {v0 : VV} {S : MM} : rn xX9_inTurn (66, [l0, l1, l2, l3, l4, l5], [v0], S) = rn xX9_inTurn (71, [l0, l1, l2, l3, l4, l5], [v0], S) := rn_step dX9_inTurn_66 rfl rfl
theorem eX9_inTurn_69 {a : Int} {l0 l1 l2 l3 l4 : Option VV} {S : MM} : rn xX9_inTurn (69, [l0, l1, l2, l3, l4, some (vI a)], [], S) = rn xX9_inTurn (71, [l0, l1, l2, l3, l4, some (vI a)], [vI a], S) := rn_step dX9_inTurn_69 rfl rfl
theorem eX9_inTurn_71 {z : Int} {l0 l1 l2 l3 l4 l5 : Option VV} {S : MM} : rn xX9_inTurn (71, [l0, l1, l2, l3, l4, l5], [vI z], S) = some (some (vI z), S) := q_retI dX9_inTurn_71 rfl
noncomputable def qlX9_placeInTurn : List CE := [(0, 53, 9, 2, fX9_inTurn)]
noncomputable def xX9_placeInTurn : XX := (cX9_placeInTurn, fcF fcl9, mcF qlX9_placeInTurn, 1)
noncomputable def fX9_placeInTurn : FN := fnX xX9_placeInTurn 3
set_option maxRecDepth 100000 in
theorem cwX9_placeInTurn : Cond.code yX9_placeInTurn cX9_placeInTurn 3 (some .int) ∈ lw_g := lw_gm 1006 (by decide +kernel) (by decide +kernel)
set_option maxRecDepth 100000 in
theorem conX9_placeInTurn : Con yX9_placeInTurn cX9_placeInTurn 3 (some .int) { frames := 1, cells := 0, slots := 0, locals := 25 } fX9_placeInTurn := con_of (X := xX9_placeInTurn) (own := "LeapStonesModel") (ql := qlX9_placeInTurn) (by decide) rfl FOK9 rfl (List.forall_mem_cons.mpr ⟨call_V conX9_inTurn cwX9_inTurn (lw_gl _ [963, 965, 24, 84] (by decide +kernel) (by decide +kernel)) (by decide) rfl ⟨by decide, by decide, by decide +kernel⟩ ⟨rfl, rfl⟩ ⟨by decide, by decide⟩ ⟨Nat.le_refl _, Nat.le_refl _⟩, fun _ h => absurd h List.not_mem_nil⟩) (Or.inr (Or.inl ⟨rfl, rfl⟩))
theorem uX9_placeInTurn {i : Nat} {a0 : Int} {S : MM} : fX9_placeInTurn [vR i, vI a0] S = rn xX9_placeInTurn (0, [some (vR i), some (vI a0), none], [], S) := rfl
theorem dX9_placeInTurn_0 : decode cX9_placeInTurn 0 = .ok (.iconst 0, 1) := by decide +kernel
theorem dX9_placeInTurn_1 : decode cX9_placeInTurn 1 = .ok (.istore_n 2, 1) := by decide +kernel
theorem dX9_placeInTurn_2 : decode cX9_placeInTurn 2 = .ok (.aload_n 0, 1) := by decide +kernel
theorem dX9_placeInTurn_3 : decode cX9_placeInTurn 3 = .ok (.iload_n 2, 1) := by decide +kernel
theorem dX9_placeInTurn_4 : decode cX9_placeInTurn 4 = .ok (.invokevirtual 53, 3) := by decide +kernel
theorem dX9_placeInTurn_7 : decode cX9_placeInTurn 7 = .ok (.iload_n 1, 1) := by decide +kernel
theorem dX9_placeInTurn_8 : decode cX9_placeInTurn 8 = .ok (.if_icmp .eq 9, 3) := by decide +kernel
theorem dX9_placeInTurn_11 : decode cX9_placeInTurn 11 = .ok (.iinc 2 1, 3) := by decide +kernel
theorem dX9_placeInTurn_14 : decode cX9_placeInTurn 14 = .ok (.goto (-12), 3) := by decide +kernel
theorem dX9_placeInTurn_17 : decode cX9_placeInTurn 17 = .ok (.iload_n 2, 1) := by decide +kernel
theorem dX9_placeInTurn_18 : decode cX9_placeInTurn 18 = .ok (.ireturn, 1) := by decide +kernel
theorem eX9_placeInTurn_0 {l0 l1 l2 : Option VV} {S : MM} : rn xX9_placeInTurn (0, [l0, l1, l2], [], S) = rn xX9_placeInTurn (1, [l0, l1, l2], [vI 0], S) := rn_step dX9_placeInTurn_0 rfl rfl
theorem eX9_placeInTurn_1 {a : Int} {w : Int} {l0 l2 : Option VV} {S : MM} : rn xX9_placeInTurn (1, [l0, some (vI w), l2], [vI a], S) = rn xX9_placeInTurn (2, [l0, some (vI w), some (vI a)], [], S) := rn_step dX9_placeInTurn_1 rfl rfl
theorem eX9_placeInTurn_2 {a : Option Nat} {l1 l2 : Option VV} {S : MM} : rn xX9_placeInTurn (2, [some (.inr (.inl a)), l1, l2], [], S) = rn xX9_placeInTurn (3, [some (.inr (.inl a)), l1, l2], [.inr (.inl a)], S) := rn_step dX9_placeInTurn_2 rfl rfl
theorem eX9_placeInTurn_3 {a : Int} {l0 l1 : Option VV} {v0 : VV} {S : MM} : rn xX9_placeInTurn (3, [l0, l1, some (vI a)], [v0], S) = rn xX9_placeInTurn (4, [l0, l1, some (vI a)], [vI a, v0], S) := rn_step dX9_placeInTurn_3 rfl rfl
theorem eX9_placeInTurn_4 {a0 : Int} {l0 l1 l2 : Option VV} {S : MM} : rn xX9_placeInTurn (4, [l0, l1, l2], [vI a0, vR 593], S) = (fX9_inTurn [vR 593, vI a0] S).bind (fun q => rn xX9_placeInTurn (7, [l0, l1, l2], q.1.toList ++ [], q.2)) := q_callV (n := 1) (as := [vI a0]) (rest := []) dX9_placeInTurn_4 rfl rfl rfl rfl kd593
theorem eX9_placeInTurn_7 {a : Int} {l0 l2 : Option VV} {v0 : VV} {S : MM} : rn xX9_placeInTurn (7, [l0, some (vI a), l2], [v0], S) = rn xX9_placeInTurn (8, [l0, some (vI a), l2], [vI a, v0], S) := rn_step dX9_placeInTurn_7 rfl rfl
theorem eX9_placeInTurn_8 {a b : Int} {l0 l1 l2 : Option VV} (h : -2147483648 ≤ a ∧ a ≤ 2147483647) (h1 : -2147483648 ≤ b ∧ b ≤ 2147483647) {S : MM} : rn xX9_placeInTurn (8, [l0, l1, l2], [vI b, vI a], S) = if a = b then rn xX9_placeInTurn (17, [l0, l1, l2], [], S) else rn xX9_placeInTurn (11, [l0, l1, l2], [], S) := q_icmp_eq dX9_placeInTurn_8 (by decide) rfl h h1
theorem eX9_placeInTurn_11 {a : Int} {w : Int} {l0 : Option VV} {S : MM} : rn xX9_placeInTurn (11, [l0, some (vI w), some (vI a)], [], S) = rn xX9_placeInTurn (14, [l0, some (vI w), some (vI (a + 1))], [], S) := rn_step dX9_placeInTurn_11 rfl rfl
theorem eX9_placeInTurn_14 {l0 l1 l2 : Option VV} {S : MM} : rn xX9_placeInTurn (14, [l0, l1, l2], [], S) = rn xX9_placeInTurn (2, [l0, l1, l2], [], S) := rn_step dX9_placeInTurn_14 rfl rfl
theorem eX9_placeInTurn_17 {a : Int} {l0 l1 : Option VV} {S : MM} : rn xX9_placeInTurn (17, [l0, l1, some (vI a)], [], S) = rn xX9_placeInTurn (18, [l0, l1, some (vI a)], [vI a], S) := rn_step dX9_placeInTurn_17 rfl rfl
theorem eX9_placeInTurn_18 {z : Int} {l0 l1 l2 : Option VV} {S : MM} : rn xX9_placeInTurn (18, [l0, l1, l2], [vI z], S) = some (some (vI z), S) := q_retI dX9_placeInTurn_18 rfl
noncomputable def qlX9_overIfSo : List CE := [(0, 57, 9, 2, fX9_stands)]
noncomputable def xX9_overIfSo : XX := (cX9_overIfSo, fcF fcl9, mcF qlX9_overIfSo, 0)
noncomputable def fX9_overIfSo : FN := fnX xX9_overIfSo 2
set_option maxRecDepth 100000 in
theorem cwX9_overIfSo : Cond.code yX9_overIfSo cX9_overIfSo 2 none ∈ lw_g := lw_gm 974 (by decide +kernel) (by decide +kernel)
set_option maxRecDepth 100000 in
theorem conX9_overIfSo : Con yX9_overIfSo cX9_overIfSo 2 none { frames := 1, cells := 0, slots := 0, locals := 21 } fX9_overIfSo := con_of (X := xX9_overIfSo) (own := "LeapStonesModel") (ql := qlX9_overIfSo) (by decide) rfl FOK9 rfl (List.forall_mem_cons.mpr ⟨call_V conX9_stands cwX9_stands (lw_gl _ [975, 977, 27, 84] (by decide +kernel) (by decide +kernel)) (by decide) rfl ⟨by decide, by decide, by decide +kernel⟩ ⟨rfl, rfl⟩ ⟨by decide, by decide⟩ ⟨Nat.le_refl _, Nat.le_refl _⟩, fun _ h => absurd h List.not_mem_nil⟩) (Or.inl ⟨rfl, rfl⟩)
theorem uX9_overIfSo {i : Nat} {S : MM} : fX9_overIfSo [vR i] S = rn xX9_overIfSo (0, [some (vR i), none], [], S) := rfl
theorem dX9_overIfSo_0 : decode cX9_overIfSo 0 = .ok (.iconst 0, 1) := by decide +kernel
theorem dX9_overIfSo_1 : decode cX9_overIfSo 1 = .ok (.istore_n 1, 1) := by decide +kernel
theorem dX9_overIfSo_2 : decode cX9_overIfSo 2 = .ok (.iload_n 1, 1) := by decide +kernel
theorem dX9_overIfSo_3 : decode cX9_overIfSo 3 = .ok (.iconst 3, 1) := by decide +kernel
theorem dX9_overIfSo_4 : decode cX9_overIfSo 4 = .ok (.if_icmp .ge 51, 3) := by decide +kernel
theorem dX9_overIfSo_7 : decode cX9_overIfSo 7 = .ok (.aload_n 0, 1) := by decide +kernel
theorem dX9_overIfSo_8 : decode cX9_overIfSo 8 = .ok (.getfield 7, 3) := by decide +kernel
theorem dX9_overIfSo_11 : decode cX9_overIfSo 11 = .ok (.iconst 4, 1) := by decide +kernel
theorem dX9_overIfSo_12 : decode cX9_overIfSo 12 = .ok (.iaload, 1) := by decide +kernel
theorem dX9_overIfSo_13 : decode cX9_overIfSo 13 = .ok (.iconst 1, 1) := by decide +kernel
theorem dX9_overIfSo_14 : decode cX9_overIfSo 14 = .ok (.if_icmp .ne 35, 3) := by decide +kernel
theorem dX9_overIfSo_17 : decode cX9_overIfSo 17 = .ok (.aload_n 0, 1) := by decide +kernel
theorem dX9_overIfSo_18 : decode cX9_overIfSo 18 = .ok (.iload_n 1, 1) := by decide +kernel
theorem dX9_overIfSo_19 : decode cX9_overIfSo 19 = .ok (.invokevirtual 57, 3) := by decide +kernel
theorem dX9_overIfSo_22 : decode cX9_overIfSo 22 = .ok (.sipush 300, 3) := by decide +kernel
theorem dX9_overIfSo_25 : decode cX9_overIfSo 25 = .ok (.if_icmp .eq 17, 3) := by decide +kernel
theorem dX9_overIfSo_28 : decode cX9_overIfSo 28 = .ok (.aload_n 0, 1) := by decide +kernel
theorem dX9_overIfSo_29 : decode cX9_overIfSo 29 = .ok (.iload_n 1, 1) := by decide +kernel
theorem dX9_overIfSo_30 : decode cX9_overIfSo 30 = .ok (.invokevirtual 57, 3) := by decide +kernel
theorem dX9_overIfSo_33 : decode cX9_overIfSo 33 = .ok (.aload_n 0, 1) := by decide +kernel
theorem dX9_overIfSo_34 : decode cX9_overIfSo 34 = .ok (.getfield 7, 3) := by decide +kernel
theorem dX9_overIfSo_37 : decode cX9_overIfSo 37 = .ok (.iconst 1, 1) := by decide +kernel
theorem dX9_overIfSo_38 : decode cX9_overIfSo 38 = .ok (.iaload, 1) := by decide +kernel
theorem dX9_overIfSo_39 : decode cX9_overIfSo 39 = .ok (.if_icmp .le 10, 3) := by decide +kernel
theorem dX9_overIfSo_42 : decode cX9_overIfSo 42 = .ok (.aload_n 0, 1) := by decide +kernel
theorem dX9_overIfSo_43 : decode cX9_overIfSo 43 = .ok (.getfield 7, 3) := by decide +kernel
theorem dX9_overIfSo_46 : decode cX9_overIfSo 46 = .ok (.iconst 4, 1) := by decide +kernel
theorem dX9_overIfSo_47 : decode cX9_overIfSo 47 = .ok (.iconst 2, 1) := by decide +kernel
theorem dX9_overIfSo_48 : decode cX9_overIfSo 48 = .ok (.iastore, 1) := by decide +kernel
theorem dX9_overIfSo_49 : decode cX9_overIfSo 49 = .ok (.iinc 1 1, 3) := by decide +kernel
theorem dX9_overIfSo_52 : decode cX9_overIfSo 52 = .ok (.goto (-50), 3) := by decide +kernel
theorem dX9_overIfSo_55 : decode cX9_overIfSo 55 = .ok (.return_, 1) := by decide +kernel
theorem eX9_overIfSo_0 {l0 l1 : Option VV} {S : MM} : rn xX9_overIfSo (0, [l0, l1], [], S) = rn xX9_overIfSo (1, [l0, l1], [vI 0], S) := rn_step dX9_overIfSo_0 rfl rfl
theorem eX9_overIfSo_1 {a : Int} {w : Option Nat} {l1 : Option VV} {S : MM} : rn xX9_overIfSo (1, [some (.inr (.inl w)), l1], [vI a], S) = rn xX9_overIfSo (2, [some (.inr (.inl w)), some (vI a)], [], S) := rn_step dX9_overIfSo_1 rfl rfl
theorem eX9_overIfSo_2 {a : Int} {l0 : Option VV} {S : MM} : rn xX9_overIfSo (2, [l0, some (vI a)], [], S) = rn xX9_overIfSo (3, [l0, some (vI a)], [vI a], S) := rn_step dX9_overIfSo_2 rfl rfl
theorem eX9_overIfSo_3 {l0 l1 : Option VV} {v0 : VV} {S : MM} : rn xX9_overIfSo (3, [l0, l1], [v0], S) = rn xX9_overIfSo (4, [l0, l1], [vI 3, v0], S) := rn_step dX9_overIfSo_3 rfl rfl
theorem eX9_overIfSo_4 {a b : Int} {l0 l1 : Option VV} (h : -2147483648 ≤ a ∧ a ≤ 2147483647) (h1 : -2147483648 ≤ b ∧ b ≤ 2147483647) {S : MM} : rn xX9_overIfSo (4, [l0, l1], [vI b, vI a], S) = if a < b then rn xX9_overIfSo (7, [l0, l1], [], S) else rn xX9_overIfSo (55, [l0, l1], [], S) := q_icmp_ge dX9_overIfSo_4 (by decide) rfl h h1
theorem eX9_overIfSo_7 {a : Option Nat} {l1 : Option VV} {S : MM} : rn xX9_overIfSo (7, [some (.inr (.inl a)), l1], [], S) = rn xX9_overIfSo (8, [some (.inr (.inl a)), l1], [.inr (.inl a)], S) := rn_step dX9_overIfSo_7 rfl rfl
theorem eX9_overIfSo_8 {l0 l1 : Option VV} {S : MM} : rn xX9_overIfSo (8, [l0, l1], [vR 593], S) = rn xX9_overIfSo (11, [l0, l1], [vR 594], S) := q_getR dX9_overIfSo_8 rfl ⟨⟨by decide, by decide⟩, by decide⟩ (fun _ => by decide +kernel) kd593
theorem eX9_overIfSo_11 {l0 l1 : Option VV} {v0 : VV} {S : MM} : rn xX9_overIfSo (11, [l0, l1], [v0], S) = rn xX9_overIfSo (12, [l0, l1], [vI 4, v0], S) := rn_step dX9_overIfSo_11 rfl rfl
theorem eX9_overIfSo_12 {i : Nat} {j : Int} {l0 l1 : Option VV} (h : kd i = 10) (h0 : 0 ≤ j) (h1 : j < alen i) {S : MM} : rn xX9_overIfSo (12, [l0, l1], [vI j, vR i], S) = rn xX9_overIfSo (13, [l0, l1], [vI (S i j.toNat)], S) := q_iald dX9_overIfSo_12 h h0 h1
theorem eX9_overIfSo_12x {j : Int} {l0 l1 : Option VV} {S : MM} (h0 : 0 ≤ j) (h1 : j < S 604 0) : rn xX9_overIfSo (12, [l0, l1], [vI j, vR 602], S) = rn xX9_overIfSo (13, [l0, l1], [vI (S 602 j.toNat)], S) := q_ialdX dX9_overIfSo_12 h0 h1
theorem eX9_overIfSo_12y {j : Int} {l0 l1 : Option VV} {S : MM} (h0 : 0 ≤ j) (h1 : j < S 604 1) : rn xX9_overIfSo (12, [l0, l1], [vI j, vR 603], S) = rn xX9_overIfSo (13, [l0, l1], [vI (S 603 j.toNat)], S) := q_ialdY dX9_overIfSo_12 h0 h1
theorem eX9_overIfSo_13 {l0 l1 : Option VV} {v0 : VV} {S : MM} : rn xX9_overIfSo (13, [l0, l1], [v0], S) = rn xX9_overIfSo (14, [l0, l1], [vI 1, v0], S) := rn_step dX9_overIfSo_13 rfl rfl
theorem eX9_overIfSo_14 {a b : Int} {l0 l1 : Option VV} (h : -2147483648 ≤ a ∧ a ≤ 2147483647) (h1 : -2147483648 ≤ b ∧ b ≤ 2147483647) {S : MM} : rn xX9_overIfSo (14, [l0, l1], [vI b, vI a], S) = if a = b then rn xX9_overIfSo (17, [l0, l1], [], S) else rn xX9_overIfSo (49, [l0, l1], [], S) := q_icmp_ne dX9_overIfSo_14 (by decide) rfl h h1
theorem eX9_overIfSo_17 {a : Option Nat} {l1 : Option VV} {S : MM} : rn xX9_overIfSo (17, [some (.inr (.inl a)), l1], [], S) = rn xX9_overIfSo (18, [some (.inr (.inl a)), l1], [.inr (.inl a)], S) := rn_step dX9_overIfSo_17 rfl rfl
theorem eX9_overIfSo_18 {a : Int} {l0 : Option VV} {v0 : VV} {S : MM} : rn xX9_overIfSo (18, [l0, some (vI a)], [v0], S) = rn xX9_overIfSo (19, [l0, some (vI a)], [vI a, v0], S) := rn_step dX9_overIfSo_18 rfl rfl
theorem eX9_overIfSo_19 {a0 : Int} {l0 l1 : Option VV} {S : MM} : rn xX9_overIfSo (19, [l0, l1], [vI a0, vR 593], S) = (fX9_stands [vR 593, vI a0] S).bind (fun q => rn xX9_overIfSo (22, [l0, l1], q.1.toList ++ [], q.2)) := q_callV (n := 1) (as := [vI a0]) (rest := []) dX9_overIfSo_19 rfl rfl rfl rfl kd593
theorem eX9_overIfSo_22 {l0 l1 : Option VV} {v0 : VV} {S : MM} : rn xX9_overIfSo (22, [l0, l1], [v0], S) = rn xX9_overIfSo (25, [l0, l1], [vI 300, v0], S) := rn_step dX9_overIfSo_22 rfl rfl
theorem eX9_overIfSo_25 {a b : Int} {l0 l1 : Option VV} (h : -2147483648 ≤ a ∧ a ≤ 2147483647) (h1 : -2147483648 ≤ b ∧ b ≤ 2147483647) {S : MM} : rn xX9_overIfSo (25, [l0, l1], [vI b, vI a], S) = if a = b then rn xX9_overIfSo (42, [l0, l1], [], S) else rn xX9_overIfSo (28, [l0, l1], [], S) := q_icmp_eq dX9_overIfSo_25 (by decide) rfl h h1
theorem eX9_overIfSo_28 {a : Option Nat} {l1 : Option VV} {S : MM} : rn xX9_overIfSo (28, [some (.inr (.inl a)), l1], [], S) = rn xX9_overIfSo (29, [some (.inr (.inl a)), l1], [.inr (.inl a)], S) := rn_step dX9_overIfSo_28 rfl rfl
theorem eX9_overIfSo_29 {a : Int} {l0 : Option VV} {v0 : VV} {S : MM} : rn xX9_overIfSo (29, [l0, some (vI a)], [v0], S) = rn xX9_overIfSo (30, [l0, some (vI a)], [vI a, v0], S) := rn_step dX9_overIfSo_29 rfl rfl
theorem eX9_overIfSo_30 {a0 : Int} {l0 l1 : Option VV} {S : MM} : rn xX9_overIfSo (30, [l0, l1], [vI a0, vR 593], S) = (fX9_stands [vR 593, vI a0] S).bind (fun q => rn xX9_overIfSo (33, [l0, l1], q.1.toList ++ [], q.2)) := q_callV (n := 1) (as := [vI a0]) (rest := []) dX9_overIfSo_30 rfl rfl rfl rfl kd593
theorem eX9_overIfSo_33 {a : Option Nat} {l1 : Option VV} {v0 : VV} {S : MM} : rn xX9_overIfSo (33, [some (.inr (.inl a)), l1], [v0], S) = rn xX9_overIfSo (34, [some (.inr (.inl a)), l1], [.inr (.inl a), v0], S) := rn_step dX9_overIfSo_33 rfl rfl
theorem eX9_overIfSo_34 {l0 l1 : Option VV} {v1 : VV} {S : MM} : rn xX9_overIfSo (34, [l0, l1], [vR 593, v1], S) = rn xX9_overIfSo (37, [l0, l1], [vR 594, v1], S) := q_getR dX9_overIfSo_34 rfl ⟨⟨by decide, by decide⟩, by decide⟩ (fun _ => by decide +kernel) kd593
theorem eX9_overIfSo_37 {l0 l1 : Option VV} {v0 v1 : VV} {S : MM} : rn xX9_overIfSo (37, [l0, l1], [v0, v1], S) = rn xX9_overIfSo (38, [l0, l1], [vI 1, v0, v1], S) := rn_step dX9_overIfSo_37 rfl rfl
theorem eX9_overIfSo_38 {i : Nat} {j : Int} {l0 l1 : Option VV} {v2 : VV} (h : kd i = 10) (h0 : 0 ≤ j) (h1 : j < alen i) {S : MM} : rn xX9_overIfSo (38, [l0, l1], [vI j, vR i, v2], S) = rn xX9_overIfSo (39, [l0, l1], [vI (S i j.toNat), v2], S) := q_iald dX9_overIfSo_38 h h0 h1
theorem eX9_overIfSo_38x {j : Int} {l0 l1 : Option VV} {v2 : VV} {S : MM} (h0 : 0 ≤ j) (h1 : j < S 604 0) : rn xX9_overIfSo (38, [l0, l1], [vI j, vR 602, v2], S) = rn xX9_overIfSo (39, [l0, l1], [vI (S 602 j.toNat), v2], S) := q_ialdX dX9_overIfSo_38 h0 h1
theorem eX9_overIfSo_38y {j : Int} {l0 l1 : Option VV} {v2 : VV} {S : MM} (h0 : 0 ≤ j) (h1 : j < S 604 1) : rn xX9_overIfSo (38, [l0, l1], [vI j, vR 603, v2], S) = rn xX9_overIfSo (39, [l0, l1], [vI (S 603 j.toNat), v2], S) := q_ialdY dX9_overIfSo_38 h0 h1
theorem eX9_overIfSo_39 {a b : Int} {l0 l1 : Option VV} (h : -2147483648 ≤ a ∧ a ≤ 2147483647) (h1 : -2147483648 ≤ b ∧ b ≤ 2147483647) {S : MM} : rn xX9_overIfSo (39, [l0, l1], [vI b, vI a], S) = if b < a then rn xX9_overIfSo (42, [l0, l1], [], S) else rn xX9_overIfSo (49, [l0, l1], [], S) := q_icmp_le dX9_overIfSo_39 (by decide) rfl h h1
theorem eX9_overIfSo_42 {a : Option Nat} {l1 : Option VV} {S : MM} : rn xX9_overIfSo (42, [some (.inr (.inl a)), l1], [], S) = rn xX9_overIfSo (43, [some (.inr (.inl a)), l1], [.inr (.inl a)], S) := rn_step dX9_overIfSo_42 rfl rfl
theorem eX9_overIfSo_43 {l0 l1 : Option VV} {S : MM} : rn xX9_overIfSo (43, [l0, l1], [vR 593], S) = rn xX9_overIfSo (46, [l0, l1], [vR 594], S) := q_getR dX9_overIfSo_43 rfl ⟨⟨by decide, by decide⟩, by decide⟩ (fun _ => by decide +kernel) kd593
theorem eX9_overIfSo_46 {l0 l1 : Option VV} {v0 : VV} {S : MM} : rn xX9_overIfSo (46, [l0, l1], [v0], S) = rn xX9_overIfSo (47, [l0, l1], [vI 4, v0], S) := rn_step dX9_overIfSo_46 rfl rfl
theorem eX9_overIfSo_47 {l0 l1 : Option VV} {v0 v1 : VV} {S : MM} : rn xX9_overIfSo (47, [l0, l1], [v0, v1], S) = rn xX9_overIfSo (48, [l0, l1], [vI 2, v0, v1], S) := rn_step dX9_overIfSo_47 rfl rfl
theorem eX9_overIfSo_48 {i : Nat} {j z : Int} {l0 l1 : Option VV} (h : kd i = 10) (h0 : 0 ≤ j) (h1 : j < alen i) {S : MM} : rn xX9_overIfSo (48, [l0, l1], [vI z, vI j, vR i], S) = rn xX9_overIfSo (49, [l0, l1], [], updM S i j.toNat z) := q_iast dX9_overIfSo_48 h h0 h1
theorem eX9_overIfSo_49 {a : Int} {w : Option Nat} {S : MM} : rn xX9_overIfSo (49, [some (.inr (.inl w)), some (vI a)], [], S) = rn xX9_overIfSo (52, [some (.inr (.inl w)), some (vI (a + 1))], [], S) := rn_step dX9_overIfSo_49 rfl rfl
theorem eX9_overIfSo_52 {l0 l1 : Option VV} {S : MM} : rn xX9_overIfSo (52, [l0, l1], [], S) = rn xX9_overIfSo (2, [l0, l1], [], S) := rn_step dX9_overIfSo_52 rfl rfl
theorem eX9_overIfSo_55 {l0 l1 : Option VV} {S : MM} : rn xX9_overIfSo (55, [l0, l1], [], S) = some (none, S) := q_retV dX9_overIfSo_55 rfl
noncomputable def qlX9_greatest : List CE := [(0, 57, 9, 2, fX9_stands)]
noncomputable def xX9_greatest : XX := (cX9_greatest, fcF fcl9, mcF qlX9_greatest, 1)
noncomputable def fX9_greatest : FN := fnX xX9_greatest 3
set_option maxRecDepth 100000 in
theorem cwX9_greatest : Cond.code yX9_greatest cX9_greatest 3 (some .int) ∈ lw_g := lw_gm 986 (by decide +kernel) (by decide +kernel)
set_option maxRecDepth 100000 in
theorem conX9_greatest : Con yX9_greatest cX9_greatest 3 (some .int) { frames := 1, cells := 0, slots := 0, locals := 21 } fX9_greatest := con_of (X := xX9_greatest) (own := "LeapStonesModel") (ql := qlX9_greatest) (by decide) rfl FOK9 rfl (List.forall_mem_cons.mpr ⟨call_V conX9_stands cwX9_stands (lw_gl _ [975, 977, 27, 84] (by decide +kernel) (by decide +kernel)) (by decide) rfl ⟨by decide, by decide, by decide +kernel⟩ ⟨rfl, rfl⟩ ⟨by decide, by decide⟩ ⟨Nat.le_refl _, Nat.le_refl _⟩, fun _ h => absurd h List.not_mem_nil⟩) (Or.inr (Or.inl ⟨rfl, rfl⟩))
theorem uX9_greatest {i : Nat} {S : MM} : fX9_greatest [vR i] S = rn xX9_greatest (0, [some (vR i), none, none], [], S) := rfl
theorem dX9_greatest_0 : decode cX9_greatest 0 = .ok (.iconst 0, 1) := by decide +kernel
theorem dX9_greatest_1 : decode cX9_greatest 1 = .ok (.istore_n 1, 1) := by decide +kernel
theorem dX9_greatest_2 : decode cX9_greatest 2 = .ok (.iconst 0, 1) := by decide +kernel
theorem dX9_greatest_3 : decode cX9_greatest 3 = .ok (.istore_n 2, 1) := by decide +kernel
theorem dX9_greatest_4 : decode cX9_greatest 4 = .ok (.iload_n 2, 1) := by decide +kernel
theorem dX9_greatest_5 : decode cX9_greatest 5 = .ok (.iconst 3, 1) := by decide +kernel
theorem dX9_greatest_6 : decode cX9_greatest 6 = .ok (.if_icmp .ge 28, 3) := by decide +kernel
theorem dX9_greatest_9 : decode cX9_greatest 9 = .ok (.aload_n 0, 1) := by decide +kernel
theorem dX9_greatest_10 : decode cX9_greatest 10 = .ok (.iload_n 2, 1) := by decide +kernel
theorem dX9_greatest_11 : decode cX9_greatest 11 = .ok (.invokevirtual 57, 3) := by decide +kernel
theorem dX9_greatest_14 : decode cX9_greatest 14 = .ok (.iload_n 1, 1) := by decide +kernel
theorem dX9_greatest_15 : decode cX9_greatest 15 = .ok (.if_icmp .le 11, 3) := by decide +kernel
theorem dX9_greatest_18 : decode cX9_greatest 18 = .ok (.aload_n 0, 1) := by decide +kernel
theorem dX9_greatest_19 : decode cX9_greatest 19 = .ok (.iload_n 2, 1) := by decide +kernel
theorem dX9_greatest_20 : decode cX9_greatest 20 = .ok (.invokevirtual 57, 3) := by decide +kernel
theorem dX9_greatest_23 : decode cX9_greatest 23 = .ok (.goto 4, 3) := by decide +kernel
theorem dX9_greatest_26 : decode cX9_greatest 26 = .ok (.iload_n 1, 1) := by decide +kernel
theorem dX9_greatest_27 : decode cX9_greatest 27 = .ok (.istore_n 1, 1) := by decide +kernel
theorem dX9_greatest_28 : decode cX9_greatest 28 = .ok (.iinc 2 1, 3) := by decide +kernel
theorem dX9_greatest_31 : decode cX9_greatest 31 = .ok (.goto (-27), 3) := by decide +kernel
theorem dX9_greatest_34 : decode cX9_greatest 34 = .ok (.iload_n 1, 1) := by decide +kernel
theorem dX9_greatest_35 : decode cX9_greatest 35 = .ok (.ireturn, 1) := by decide +kernel
theorem eX9_greatest_0 {l0 l1 l2 : Option VV} {S : MM} : rn xX9_greatest (0, [l0, l1, l2], [], S) = rn xX9_greatest (1, [l0, l1, l2], [vI 0], S) := rn_step dX9_greatest_0 rfl rfl
theorem eX9_greatest_1 {a : Int} {w : Option Nat} {l1 l2 : Option VV} {S : MM} : rn xX9_greatest (1, [some (.inr (.inl w)), l1, l2], [vI a], S) = rn xX9_greatest (2, [some (.inr (.inl w)), some (vI a), l2], [], S) := rn_step dX9_greatest_1 rfl rfl
theorem eX9_greatest_2 {l0 l1 l2 : Option VV} {S : MM} : rn xX9_greatest (2, [l0, l1, l2], [], S) = rn xX9_greatest (3, [l0, l1, l2], [vI 0], S) := rn_step dX9_greatest_2 rfl rfl
theorem eX9_greatest_3 {a : Int} {w : Int} {l0 l2 : Option VV} {S : MM} : rn xX9_greatest (3, [l0, some (vI w), l2], [vI a], S) = rn xX9_greatest (4, [l0, some (vI w), some (vI a)], [], S) := rn_step dX9_greatest_3 rfl rfl
theorem eX9_greatest_4 {a : Int} {l0 l1 : Option VV} {S : MM} : rn xX9_greatest (4, [l0, l1, some (vI a)], [], S) = rn xX9_greatest (5, [l0, l1, some (vI a)], [vI a], S) := rn_step dX9_greatest_4 rfl rfl
theorem eX9_greatest_5 {l0 l1 l2 : Option VV} {v0 : VV} {S : MM} : rn xX9_greatest (5, [l0, l1, l2], [v0], S) = rn xX9_greatest (6, [l0, l1, l2], [vI 3, v0], S) := rn_step dX9_greatest_5 rfl rfl
theorem eX9_greatest_6 {a b : Int} {l0 l1 l2 : Option VV} (h : -2147483648 ≤ a ∧ a ≤ 2147483647) (h1 : -2147483648 ≤ b ∧ b ≤ 2147483647) {S : MM} : rn xX9_greatest (6, [l0, l1, l2], [vI b, vI a], S) = if a < b then rn xX9_greatest (9, [l0, l1, l2], [], S) else rn xX9_greatest (34, [l0, l1, l2], [], S) := q_icmp_ge dX9_greatest_6 (by decide) rfl h h1
theorem eX9_greatest_9 {a : Option Nat} {l1 l2 : Option VV} {S : MM} : rn xX9_greatest (9, [some (.inr (.inl a)), l1, l2], [], S) = rn xX9_greatest (10, [some (.inr (.inl a)), l1, l2], [.inr (.inl a)], S) := rn_step dX9_greatest_9 rfl rfl
theorem eX9_greatest_10 {a : Int} {l0 l1 : Option VV} {v0 : VV} {S : MM} : rn xX9_greatest (10, [l0, l1, some (vI a)], [v0], S) = rn xX9_greatest (11, [l0, l1, some (vI a)], [vI a, v0], S) := rn_step dX9_greatest_10 rfl rfl
theorem eX9_greatest_11 {a0 : Int} {l0 l1 l2 : Option VV} {S : MM} : rn xX9_greatest (11, [l0, l1, l2], [vI a0, vR 593], S) = (fX9_stands [vR 593, vI a0] S).bind (fun q => rn xX9_greatest (14, [l0, l1, l2], q.1.toList ++ [], q.2)) := q_callV (n := 1) (as := [vI a0]) (rest := []) dX9_greatest_11 rfl rfl rfl rfl kd593
theorem eX9_greatest_14 {a : Int} {l0 l2 : Option VV} {v0 : VV} {S : MM} : rn xX9_greatest (14, [l0, some (vI a), l2], [v0], S) = rn xX9_greatest (15, [l0, some (vI a), l2], [vI a, v0], S) := rn_step dX9_greatest_14 rfl rfl
theorem eX9_greatest_15 {a b : Int} {l0 l1 l2 : Option VV} (h : -2147483648 ≤ a ∧ a ≤ 2147483647) (h1 : -2147483648 ≤ b ∧ b ≤ 2147483647) {S : MM} : rn xX9_greatest (15, [l0, l1, l2], [vI b, vI a], S) = if b < a then rn xX9_greatest (18, [l0, l1, l2], [], S) else rn xX9_greatest (26, [l0, l1, l2], [], S) := q_icmp_le dX9_greatest_15 (by decide) rfl h h1
theorem eX9_greatest_18 {a : Option Nat} {l1 l2 : Option VV} {S : MM} : rn xX9_greatest (18, [some (.inr (.inl a)), l1, l2], [], S) = rn xX9_greatest (19, [some (.inr (.inl a)), l1, l2], [.inr (.inl a)], S) := rn_step dX9_greatest_18 rfl rfl
theorem eX9_greatest_19 {a : Int} {l0 l1 : Option VV} {v0 : VV} {S : MM} : rn xX9_greatest (19, [l0, l1, some (vI a)], [v0], S) = rn xX9_greatest (20, [l0, l1, some (vI a)], [vI a, v0], S) := rn_step dX9_greatest_19 rfl rfl
theorem eX9_greatest_20 {a0 : Int} {l0 l1 l2 : Option VV} {S : MM} : rn xX9_greatest (20, [l0, l1, l2], [vI a0, vR 593], S) = (fX9_stands [vR 593, vI a0] S).bind (fun q => rn xX9_greatest (23, [l0, l1, l2], q.1.toList ++ [], q.2)) := q_callV (n := 1) (as := [vI a0]) (rest := []) dX9_greatest_20 rfl rfl rfl rfl kd593
theorem eX9_greatest_23 {l0 l1 l2 : Option VV} {v0 : VV} {S : MM} : rn xX9_greatest (23, [l0, l1, l2], [v0], S) = rn xX9_greatest (27, [l0, l1, l2], [v0], S) := rn_step dX9_greatest_23 rfl rfl
theorem eX9_greatest_26 {a : Int} {l0 l2 : Option VV} {S : MM} : rn xX9_greatest (26, [l0, some (vI a), l2], [], S) = rn xX9_greatest (27, [l0, some (vI a), l2], [vI a], S) := rn_step dX9_greatest_26 rfl rfl
theorem eX9_greatest_27 {a : Int} {w : Option Nat} {l1 l2 : Option VV} {S : MM} : rn xX9_greatest (27, [some (.inr (.inl w)), l1, l2], [vI a], S) = rn xX9_greatest (28, [some (.inr (.inl w)), some (vI a), l2], [], S) := rn_step dX9_greatest_27 rfl rfl
theorem eX9_greatest_28 {a : Int} {w : Int} {l0 : Option VV} {S : MM} : rn xX9_greatest (28, [l0, some (vI w), some (vI a)], [], S) = rn xX9_greatest (31, [l0, some (vI w), some (vI (a + 1))], [], S) := rn_step dX9_greatest_28 rfl rfl
theorem eX9_greatest_31 {l0 l1 l2 : Option VV} {S : MM} : rn xX9_greatest (31, [l0, l1, l2], [], S) = rn xX9_greatest (4, [l0, l1, l2], [], S) := rn_step dX9_greatest_31 rfl rfl
theorem eX9_greatest_34 {a : Int} {l0 l2 : Option VV} {S : MM} : rn xX9_greatest (34, [l0, some (vI a), l2], [], S) = rn xX9_greatest (35, [l0, some (vI a), l2], [vI a], S) := rn_step dX9_greatest_34 rfl rfl
theorem eX9_greatest_35 {z : Int} {l0 l1 l2 : Option VV} {S : MM} : rn xX9_greatest (35, [l0, l1, l2], [vI z], S) = some (some (vI z), S) := q_retI dX9_greatest_35 rfl
noncomputable def qlX9_rowsAt : List CE := [(0, 39, 9, 3, fX9_repeats)]
noncomputable def xX9_rowsAt : XX := (cX9_rowsAt, fcF fcl9, mcF qlX9_rowsAt, 1)
noncomputable def fX9_rowsAt : FN := fnX xX9_rowsAt 2
set_option maxRecDepth 100000 in
theorem cwX9_rowsAt : Cond.code yX9_rowsAt cX9_rowsAt 2 (some .int) ∈ lw_g := lw_gm 982 (by decide +kernel) (by decide +kernel)
set_option maxRecDepth 100000 in
theorem conX9_rowsAt : Con yX9_rowsAt cX9_rowsAt 2 (some .int) { frames := 1, cells := 0, slots := 0, locals := 22 } fX9_rowsAt := con_of (X := xX9_rowsAt) (own := "LeapStonesModel") (ql := qlX9_rowsAt) (by decide) rfl FOK9 rfl (List.forall_mem_cons.mpr ⟨call_V conX9_repeats cwX9_repeats (lw_gl _ [959, 961, 23, 84] (by decide +kernel) (by decide +kernel)) (by decide) rfl ⟨by decide, by decide, by decide +kernel⟩ ⟨rfl, rfl⟩ ⟨by decide, by decide⟩ ⟨Nat.le_refl _, Nat.le_refl _⟩, fun _ h => absurd h List.not_mem_nil⟩) (Or.inr (Or.inl ⟨rfl, rfl⟩))
theorem uX9_rowsAt {i : Nat} {a0 : Int} {S : MM} : fX9_rowsAt [vR i, vI a0] S = rn xX9_rowsAt (0, [some (vR i), some (vI a0)], [], S) := rfl
theorem dX9_rowsAt_0 : decode cX9_rowsAt 0 = .ok (.aload_n 0, 1) := by decide +kernel
theorem dX9_rowsAt_1 : decode cX9_rowsAt 1 = .ok (.iconst 0, 1) := by decide +kernel
theorem dX9_rowsAt_2 : decode cX9_rowsAt 2 = .ok (.iload_n 1, 1) := by decide +kernel
theorem dX9_rowsAt_3 : decode cX9_rowsAt 3 = .ok (.invokevirtual 39, 3) := by decide +kernel
theorem dX9_rowsAt_6 : decode cX9_rowsAt 6 = .ok (.aload_n 0, 1) := by decide +kernel
theorem dX9_rowsAt_7 : decode cX9_rowsAt 7 = .ok (.iconst 1, 1) := by decide +kernel
theorem dX9_rowsAt_8 : decode cX9_rowsAt 8 = .ok (.iload_n 1, 1) := by decide +kernel
theorem dX9_rowsAt_9 : decode cX9_rowsAt 9 = .ok (.invokevirtual 39, 3) := by decide +kernel
theorem dX9_rowsAt_12 : decode cX9_rowsAt 12 = .ok (.imul, 1) := by decide +kernel
theorem dX9_rowsAt_13 : decode cX9_rowsAt 13 = .ok (.aload_n 0, 1) := by decide +kernel
theorem dX9_rowsAt_14 : decode cX9_rowsAt 14 = .ok (.iconst 2, 1) := by decide +kernel
theorem dX9_rowsAt_15 : decode cX9_rowsAt 15 = .ok (.iload_n 1, 1) := by decide +kernel
theorem dX9_rowsAt_16 : decode cX9_rowsAt 16 = .ok (.invokevirtual 39, 3) := by decide +kernel
theorem dX9_rowsAt_19 : decode cX9_rowsAt 19 = .ok (.imul, 1) := by decide +kernel
theorem dX9_rowsAt_20 : decode cX9_rowsAt 20 = .ok (.ireturn, 1) := by decide +kernel
theorem eX9_rowsAt_0 {a : Option Nat} {l1 : Option VV} {S : MM} : rn xX9_rowsAt (0, [some (.inr (.inl a)), l1], [], S) = rn xX9_rowsAt (1, [some (.inr (.inl a)), l1], [.inr (.inl a)], S) := rn_step dX9_rowsAt_0 rfl rfl
theorem eX9_rowsAt_1 {l0 l1 : Option VV} {v0 : VV} {S : MM} : rn xX9_rowsAt (1, [l0, l1], [v0], S) = rn xX9_rowsAt (2, [l0, l1], [vI 0, v0], S) := rn_step dX9_rowsAt_1 rfl rfl
theorem eX9_rowsAt_2 {a : Int} {l0 : Option VV} {v0 v1 : VV} {S : MM} : rn xX9_rowsAt (2, [l0, some (vI a)], [v0, v1], S) = rn xX9_rowsAt (3, [l0, some (vI a)], [vI a, v0, v1], S) := rn_step dX9_rowsAt_2 rfl rfl
theorem eX9_rowsAt_3 {a0 : Int} {a1 : Int} {l0 l1 : Option VV} {S : MM} : rn xX9_rowsAt (3, [l0, l1], [vI a1, vI a0, vR 593], S) = (fX9_repeats [vR 593, vI a0, vI a1] S).bind (fun q => rn xX9_rowsAt (6, [l0, l1], q.1.toList ++ [], q.2)) := q_callV (n := 2) (as := [vI a0, vI a1]) (rest := []) dX9_rowsAt_3 rfl rfl rfl rfl kd593
theorem eX9_rowsAt_6 {a : Option Nat} {l1 : Option VV} {v0 : VV} {S : MM} : rn xX9_rowsAt (6, [some (.inr (.inl a)), l1], [v0], S) = rn xX9_rowsAt (7, [some (.inr (.inl a)), l1], [.inr (.inl a), v0], S) := rn_step dX9_rowsAt_6 rfl rfl
theorem eX9_rowsAt_7 {l0 l1 : Option VV} {v0 v1 : VV} {S : MM} : rn xX9_rowsAt (7, [l0, l1], [v0, v1], S) = rn xX9_rowsAt (8, [l0, l1], [vI 1, v0, v1], S) := rn_step dX9_rowsAt_7 rfl rfl
theorem eX9_rowsAt_8 {a : Int} {l0 : Option VV} {v0 v1 v2 : VV} {S : MM} : rn xX9_rowsAt (8, [l0, some (vI a)], [v0, v1, v2], S) = rn xX9_rowsAt (9, [l0, some (vI a)], [vI a, v0, v1, v2], S) := rn_step dX9_rowsAt_8 rfl rfl
theorem eX9_rowsAt_9 {a0 : Int} {a1 : Int} {l0 l1 : Option VV} {v3 : VV} {S : MM} : rn xX9_rowsAt (9, [l0, l1], [vI a1, vI a0, vR 593, v3], S) = (fX9_repeats [vR 593, vI a0, vI a1] S).bind (fun q => rn xX9_rowsAt (12, [l0, l1], q.1.toList ++ [v3], q.2)) := q_callV (n := 2) (as := [vI a0, vI a1]) (rest := [v3]) dX9_rowsAt_9 rfl rfl rfl rfl kd593
theorem eX9_rowsAt_12 {a b : Int} {l0 l1 : Option VV} {S : MM} : rn xX9_rowsAt (12, [l0, l1], [vI b, vI a], S) = rn xX9_rowsAt (13, [l0, l1], [vI (a * b)], S) := rn_step dX9_rowsAt_12 rfl rfl
theorem eX9_rowsAt_13 {a : Option Nat} {l1 : Option VV} {v0 : VV} {S : MM} : rn xX9_rowsAt (13, [some (.inr (.inl a)), l1], [v0], S) = rn xX9_rowsAt (14, [some (.inr (.inl a)), l1], [.inr (.inl a), v0], S) := rn_step dX9_rowsAt_13 rfl rfl
theorem eX9_rowsAt_14 {l0 l1 : Option VV} {v0 v1 : VV} {S : MM} : rn xX9_rowsAt (14, [l0, l1], [v0, v1], S) = rn xX9_rowsAt (15, [l0, l1], [vI 2, v0, v1], S) := rn_step dX9_rowsAt_14 rfl rfl
theorem eX9_rowsAt_15 {a : Int} {l0 : Option VV} {v0 v1 v2 : VV} {S : MM} : rn xX9_rowsAt (15, [l0, some (vI a)], [v0, v1, v2], S) = rn xX9_rowsAt (16, [l0, some (vI a)], [vI a, v0, v1, v2], S) := rn_step dX9_rowsAt_15 rfl rfl
theorem eX9_rowsAt_16 {a0 : Int} {a1 : Int} {l0 l1 : Option VV} {v3 : VV} {S : MM} : rn xX9_rowsAt (16, [l0, l1], [vI a1, vI a0, vR 593, v3], S) = (fX9_repeats [vR 593, vI a0, vI a1] S).bind (fun q => rn xX9_rowsAt (19, [l0, l1], q.1.toList ++ [v3], q.2)) := q_callV (n := 2) (as := [vI a0, vI a1]) (rest := [v3]) dX9_rowsAt_16 rfl rfl rfl rfl kd593
theorem eX9_rowsAt_19 {a b : Int} {l0 l1 : Option VV} {S : MM} : rn xX9_rowsAt (19, [l0, l1], [vI b, vI a], S) = rn xX9_rowsAt (20, [l0, l1], [vI (a * b)], S) := rn_step dX9_rowsAt_19 rfl rfl
theorem eX9_rowsAt_20 {z : Int} {l0 l1 : Option VV} {S : MM} : rn xX9_rowsAt (20, [l0, l1], [vI z], S) = some (some (vI z), S) := q_retI dX9_rowsAt_20 rfl
noncomputable def qlX9_lookRound : List CE := [(0, 60, 9, 1, fX9_overIfSo), (0, 57, 9, 2, fX9_stands), (0, 63, 9, 2, fX9_rowsAt), (0, 66, 9, 1, fX9_greatest)]
noncomputable def xX9_lookRound : XX := (cX9_lookRound, fcF fcl9, mcF qlX9_lookRound, 0)
noncomputable def fX9_lookRound : FN := fnX xX9_lookRound 2
set_option maxRecDepth 100000 in
theorem cwX9_lookRound : Cond.code yX9_lookRound cX9_lookRound 2 none ∈ lw_g := lw_gm 970 (by decide +kernel) (by decide +kernel)
set_option maxRecDepth 100000 in
theorem conX9_lookRound : Con yX9_lookRound cX9_lookRound 2 none { frames := 2, cells := 0, slots := 0, locals := 43 } fX9_lookRound := con_of (X := xX9_lookRound) (own := "LeapStonesModel") (ql := qlX9_lookRound) (by decide) rfl FOK9 rfl (List.forall_mem_cons.mpr ⟨call_V conX9_overIfSo cwX9_overIfSo (lw_gl _ [971, 973, 26, 84] (by decide +kernel) (by decide +kernel)) (by decide) rfl ⟨by decide, by decide, by decide +kernel⟩ ⟨rfl, rfl⟩ ⟨by decide, by decide⟩ ⟨Nat.le_refl _, Nat.le_refl _⟩, List.forall_mem_cons.mpr ⟨call_V conX9_stands cwX9_stands (lw_gl _ [975, 977, 27, 84] (by decide +kernel) (by decide +kernel)) (by decide) rfl ⟨by decide, by decide, by decide +kernel⟩ ⟨rfl, rfl⟩ ⟨by decide, by decide⟩ ⟨Nat.le_refl _, Nat.le_refl _⟩, List.forall_mem_cons.mpr ⟨call_V conX9_rowsAt cwX9_rowsAt (lw_gl _ [979, 981, 28, 84] (by decide +kernel) (by decide +kernel)) (by decide) rfl ⟨by decide, by decide, by decide +kernel⟩ ⟨rfl, rfl⟩ ⟨by decide, by decide⟩ ⟨Nat.le_refl _, Nat.le_refl _⟩, List.forall_mem_cons.mpr ⟨call_V conX9_greatest cwX9_greatest (lw_gl _ [983, 985, 29, 84] (by decide +kernel) (by decide +kernel)) (by decide) rfl ⟨by decide, by decide, by decide +kernel⟩ ⟨rfl, rfl⟩ ⟨by decide, by decide⟩ ⟨Nat.le_refl _, Nat.le_refl _⟩, fun _ h => absurd h List.not_mem_nil⟩⟩⟩⟩) (Or.inl ⟨rfl, rfl⟩)
theorem uX9_lookRound {i : Nat} {S : MM} : fX9_lookRound [vR i] S = rn xX9_lookRound (0, [some (vR i), none], [], S) := rfl
theorem dX9_lookRound_0 : decode cX9_lookRound 0 = .ok (.aload_n 0, 1) := by decide +kernel
theorem dX9_lookRound_1 : decode cX9_lookRound 1 = .ok (.invokevirtual 60, 3) := by decide +kernel
theorem dX9_lookRound_4 : decode cX9_lookRound 4 = .ok (.aload_n 0, 1) := by decide +kernel
theorem dX9_lookRound_5 : decode cX9_lookRound 5 = .ok (.getfield 7, 3) := by decide +kernel
theorem dX9_lookRound_8 : decode cX9_lookRound 8 = .ok (.iconst 4, 1) := by decide +kernel
theorem dX9_lookRound_9 : decode cX9_lookRound 9 = .ok (.iaload, 1) := by decide +kernel
theorem dX9_lookRound_10 : decode cX9_lookRound 10 = .ok (.iconst 1, 1) := by decide +kernel
theorem dX9_lookRound_11 : decode cX9_lookRound 11 = .ok (.if_icmp .eq 4, 3) := by decide +kernel
theorem dX9_lookRound_14 : decode cX9_lookRound 14 = .ok (.return_, 1) := by decide +kernel
theorem dX9_lookRound_15 : decode cX9_lookRound 15 = .ok (.aload_n 0, 1) := by decide +kernel
theorem dX9_lookRound_16 : decode cX9_lookRound 16 = .ok (.iconst 0, 1) := by decide +kernel
theorem dX9_lookRound_17 : decode cX9_lookRound 17 = .ok (.invokevirtual 57, 3) := by decide +kernel
theorem dX9_lookRound_20 : decode cX9_lookRound 20 = .ok (.istore_n 1, 1) := by decide +kernel
theorem dX9_lookRound_21 : decode cX9_lookRound 21 = .ok (.aload_n 0, 1) := by decide +kernel
theorem dX9_lookRound_22 : decode cX9_lookRound 22 = .ok (.iconst 1, 1) := by decide +kernel
theorem dX9_lookRound_23 : decode cX9_lookRound 23 = .ok (.invokevirtual 57, 3) := by decide +kernel
theorem dX9_lookRound_26 : decode cX9_lookRound 26 = .ok (.iload_n 1, 1) := by decide +kernel
theorem dX9_lookRound_27 : decode cX9_lookRound 27 = .ok (.if_icmp .ne 49, 3) := by decide +kernel
theorem dX9_lookRound_30 : decode cX9_lookRound 30 = .ok (.aload_n 0, 1) := by decide +kernel
theorem dX9_lookRound_31 : decode cX9_lookRound 31 = .ok (.iconst 2, 1) := by decide +kernel
theorem dX9_lookRound_32 : decode cX9_lookRound 32 = .ok (.invokevirtual 57, 3) := by decide +kernel
theorem dX9_lookRound_35 : decode cX9_lookRound 35 = .ok (.iload_n 1, 1) := by decide +kernel
theorem dX9_lookRound_36 : decode cX9_lookRound 36 = .ok (.if_icmp .ne 40, 3) := by decide +kernel
theorem dX9_lookRound_39 : decode cX9_lookRound 39 = .ok (.iload_n 1, 1) := by decide +kernel
theorem dX9_lookRound_40 : decode cX9_lookRound 40 = .ok (.aload_n 0, 1) := by decide +kernel
theorem dX9_lookRound_41 : decode cX9_lookRound 41 = .ok (.getfield 7, 3) := by decide +kernel
theorem dX9_lookRound_44 : decode cX9_lookRound 44 = .ok (.iconst 5, 1) := by decide +kernel
theorem dX9_lookRound_45 : decode cX9_lookRound 45 = .ok (.iaload, 1) := by decide +kernel
theorem dX9_lookRound_46 : decode cX9_lookRound 46 = .ok (.if_icmp .lt 30, 3) := by decide +kernel
theorem dX9_lookRound_49 : decode cX9_lookRound 49 = .ok (.aload_n 0, 1) := by decide +kernel
theorem dX9_lookRound_50 : decode cX9_lookRound 50 = .ok (.getfield 7, 3) := by decide +kernel
theorem dX9_lookRound_53 : decode cX9_lookRound 53 = .ok (.sipush 925, 3) := by decide +kernel
theorem dX9_lookRound_56 : decode cX9_lookRound 56 = .ok (.iload_n 1, 1) := by decide +kernel
theorem dX9_lookRound_57 : decode cX9_lookRound 57 = .ok (.iadd, 1) := by decide +kernel
theorem dX9_lookRound_58 : decode cX9_lookRound 58 = .ok (.aload_n 0, 1) := by decide +kernel
theorem dX9_lookRound_59 : decode cX9_lookRound 59 = .ok (.iload_n 1, 1) := by decide +kernel
theorem dX9_lookRound_60 : decode cX9_lookRound 60 = .ok (.invokevirtual 63, 3) := by decide +kernel
theorem dX9_lookRound_63 : decode cX9_lookRound 63 = .ok (.iastore, 1) := by decide +kernel
theorem dX9_lookRound_64 : decode cX9_lookRound 64 = .ok (.aload_n 0, 1) := by decide +kernel
theorem dX9_lookRound_65 : decode cX9_lookRound 65 = .ok (.getfield 7, 3) := by decide +kernel
theorem dX9_lookRound_68 : decode cX9_lookRound 68 = .ok (.iconst 5, 1) := by decide +kernel
theorem dX9_lookRound_69 : decode cX9_lookRound 69 = .ok (.iload_n 1, 1) := by decide +kernel
theorem dX9_lookRound_70 : decode cX9_lookRound 70 = .ok (.iconst 1, 1) := by decide +kernel
theorem dX9_lookRound_71 : decode cX9_lookRound 71 = .ok (.iadd, 1) := by decide +kernel
theorem dX9_lookRound_72 : decode cX9_lookRound 72 = .ok (.iastore, 1) := by decide +kernel
theorem dX9_lookRound_73 : decode cX9_lookRound 73 = .ok (.goto 26, 3) := by decide +kernel
theorem dX9_lookRound_76 : decode cX9_lookRound 76 = .ok (.aload_n 0, 1) := by decide +kernel
theorem dX9_lookRound_77 : decode cX9_lookRound 77 = .ok (.invokevirtual 66, 3) := by decide +kernel
theorem dX9_lookRound_80 : decode cX9_lookRound 80 = .ok (.aload_n 0, 1) := by decide +kernel
theorem dX9_lookRound_81 : decode cX9_lookRound 81 = .ok (.getfield 7, 3) := by decide +kernel
theorem dX9_lookRound_84 : decode cX9_lookRound 84 = .ok (.iconst 5, 1) := by decide +kernel
theorem dX9_lookRound_85 : decode cX9_lookRound 85 = .ok (.iaload, 1) := by decide +kernel
theorem dX9_lookRound_86 : decode cX9_lookRound 86 = .ok (.if_icmp .le 13, 3) := by decide +kernel
theorem dX9_lookRound_89 : decode cX9_lookRound 89 = .ok (.aload_n 0, 1) := by decide +kernel
theorem dX9_lookRound_90 : decode cX9_lookRound 90 = .ok (.getfield 7, 3) := by decide +kernel
theorem dX9_lookRound_93 : decode cX9_lookRound 93 = .ok (.iconst 5, 1) := by decide +kernel
theorem dX9_lookRound_94 : decode cX9_lookRound 94 = .ok (.aload_n 0, 1) := by decide +kernel
theorem dX9_lookRound_95 : decode cX9_lookRound 95 = .ok (.invokevirtual 66, 3) := by decide +kernel
theorem dX9_lookRound_98 : decode cX9_lookRound 98 = .ok (.iastore, 1) := by decide +kernel
theorem dX9_lookRound_99 : decode cX9_lookRound 99 = .ok (.return_, 1) := by decide +kernel
theorem eX9_lookRound_0 {a : Option Nat} {l1 : Option VV} {S : MM} : rn xX9_lookRound (0, [some (.inr (.inl a)), l1], [], S) = rn xX9_lookRound (1, [some (.inr (.inl a)), l1], [.inr (.inl a)], S) := rn_step dX9_lookRound_0 rfl rfl
theorem eX9_lookRound_1 {l0 l1 : Option VV} {S : MM} : rn xX9_lookRound (1, [l0, l1], [vR 593], S) = (fX9_overIfSo [vR 593] S).bind (fun q => rn xX9_lookRound (4, [l0, l1], q.1.toList ++ [], q.2)) := q_callV (n := 0) (as := []) (rest := []) dX9_lookRound_1 rfl rfl rfl rfl kd593
theorem eX9_lookRound_4 {a : Option Nat} {l1 : Option VV} {S : MM} : rn xX9_lookRound (4, [some (.inr (.inl a)), l1], [], S) = rn xX9_lookRound (5, [some (.inr (.inl a)), l1], [.inr (.inl a)], S) := rn_step dX9_lookRound_4 rfl rfl
theorem eX9_lookRound_5 {l0 l1 : Option VV} {S : MM} : rn xX9_lookRound (5, [l0, l1], [vR 593], S) = rn xX9_lookRound (8, [l0, l1], [vR 594], S) := q_getR dX9_lookRound_5 rfl ⟨⟨by decide, by decide⟩, by decide⟩ (fun _ => by decide +kernel) kd593
theorem eX9_lookRound_8 {l0 l1 : Option VV} {v0 : VV} {S : MM} : rn xX9_lookRound (8, [l0, l1], [v0], S) = rn xX9_lookRound (9, [l0, l1], [vI 4, v0], S) := rn_step dX9_lookRound_8 rfl rfl
theorem eX9_lookRound_9 {i : Nat} {j : Int} {l0 l1 : Option VV} (h : kd i = 10) (h0 : 0 ≤ j) (h1 : j < alen i) {S : MM} : rn xX9_lookRound (9, [l0, l1], [vI j, vR i], S) = rn xX9_lookRound (10, [l0, l1], [vI (S i j.toNat)], S) := q_iald dX9_lookRound_9 h h0 h1
theorem eX9_lookRound_9x {j : Int} {l0 l1 : Option VV} {S : MM} (h0 : 0 ≤ j) (h1 : j < S 604 0) : rn xX9_lookRound (9, [l0, l1], [vI j, vR 602], S) = rn xX9_lookRound (10, [l0, l1], [vI (S 602 j.toNat)], S) := q_ialdX dX9_lookRound_9 h0 h1
theorem eX9_lookRound_9y {j : Int} {l0 l1 : Option VV} {S : MM} (h0 : 0 ≤ j) (h1 : j < S 604 1) : rn xX9_lookRound (9, [l0, l1], [vI j, vR 603], S) = rn xX9_lookRound (10, [l0, l1], [vI (S 603 j.toNat)], S) := q_ialdY dX9_lookRound_9 h0 h1
theorem eX9_lookRound_10 {l0 l1 : Option VV} {v0 : VV} {S : MM} : rn xX9_lookRound (10, [l0, l1], [v0], S) = rn xX9_lookRound (11, [l0, l1], [vI 1, v0], S) := rn_step dX9_lookRound_10 rfl rfl
theorem eX9_lookRound_11 {a b : Int} {l0 l1 : Option VV} (h : -2147483648 ≤ a ∧ a ≤ 2147483647) (h1 : -2147483648 ≤ b ∧ b ≤ 2147483647) {S : MM} : rn xX9_lookRound (11, [l0, l1], [vI b, vI a], S) = if a = b then rn xX9_lookRound (15, [l0, l1], [], S) else rn xX9_lookRound (14, [l0, l1], [], S) := q_icmp_eq dX9_lookRound_11 (by decide) rfl h h1
theorem eX9_lookRound_14 {l0 l1 : Option VV} {S : MM} : rn xX9_lookRound (14, [l0, l1], [], S) = some (none, S) := q_retV dX9_lookRound_14 rfl
theorem eX9_lookRound_15 {a : Option Nat} {l1 : Option VV} {S : MM} : rn xX9_lookRound (15, [some (.inr (.inl a)), l1], [], S) = rn xX9_lookRound (16, [some (.inr (.inl a)), l1], [.inr (.inl a)], S) := rn_step dX9_lookRound_15 rfl rfl
theorem eX9_lookRound_16 {l0 l1 : Option VV} {v0 : VV} {S : MM} : rn xX9_lookRound (16, [l0, l1], [v0], S) = rn xX9_lookRound (17, [l0, l1], [vI 0, v0], S) := rn_step dX9_lookRound_16 rfl rfl
theorem eX9_lookRound_17 {a0 : Int} {l0 l1 : Option VV} {S : MM} : rn xX9_lookRound (17, [l0, l1], [vI a0, vR 593], S) = (fX9_stands [vR 593, vI a0] S).bind (fun q => rn xX9_lookRound (20, [l0, l1], q.1.toList ++ [], q.2)) := q_callV (n := 1) (as := [vI a0]) (rest := []) dX9_lookRound_17 rfl rfl rfl rfl kd593
theorem eX9_lookRound_20 {a : Int} {w : Option Nat} {l1 : Option VV} {S : MM} : rn xX9_lookRound (20, [some (.inr (.inl w)), l1], [vI a], S) = rn xX9_lookRound (21, [some (.inr (.inl w)), some (vI a)], [], S) := rn_step dX9_lookRound_20 rfl rfl
theorem eX9_lookRound_21 {a : Option Nat} {l1 : Option VV} {S : MM} : rn xX9_lookRound (21, [some (.inr (.inl a)), l1], [], S) = rn xX9_lookRound (22, [some (.inr (.inl a)), l1], [.inr (.inl a)], S) := rn_step dX9_lookRound_21 rfl rfl
theorem eX9_lookRound_22 {l0 l1 : Option VV} {v0 : VV} {S : MM} : rn xX9_lookRound (22, [l0, l1], [v0], S) = rn xX9_lookRound (23, [l0, l1], [vI 1, v0], S) := rn_step dX9_lookRound_22 rfl rfl
theorem eX9_lookRound_23 {a0 : Int} {l0 l1 : Option VV} {S : MM} : rn xX9_lookRound (23, [l0, l1], [vI a0, vR 593], S) = (fX9_stands [vR 593, vI a0] S).bind (fun q => rn xX9_lookRound (26, [l0, l1], q.1.toList ++ [], q.2)) := q_callV (n := 1) (as := [vI a0]) (rest := []) dX9_lookRound_23 rfl rfl rfl rfl kd593
theorem eX9_lookRound_26 {a : Int} {l0 : Option VV} {v0 : VV} {S : MM} : rn xX9_lookRound (26, [l0, some (vI a)], [v0], S) = rn xX9_lookRound (27, [l0, some (vI a)], [vI a, v0], S) := rn_step dX9_lookRound_26 rfl rfl
theorem eX9_lookRound_27 {a b : Int} {l0 l1 : Option VV} (h : -2147483648 ≤ a ∧ a ≤ 2147483647) (h1 : -2147483648 ≤ b ∧ b ≤ 2147483647) {S : MM} : rn xX9_lookRound (27, [l0, l1], [vI b, vI a], S) = if a = b then rn xX9_lookRound (30, [l0, l1], [], S) else rn xX9_lookRound (76, [l0, l1], [], S) := q_icmp_ne dX9_lookRound_27 (by decide) rfl h h1
theorem eX9_lookRound_30 {a : Option Nat} {l1 : Option VV} {S : MM} : rn xX9_lookRound (30, [some (.inr (.inl a)), l1], [], S) = rn xX9_lookRound (31, [some (.inr (.inl a)), l1], [.inr (.inl a)], S) := rn_step dX9_lookRound_30 rfl rfl
theorem eX9_lookRound_31 {l0 l1 : Option VV} {v0 : VV} {S : MM} : rn xX9_lookRound (31, [l0, l1], [v0], S) = rn xX9_lookRound (32, [l0, l1], [vI 2, v0], S) := rn_step dX9_lookRound_31 rfl rfl
theorem eX9_lookRound_32 {a0 : Int} {l0 l1 : Option VV} {S : MM} : rn xX9_lookRound (32, [l0, l1], [vI a0, vR 593], S) = (fX9_stands [vR 593, vI a0] S).bind (fun q => rn xX9_lookRound (35, [l0, l1], q.1.toList ++ [], q.2)) := q_callV (n := 1) (as := [vI a0]) (rest := []) dX9_lookRound_32 rfl rfl rfl rfl kd593
theorem eX9_lookRound_35 {a : Int} {l0 : Option VV} {v0 : VV} {S : MM} : rn xX9_lookRound (35, [l0, some (vI a)], [v0], S) = rn xX9_lookRound (36, [l0, some (vI a)], [vI a, v0], S) := rn_step dX9_lookRound_35 rfl rfl
theorem eX9_lookRound_36 {a b : Int} {l0 l1 : Option VV} (h : -2147483648 ≤ a ∧ a ≤ 2147483647) (h1 : -2147483648 ≤ b ∧ b ≤ 2147483647) {S : MM} : rn xX9_lookRound (36, [l0, l1], [vI b, vI a], S) = if a = b then rn xX9_lookRound (39, [l0, l1], [], S) else rn xX9_lookRound (76, [l0, l1], [], S) := q_icmp_ne dX9_lookRound_36 (by decide) rfl h h1
theorem eX9_lookRound_39 {a : Int} {l0 : Option VV} {S : MM} : rn xX9_lookRound (39, [l0, some (vI a)], [], S) = rn xX9_lookRound (40, [l0, some (vI a)], [vI a], S) := rn_step dX9_lookRound_39 rfl rfl
theorem eX9_lookRound_40 {a : Option Nat} {l1 : Option VV} {v0 : VV} {S : MM} : rn xX9_lookRound (40, [some (.inr (.inl a)), l1], [v0], S) = rn xX9_lookRound (41, [some (.inr (.inl a)), l1], [.inr (.inl a), v0], S) := rn_step dX9_lookRound_40 rfl rfl
theorem eX9_lookRound_41 {l0 l1 : Option VV} {v1 : VV} {S : MM} : rn xX9_lookRound (41, [l0, l1], [vR 593, v1], S) = rn xX9_lookRound (44, [l0, l1], [vR 594, v1], S) := q_getR dX9_lookRound_41 rfl ⟨⟨by decide, by decide⟩, by decide⟩ (fun _ => by decide +kernel) kd593
theorem eX9_lookRound_44 {l0 l1 : Option VV} {v0 v1 : VV} {S : MM} : rn xX9_lookRound (44, [l0, l1], [v0, v1], S) = rn xX9_lookRound (45, [l0, l1], [vI 5, v0, v1], S) := rn_step dX9_lookRound_44 rfl rfl
theorem eX9_lookRound_45 {i : Nat} {j : Int} {l0 l1 : Option VV} {v2 : VV} (h : kd i = 10) (h0 : 0 ≤ j) (h1 : j < alen i) {S : MM} : rn xX9_lookRound (45, [l0, l1], [vI j, vR i, v2], S) = rn xX9_lookRound (46, [l0, l1], [vI (S i j.toNat), v2], S) := q_iald dX9_lookRound_45 h h0 h1
theorem eX9_lookRound_45x {j : Int} {l0 l1 : Option VV} {v2 : VV} {S : MM} (h0 : 0 ≤ j) (h1 : j < S 604 0) : rn xX9_lookRound (45, [l0, l1], [vI j, vR 602, v2], S) = rn xX9_lookRound (46, [l0, l1], [vI (S 602 j.toNat), v2], S) := q_ialdX dX9_lookRound_45 h0 h1
theorem eX9_lookRound_45y {j : Int} {l0 l1 : Option VV} {v2 : VV} {S : MM} (h0 : 0 ≤ j) (h1 : j < S 604 1) : rn xX9_lookRound (45, [l0, l1], [vI j, vR 603, v2], S) = rn xX9_lookRound (46, [l0, l1], [vI (S 603 j.toNat), v2], S) := q_ialdY dX9_lookRound_45 h0 h1
theorem eX9_lookRound_46 {a b : Int} {l0 l1 : Option VV} (h : -2147483648 ≤ a ∧ a ≤ 2147483647) (h1 : -2147483648 ≤ b ∧ b ≤ 2147483647) {S : MM} : rn xX9_lookRound (46, [l0, l1], [vI b, vI a], S) = if a < b then rn xX9_lookRound (76, [l0, l1], [], S) else rn xX9_lookRound (49, [l0, l1], [], S) := q_icmp_lt dX9_lookRound_46 (by decide) rfl h h1
theorem eX9_lookRound_49 {a : Option Nat} {l1 : Option VV} {S : MM} : rn xX9_lookRound (49, [some (.inr (.inl a)), l1], [], S) = rn xX9_lookRound (50, [some (.inr (.inl a)), l1], [.inr (.inl a)], S) := rn_step dX9_lookRound_49 rfl rfl
theorem eX9_lookRound_50 {l0 l1 : Option VV} {S : MM} : rn xX9_lookRound (50, [l0, l1], [vR 593], S) = rn xX9_lookRound (53, [l0, l1], [vR 594], S) := q_getR dX9_lookRound_50 rfl ⟨⟨by decide, by decide⟩, by decide⟩ (fun _ => by decide +kernel) kd593
theorem eX9_lookRound_53 {l0 l1 : Option VV} {v0 : VV} {S : MM} : rn xX9_lookRound (53, [l0, l1], [v0], S) = rn xX9_lookRound (56, [l0, l1], [vI 925, v0], S) := rn_step dX9_lookRound_53 rfl rfl
theorem eX9_lookRound_56 {a : Int} {l0 : Option VV} {v0 v1 : VV} {S : MM} : rn xX9_lookRound (56, [l0, some (vI a)], [v0, v1], S) = rn xX9_lookRound (57, [l0, some (vI a)], [vI a, v0, v1], S) := rn_step dX9_lookRound_56 rfl rfl
theorem eX9_lookRound_57 {a b : Int} {l0 l1 : Option VV} {v2 : VV} {S : MM} : rn xX9_lookRound (57, [l0, l1], [vI b, vI a, v2], S) = rn xX9_lookRound (58, [l0, l1], [vI (a + b), v2], S) := rn_step dX9_lookRound_57 rfl rfl
theorem eX9_lookRound_58 {a : Option Nat} {l1 : Option VV} {v0 v1 : VV} {S : MM} : rn xX9_lookRound (58, [some (.inr (.inl a)), l1], [v0, v1], S) = rn xX9_lookRound (59, [some (.inr (.inl a)), l1], [.inr (.inl a), v0, v1], S) := rn_step dX9_lookRound_58 rfl rfl
theorem eX9_lookRound_59 {a : Int} {l0 : Option VV} {v0 v1 v2 : VV} {S : MM} : rn xX9_lookRound (59, [l0, some (vI a)], [v0, v1, v2], S) = rn xX9_lookRound (60, [l0, some (vI a)], [vI a, v0, v1, v2], S) := rn_step dX9_lookRound_59 rfl rfl
theorem eX9_lookRound_60 {a0 : Int} {l0 l1 : Option VV} {v2 v3 : VV} {S : MM} : rn xX9_lookRound (60, [l0, l1], [vI a0, vR 593, v2, v3], S) = (fX9_rowsAt [vR 593, vI a0] S).bind (fun q => rn xX9_lookRound (63, [l0, l1], q.1.toList ++ [v2, v3], q.2)) := q_callV (n := 1) (as := [vI a0]) (rest := [v2, v3]) dX9_lookRound_60 rfl rfl rfl rfl kd593
theorem eX9_lookRound_63 {i : Nat} {j z : Int} {l0 l1 : Option VV} (h : kd i = 10) (h0 : 0 ≤ j) (h1 : j < alen i) {S : MM} : rn xX9_lookRound (63, [l0, l1], [vI z, vI j, vR i], S) = rn xX9_lookRound (64, [l0, l1], [], updM S i j.toNat z) := q_iast dX9_lookRound_63 h h0 h1
theorem eX9_lookRound_64 {a : Option Nat} {l1 : Option VV} {S : MM} : rn xX9_lookRound (64, [some (.inr (.inl a)), l1], [], S) = rn xX9_lookRound (65, [some (.inr (.inl a)), l1], [.inr (.inl a)], S) := rn_step dX9_lookRound_64 rfl rfl
theorem eX9_lookRound_65 {l0 l1 : Option VV} {S : MM} : rn xX9_lookRound (65, [l0, l1], [vR 593], S) = rn xX9_lookRound (68, [l0, l1], [vR 594], S) := q_getR dX9_lookRound_65 rfl ⟨⟨by decide, by decide⟩, by decide⟩ (fun _ => by decide +kernel) kd593
theorem eX9_lookRound_68 {l0 l1 : Option VV} {v0 : VV} {S : MM} : rn xX9_lookRound (68, [l0, l1], [v0], S) = rn xX9_lookRound (69, [l0, l1], [vI 5, v0], S) := rn_step dX9_lookRound_68 rfl rfl
theorem eX9_lookRound_69 {a : Int} {l0 : Option VV} {v0 v1 : VV} {S : MM} : rn xX9_lookRound (69, [l0, some (vI a)], [v0, v1], S) = rn xX9_lookRound (70, [l0, some (vI a)], [vI a, v0, v1], S) := rn_step dX9_lookRound_69 rfl rfl
theorem eX9_lookRound_70 {l0 l1 : Option VV} {v0 v1 v2 : VV} {S : MM} : rn xX9_lookRound (70, [l0, l1], [v0, v1, v2], S) = rn xX9_lookRound (71, [l0, l1], [vI 1, v0, v1, v2], S) := rn_step dX9_lookRound_70 rfl rfl
theorem eX9_lookRound_71 {a b : Int} {l0 l1 : Option VV} {v2 v3 : VV} {S : MM} : rn xX9_lookRound (71, [l0, l1], [vI b, vI a, v2, v3], S) = rn xX9_lookRound (72, [l0, l1], [vI (a + b), v2, v3], S) := rn_step dX9_lookRound_71 rfl rfl
theorem eX9_lookRound_72 {i : Nat} {j z : Int} {l0 l1 : Option VV} (h : kd i = 10) (h0 : 0 ≤ j) (h1 : j < alen i) {S : MM} : rn xX9_lookRound (72, [l0, l1], [vI z, vI j, vR i], S) = rn xX9_lookRound (73, [l0, l1], [], updM S i j.toNat z) := q_iast dX9_lookRound_72 h h0 h1
theorem eX9_lookRound_73 {l0 l1 : Option VV} {S : MM} : rn xX9_lookRound (73, [l0, l1], [], S) = rn xX9_lookRound (99, [l0, l1], [], S) := rn_step dX9_lookRound_73 rfl rfl
theorem eX9_lookRound_76 {a : Option Nat} {l1 : Option VV} {S : MM} : rn xX9_lookRound (76, [some (.inr (.inl a)), l1], [], S) = rn xX9_lookRound (77, [some (.inr (.inl a)), l1], [.inr (.inl a)], S) := rn_step dX9_lookRound_76 rfl rfl
theorem eX9_lookRound_77 {l0 l1 : Option VV} {S : MM} : rn xX9_lookRound (77, [l0, l1], [vR 593], S) = (fX9_greatest [vR 593] S).bind (fun q => rn xX9_lookRound (80, [l0, l1], q.1.toList ++ [], q.2)) := q_callV (n := 0) (as := []) (rest := []) dX9_lookRound_77 rfl rfl rfl rfl kd593
theorem eX9_lookRound_80 {a : Option Nat} {l1 : Option VV} {v0 : VV} {S : MM} : rn xX9_lookRound (80, [some (.inr (.inl a)), l1], [v0], S) = rn xX9_lookRound (81, [some (.inr (.inl a)), l1], [.inr (.inl a), v0], S) := rn_step dX9_lookRound_80 rfl rfl
theorem eX9_lookRound_81 {l0 l1 : Option VV} {v1 : VV} {S : MM} : rn xX9_lookRound (81, [l0, l1], [vR 593, v1], S) = rn xX9_lookRound (84, [l0, l1], [vR 594, v1], S) := q_getR dX9_lookRound_81 rfl ⟨⟨by decide, by decide⟩, by decide⟩ (fun _ => by decide +kernel) kd593
theorem eX9_lookRound_84 {l0 l1 : Option VV} {v0 v1 : VV} {S : MM} : rn xX9_lookRound (84, [l0, l1], [v0, v1], S) = rn xX9_lookRound (85, [l0, l1], [vI 5, v0, v1], S) := rn_step dX9_lookRound_84 rfl rfl
theorem eX9_lookRound_85 {i : Nat} {j : Int} {l0 l1 : Option VV} {v2 : VV} (h : kd i = 10) (h0 : 0 ≤ j) (h1 : j < alen i) {S : MM} : rn xX9_lookRound (85, [l0, l1], [vI j, vR i, v2], S) = rn xX9_lookRound (86, [l0, l1], [vI (S i j.toNat), v2], S) := q_iald dX9_lookRound_85 h h0 h1
theorem eX9_lookRound_85x {j : Int} {l0 l1 : Option VV} {v2 : VV} {S : MM} (h0 : 0 ≤ j) (h1 : j < S 604 0) : rn xX9_lookRound (85, [l0, l1], [vI j, vR 602, v2], S) = rn xX9_lookRound (86, [l0, l1], [vI (S 602 j.toNat), v2], S) := q_ialdX dX9_lookRound_85 h0 h1
theorem eX9_lookRound_85y {j : Int} {l0 l1 : Option VV} {v2 : VV} {S : MM} (h0 : 0 ≤ j) (h1 : j < S 604 1) : rn xX9_lookRound (85, [l0, l1], [vI j, vR 603, v2], S) = rn xX9_lookRound (86, [l0, l1], [vI (S 603 j.toNat), v2], S) := q_ialdY dX9_lookRound_85 h0 h1
theorem eX9_lookRound_86 {a b : Int} {l0 l1 : Option VV} (h : -2147483648 ≤ a ∧ a ≤ 2147483647) (h1 : -2147483648 ≤ b ∧ b ≤ 2147483647) {S : MM} : rn xX9_lookRound (86, [l0, l1], [vI b, vI a], S) = if b < a then rn xX9_lookRound (89, [l0, l1], [], S) else rn xX9_lookRound (99, [l0, l1], [], S) := q_icmp_le dX9_lookRound_86 (by decide) rfl h h1
theorem eX9_lookRound_89 {a : Option Nat} {l1 : Option VV} {S : MM} : rn xX9_lookRound (89, [some (.inr (.inl a)), l1], [], S) = rn xX9_lookRound (90, [some (.inr (.inl a)), l1], [.inr (.inl a)], S) := rn_step dX9_lookRound_89 rfl rfl
theorem eX9_lookRound_90 {l0 l1 : Option VV} {S : MM} : rn xX9_lookRound (90, [l0, l1], [vR 593], S) = rn xX9_lookRound (93, [l0, l1], [vR 594], S) := q_getR dX9_lookRound_90 rfl ⟨⟨by decide, by decide⟩, by decide⟩ (fun _ => by decide +kernel) kd593
theorem eX9_lookRound_93 {l0 l1 : Option VV} {v0 : VV} {S : MM} : rn xX9_lookRound (93, [l0, l1], [v0], S) = rn xX9_lookRound (94, [l0, l1], [vI 5, v0], S) := rn_step dX9_lookRound_93 rfl rfl
theorem eX9_lookRound_94 {a : Option Nat} {l1 : Option VV} {v0 v1 : VV} {S : MM} : rn xX9_lookRound (94, [some (.inr (.inl a)), l1], [v0, v1], S) = rn xX9_lookRound (95, [some (.inr (.inl a)), l1], [.inr (.inl a), v0, v1], S) := rn_step dX9_lookRound_94 rfl rfl
theorem eX9_lookRound_95 {l0 l1 : Option VV} {v1 v2 : VV} {S : MM} : rn xX9_lookRound (95, [l0, l1], [vR 593, v1, v2], S) = (fX9_greatest [vR 593] S).bind (fun q => rn xX9_lookRound (98, [l0, l1], q.1.toList ++ [v1, v2], q.2)) := q_callV (n := 0) (as := []) (rest := [v1, v2]) dX9_lookRound_95 rfl rfl rfl rfl kd593
theorem eX9_lookRound_98 {i : Nat} {j z : Int} {l0 l1 : Option VV} (h : kd i = 10) (h0 : 0 ≤ j) (h1 : j < alen i) {S : MM} : rn xX9_lookRound (98, [l0, l1], [vI z, vI j, vR i], S) = rn xX9_lookRound (99, [l0, l1], [], updM S i j.toNat z) := q_iast dX9_lookRound_98 h h0 h1
theorem eX9_lookRound_99 {l0 l1 : Option VV} {S : MM} : rn xX9_lookRound (99, [l0, l1], [], S) = some (none, S) := q_retV dX9_lookRound_99 rfl
noncomputable def qlX9_beginRun : List CE := [(0, 70, 9, 3, fX9_firstFrom), (0, 53, 9, 2, fX9_inTurn), (0, 73, 9, 1, fX9_lookRound)]
noncomputable def xX9_beginRun : XX := (cX9_beginRun, fcF fcl9, mcF qlX9_beginRun, 0)
noncomputable def fX9_beginRun : FN := fnX xX9_beginRun 2
set_option maxRecDepth 100000 in
theorem cwX9_beginRun : Cond.code yX9_beginRun cX9_beginRun 2 none ∈ lw_g := lw_gm 954 (by decide +kernel) (by decide +kernel)
set_option maxRecDepth 100000 in
theorem conX9_beginRun : Con yX9_beginRun cX9_beginRun 2 none { frames := 3, cells := 0, slots := 0, locals := 64 } fX9_beginRun := con_of (X := xX9_beginRun) (own := "LeapStonesModel") (ql := qlX9_beginRun) (by decide) rfl FOK9 rfl (List.forall_mem_cons.mpr ⟨call_V conX9_firstFrom cwX9_firstFrom (lw_gl _ [955, 957, 22, 84] (by decide +kernel) (by decide +kernel)) (by decide) rfl ⟨by decide, by decide, by decide +kernel⟩ ⟨rfl, rfl⟩ ⟨by decide, by decide⟩ ⟨Nat.le_refl _, Nat.le_refl _⟩, List.forall_mem_cons.mpr ⟨call_V conX9_inTurn cwX9_inTurn (lw_gl _ [963, 965, 24, 84] (by decide +kernel) (by decide +kernel)) (by decide) rfl ⟨by decide, by decide, by decide +kernel⟩ ⟨rfl, rfl⟩ ⟨by decide, by decide⟩ ⟨Nat.le_refl _, Nat.le_refl _⟩, List.forall_mem_cons.mpr ⟨call_V conX9_lookRound cwX9_lookRound (lw_gl _ [967, 969, 25, 84] (by decide +kernel) (by decide +kernel)) (by decide) rfl ⟨by decide, by decide, by decide +kernel⟩ ⟨rfl, rfl⟩ ⟨by decide, by decide⟩ ⟨Nat.le_refl _, Nat.le_refl _⟩, fun _ h => absurd h List.not_mem_nil⟩⟩⟩) (Or.inl ⟨rfl, rfl⟩)
theorem uX9_beginRun {i : Nat} {S : MM} : fX9_beginRun [vR i] S = rn xX9_beginRun (0, [some (vR i), none], [], S) := rfl
theorem dX9_beginRun_0 : decode cX9_beginRun 0 = .ok (.bipush 8, 2) := by decide +kernel
theorem dX9_beginRun_2 : decode cX9_beginRun 2 = .ok (.istore_n 1, 1) := by decide +kernel
theorem dX9_beginRun_3 : decode cX9_beginRun 3 = .ok (.iload_n 1, 1) := by decide +kernel
theorem dX9_beginRun_4 : decode cX9_beginRun 4 = .ok (.bipush 20, 2) := by decide +kernel
theorem dX9_beginRun_6 : decode cX9_beginRun 6 = .ok (.if_icmp .ge 16, 3) := by decide +kernel
theorem dX9_beginRun_9 : decode cX9_beginRun 9 = .ok (.aload_n 0, 1) := by decide +kernel
theorem dX9_beginRun_10 : decode cX9_beginRun 10 = .ok (.getfield 7, 3) := by decide +kernel
theorem dX9_beginRun_13 : decode cX9_beginRun 13 = .ok (.iload_n 1, 1) := by decide +kernel
theorem dX9_beginRun_14 : decode cX9_beginRun 14 = .ok (.iconst 0, 1) := by decide +kernel
theorem dX9_beginRun_15 : decode cX9_beginRun 15 = .ok (.iastore, 1) := by decide +kernel
theorem dX9_beginRun_16 : decode cX9_beginRun 16 = .ok (.iinc 1 1, 3) := by decide +kernel
theorem dX9_beginRun_19 : decode cX9_beginRun 19 = .ok (.goto (-16), 3) := by decide +kernel
theorem dX9_beginRun_22 : decode cX9_beginRun 22 = .ok (.iconst 0, 1) := by decide +kernel
theorem dX9_beginRun_23 : decode cX9_beginRun 23 = .ok (.istore_n 1, 1) := by decide +kernel
theorem dX9_beginRun_24 : decode cX9_beginRun 24 = .ok (.iload_n 1, 1) := by decide +kernel
theorem dX9_beginRun_25 : decode cX9_beginRun 25 = .ok (.sipush 300, 3) := by decide +kernel
theorem dX9_beginRun_28 : decode cX9_beginRun 28 = .ok (.if_icmp .ge 20, 3) := by decide +kernel
theorem dX9_beginRun_31 : decode cX9_beginRun 31 = .ok (.aload_n 0, 1) := by decide +kernel
theorem dX9_beginRun_32 : decode cX9_beginRun 32 = .ok (.getfield 7, 3) := by decide +kernel
theorem dX9_beginRun_35 : decode cX9_beginRun 35 = .ok (.sipush 925, 3) := by decide +kernel
theorem dX9_beginRun_38 : decode cX9_beginRun 38 = .ok (.iload_n 1, 1) := by decide +kernel
theorem dX9_beginRun_39 : decode cX9_beginRun 39 = .ok (.iadd, 1) := by decide +kernel
theorem dX9_beginRun_40 : decode cX9_beginRun 40 = .ok (.iconst 0, 1) := by decide +kernel
theorem dX9_beginRun_41 : decode cX9_beginRun 41 = .ok (.iastore, 1) := by decide +kernel
theorem dX9_beginRun_42 : decode cX9_beginRun 42 = .ok (.iinc 1 1, 3) := by decide +kernel
theorem dX9_beginRun_45 : decode cX9_beginRun 45 = .ok (.goto (-21), 3) := by decide +kernel
theorem dX9_beginRun_48 : decode cX9_beginRun 48 = .ok (.iconst 0, 1) := by decide +kernel
theorem dX9_beginRun_49 : decode cX9_beginRun 49 = .ok (.istore_n 1, 1) := by decide +kernel
theorem dX9_beginRun_50 : decode cX9_beginRun 50 = .ok (.iload_n 1, 1) := by decide +kernel
theorem dX9_beginRun_51 : decode cX9_beginRun 51 = .ok (.iconst 3, 1) := by decide +kernel
theorem dX9_beginRun_52 : decode cX9_beginRun 52 = .ok (.if_icmp .ge 29, 3) := by decide +kernel
theorem dX9_beginRun_55 : decode cX9_beginRun 55 = .ok (.aload_n 0, 1) := by decide +kernel
theorem dX9_beginRun_56 : decode cX9_beginRun 56 = .ok (.getfield 7, 3) := by decide +kernel
theorem dX9_beginRun_59 : decode cX9_beginRun 59 = .ok (.bipush 20, 2) := by decide +kernel
theorem dX9_beginRun_61 : decode cX9_beginRun 61 = .ok (.iload_n 1, 1) := by decide +kernel
theorem dX9_beginRun_62 : decode cX9_beginRun 62 = .ok (.iadd, 1) := by decide +kernel
theorem dX9_beginRun_63 : decode cX9_beginRun 63 = .ok (.aload_n 0, 1) := by decide +kernel
theorem dX9_beginRun_64 : decode cX9_beginRun 64 = .ok (.iload_n 1, 1) := by decide +kernel
theorem dX9_beginRun_65 : decode cX9_beginRun 65 = .ok (.aload_n 0, 1) := by decide +kernel
theorem dX9_beginRun_66 : decode cX9_beginRun 66 = .ok (.getfield 7, 3) := by decide +kernel
theorem dX9_beginRun_69 : decode cX9_beginRun 69 = .ok (.iconst 0, 1) := by decide +kernel
theorem dX9_beginRun_70 : decode cX9_beginRun 70 = .ok (.iaload, 1) := by decide +kernel
theorem dX9_beginRun_71 : decode cX9_beginRun 71 = .ok (.invokevirtual 70, 3) := by decide +kernel
theorem dX9_beginRun_74 : decode cX9_beginRun 74 = .ok (.iastore, 1) := by decide +kernel
theorem dX9_beginRun_75 : decode cX9_beginRun 75 = .ok (.iinc 1 1, 3) := by decide +kernel
theorem dX9_beginRun_78 : decode cX9_beginRun 78 = .ok (.goto (-28), 3) := by decide +kernel
theorem dX9_beginRun_81 : decode cX9_beginRun 81 = .ok (.aload_n 0, 1) := by decide +kernel
theorem dX9_beginRun_82 : decode cX9_beginRun 82 = .ok (.getfield 7, 3) := by decide +kernel
theorem dX9_beginRun_85 : decode cX9_beginRun 85 = .ok (.iconst 5, 1) := by decide +kernel
theorem dX9_beginRun_86 : decode cX9_beginRun 86 = .ok (.aload_n 0, 1) := by decide +kernel
theorem dX9_beginRun_87 : decode cX9_beginRun 87 = .ok (.getfield 7, 3) := by decide +kernel
theorem dX9_beginRun_90 : decode cX9_beginRun 90 = .ok (.iconst 0, 1) := by decide +kernel
theorem dX9_beginRun_91 : decode cX9_beginRun 91 = .ok (.iaload, 1) := by decide +kernel
theorem dX9_beginRun_92 : decode cX9_beginRun 92 = .ok (.iastore, 1) := by decide +kernel
theorem dX9_beginRun_93 : decode cX9_beginRun 93 = .ok (.aload_n 0, 1) := by decide +kernel
theorem dX9_beginRun_94 : decode cX9_beginRun 94 = .ok (.getfield 7, 3) := by decide +kernel
theorem dX9_beginRun_97 : decode cX9_beginRun 97 = .ok (.bipush 6, 2) := by decide +kernel
theorem dX9_beginRun_99 : decode cX9_beginRun 99 = .ok (.aload_n 0, 1) := by decide +kernel
theorem dX9_beginRun_100 : decode cX9_beginRun 100 = .ok (.iconst 0, 1) := by decide +kernel
theorem dX9_beginRun_101 : decode cX9_beginRun 101 = .ok (.invokevirtual 53, 3) := by decide +kernel
theorem dX9_beginRun_104 : decode cX9_beginRun 104 = .ok (.iastore, 1) := by decide +kernel
theorem dX9_beginRun_105 : decode cX9_beginRun 105 = .ok (.aload_n 0, 1) := by decide +kernel
theorem dX9_beginRun_106 : decode cX9_beginRun 106 = .ok (.getfield 7, 3) := by decide +kernel
theorem dX9_beginRun_109 : decode cX9_beginRun 109 = .ok (.iconst 4, 1) := by decide +kernel
theorem dX9_beginRun_110 : decode cX9_beginRun 110 = .ok (.iconst 1, 1) := by decide +kernel
theorem dX9_beginRun_111 : decode cX9_beginRun 111 = .ok (.iastore, 1) := by decide +kernel
theorem dX9_beginRun_112 : decode cX9_beginRun 112 = .ok (.aload_n 0, 1) := by decide +kernel
theorem dX9_beginRun_113 : decode cX9_beginRun 113 = .ok (.invokevirtual 73, 3) := by decide +kernel
theorem dX9_beginRun_116 : decode cX9_beginRun 116 = .ok (.return_, 1) := by decide +kernel
theorem eX9_beginRun_0 {l0 l1 : Option VV} {S : MM} : rn xX9_beginRun (0, [l0, l1], [], S) = rn xX9_beginRun (2, [l0, l1], [vI 8], S) := rn_step dX9_beginRun_0 rfl rfl
theorem eX9_beginRun_2 {a : Int} {w : Option Nat} {l1 : Option VV} {S : MM} : rn xX9_beginRun (2, [some (.inr (.inl w)), l1], [vI a], S) = rn xX9_beginRun (3, [some (.inr (.inl w)), some (vI a)], [], S) := rn_step dX9_beginRun_2 rfl rfl
theorem eX9_beginRun_3 {a : Int} {l0 : Option VV} {S : MM} : rn xX9_beginRun (3, [l0, some (vI a)], [], S) = rn xX9_beginRun (4, [l0, some (vI a)], [vI a], S) := rn_step dX9_beginRun_3 rfl rfl
theorem eX9_beginRun_4 {l0 l1 : Option VV} {v0 : VV} {S : MM} : rn xX9_beginRun (4, [l0, l1], [v0], S) = rn xX9_beginRun (6, [l0, l1], [vI 20, v0], S) := rn_step dX9_beginRun_4 rfl rfl
theorem eX9_beginRun_6 {a b : Int} {l0 l1 : Option VV} (h : -2147483648 ≤ a ∧ a ≤ 2147483647) (h1 : -2147483648 ≤ b ∧ b ≤ 2147483647) {S : MM} : rn xX9_beginRun (6, [l0, l1], [vI b, vI a], S) = if a < b then rn xX9_beginRun (9, [l0, l1], [], S) else rn xX9_beginRun (22, [l0, l1], [], S) := q_icmp_ge dX9_beginRun_6 (by decide) rfl h h1
theorem eX9_beginRun_9 {a : Option Nat} {l1 : Option VV} {S : MM} : rn xX9_beginRun (9, [some (.inr (.inl a)), l1], [], S) = rn xX9_beginRun (10, [some (.inr (.inl a)), l1], [.inr (.inl a)], S) := rn_step dX9_beginRun_9 rfl rfl
theorem eX9_beginRun_10 {l0 l1 : Option VV} {S : MM} : rn xX9_beginRun (10, [l0, l1], [vR 593], S) = rn xX9_beginRun (13, [l0, l1], [vR 594], S) := q_getR dX9_beginRun_10 rfl ⟨⟨by decide, by decide⟩, by decide⟩ (fun _ => by decide +kernel) kd593
theorem eX9_beginRun_13 {a : Int} {l0 : Option VV} {v0 : VV} {S : MM} : rn xX9_beginRun (13, [l0, some (vI a)], [v0], S) = rn xX9_beginRun (14, [l0, some (vI a)], [vI a, v0], S) := rn_step dX9_beginRun_13 rfl rfl
theorem eX9_beginRun_14 {l0 l1 : Option VV} {v0 v1 : VV} {S : MM} : rn xX9_beginRun (14, [l0, l1], [v0, v1], S) = rn xX9_beginRun (15, [l0, l1], [vI 0, v0, v1], S) := rn_step dX9_beginRun_14 rfl rfl
theorem eX9_beginRun_15 {i : Nat} {j z : Int} {l0 l1 : Option VV} (h : kd i = 10) (h0 : 0 ≤ j) (h1 : j < alen i) {S : MM} : rn xX9_beginRun (15, [l0, l1], [vI z, vI j, vR i], S) = rn xX9_beginRun (16, [l0, l1], [], updM S i j.toNat z) := q_iast dX9_beginRun_15 h h0 h1
theorem eX9_beginRun_16 {a : Int} {w : Option Nat} {S : MM} : rn xX9_beginRun (16, [some (.inr (.inl w)), some (vI a)], [], S) = rn xX9_beginRun (19, [some (.inr (.inl w)), some (vI (a + 1))], [], S) := rn_step dX9_beginRun_16 rfl rfl
theorem eX9_beginRun_19 {l0 l1 : Option VV} {S : MM} : rn xX9_beginRun (19, [l0, l1], [], S) = rn xX9_beginRun (3, [l0, l1], [], S) := rn_step dX9_beginRun_19 rfl rfl
theorem eX9_beginRun_22 {l0 l1 : Option VV} {S : MM} : rn xX9_beginRun (22, [l0, l1], [], S) = rn xX9_beginRun (23, [l0, l1], [vI 0], S) := rn_step dX9_beginRun_22 rfl rfl
theorem eX9_beginRun_23 {a : Int} {w : Option Nat} {l1 : Option VV} {S : MM} : rn xX9_beginRun (23, [some (.inr (.inl w)), l1], [vI a], S) = rn xX9_beginRun (24, [some (.inr (.inl w)), some (vI a)], [], S) := rn_step dX9_beginRun_23 rfl rfl
theorem eX9_beginRun_24 {a : Int} {l0 : Option VV} {S : MM} : rn xX9_beginRun (24, [l0, some (vI a)], [], S) = rn xX9_beginRun (25, [l0, some (vI a)], [vI a], S) := rn_step dX9_beginRun_24 rfl rfl
theorem eX9_beginRun_25 {l0 l1 : Option VV} {v0 : VV} {S : MM} : rn xX9_beginRun (25, [l0, l1], [v0], S) = rn xX9_beginRun (28, [l0, l1], [vI 300, v0], S) := rn_step dX9_beginRun_25 rfl rfl
theorem eX9_beginRun_28 {a b : Int} {l0 l1 : Option VV} (h : -2147483648 ≤ a ∧ a ≤ 2147483647) (h1 : -2147483648 ≤ b ∧ b ≤ 2147483647) {S : MM} : rn xX9_beginRun (28, [l0, l1], [vI b, vI a], S) = if a < b then rn xX9_beginRun (31, [l0, l1], [], S) else rn xX9_beginRun (48, [l0, l1], [], S) := q_icmp_ge dX9_beginRun_28 (by decide) rfl h h1
theorem eX9_beginRun_31 {a : Option Nat} {l1 : Option VV} {S : MM} : rn xX9_beginRun (31, [some (.inr (.inl a)), l1], [], S) = rn xX9_beginRun (32, [some (.inr (.inl a)), l1], [.inr (.inl a)], S) := rn_step dX9_beginRun_31 rfl rfl
theorem eX9_beginRun_32 {l0 l1 : Option VV} {S : MM} : rn xX9_beginRun (32, [l0, l1], [vR 593], S) = rn xX9_beginRun (35, [l0, l1], [vR 594], S) := q_getR dX9_beginRun_32 rfl ⟨⟨by decide, by decide⟩, by decide⟩ (fun _ => by decide +kernel) kd593
theorem eX9_beginRun_35 {l0 l1 : Option VV} {v0 : VV} {S : MM} : rn xX9_beginRun (35, [l0, l1], [v0], S) = rn xX9_beginRun (38, [l0, l1], [vI 925, v0], S) := rn_step dX9_beginRun_35 rfl rfl
theorem eX9_beginRun_38 {a : Int} {l0 : Option VV} {v0 v1 : VV} {S : MM} : rn xX9_beginRun (38, [l0, some (vI a)], [v0, v1], S) = rn xX9_beginRun (39, [l0, some (vI a)], [vI a, v0, v1], S) := rn_step dX9_beginRun_38 rfl rfl
theorem eX9_beginRun_39 {a b : Int} {l0 l1 : Option VV} {v2 : VV} {S : MM} : rn xX9_beginRun (39, [l0, l1], [vI b, vI a, v2], S) = rn xX9_beginRun (40, [l0, l1], [vI (a + b), v2], S) := rn_step dX9_beginRun_39 rfl rfl
theorem eX9_beginRun_40 {l0 l1 : Option VV} {v0 v1 : VV} {S : MM} : rn xX9_beginRun (40, [l0, l1], [v0, v1], S) = rn xX9_beginRun (41, [l0, l1], [vI 0, v0, v1], S) := rn_step dX9_beginRun_40 rfl rfl
theorem eX9_beginRun_41 {i : Nat} {j z : Int} {l0 l1 : Option VV} (h : kd i = 10) (h0 : 0 ≤ j) (h1 : j < alen i) {S : MM} : rn xX9_beginRun (41, [l0, l1], [vI z, vI j, vR i], S) = rn xX9_beginRun (42, [l0, l1], [], updM S i j.toNat z) := q_iast dX9_beginRun_41 h h0 h1
theorem eX9_beginRun_42 {a : Int} {w : Option Nat} {S : MM} : rn xX9_beginRun (42, [some (.inr (.inl w)), some (vI a)], [], S) = rn xX9_beginRun (45, [some (.inr (.inl w)), some (vI (a + 1))], [], S) := rn_step dX9_beginRun_42 rfl rfl
theorem eX9_beginRun_45 {l0 l1 : Option VV} {S : MM} : rn xX9_beginRun (45, [l0, l1], [], S) = rn xX9_beginRun (24, [l0, l1], [], S) := rn_step dX9_beginRun_45 rfl rfl
theorem eX9_beginRun_48 {l0 l1 : Option VV} {S : MM} : rn xX9_beginRun (48, [l0, l1], [], S) = rn xX9_beginRun (49, [l0, l1], [vI 0], S) := rn_step dX9_beginRun_48 rfl rfl
theorem eX9_beginRun_49 {a : Int} {w : Option Nat} {l1 : Option VV} {S : MM} : rn xX9_beginRun (49, [some (.inr (.inl w)), l1], [vI a], S) = rn xX9_beginRun (50, [some (.inr (.inl w)), some (vI a)], [], S) := rn_step dX9_beginRun_49 rfl rfl
theorem eX9_beginRun_50 {a : Int} {l0 : Option VV} {S : MM} : rn xX9_beginRun (50, [l0, some (vI a)], [], S) = rn xX9_beginRun (51, [l0, some (vI a)], [vI a], S) := rn_step dX9_beginRun_50 rfl rfl
theorem eX9_beginRun_51 {l0 l1 : Option VV} {v0 : VV} {S : MM} : rn xX9_beginRun (51, [l0, l1], [v0], S) = rn xX9_beginRun (52, [l0, l1], [vI 3, v0], S) := rn_step dX9_beginRun_51 rfl rfl
theorem eX9_beginRun_52 {a b : Int} {l0 l1 : Option VV} (h : -2147483648 ≤ a ∧ a ≤ 2147483647) (h1 : -2147483648 ≤ b ∧ b ≤ 2147483647) {S : MM} : rn xX9_beginRun (52, [l0, l1], [vI b, vI a], S) = if a < b then rn xX9_beginRun (55, [l0, l1], [], S) else rn xX9_beginRun (81, [l0, l1], [], S) := q_icmp_ge dX9_beginRun_52 (by decide) rfl h h1
theorem eX9_beginRun_55 {a : Option Nat} {l1 : Option VV} {S : MM} : rn xX9_beginRun (55, [some (.inr (.inl a)), l1], [], S) = rn xX9_beginRun (56, [some (.inr (.inl a)), l1], [.inr (.inl a)], S) := rn_step dX9_beginRun_55 rfl rfl
theorem eX9_beginRun_56 {l0 l1 : Option VV} {S : MM} : rn xX9_beginRun (56, [l0, l1], [vR 593], S) = rn xX9_beginRun (59, [l0, l1], [vR 594], S) := q_getR dX9_beginRun_56 rfl ⟨⟨by decide, by decide⟩, by decide⟩ (fun _ => by decide +kernel) kd593
theorem eX9_beginRun_59 {l0 l1 : Option VV} {v0 : VV} {S : MM} : rn xX9_beginRun (59, [l0, l1], [v0], S) = rn xX9_beginRun (61, [l0, l1], [vI 20, v0], S) := rn_step dX9_beginRun_59 rfl rfl
theorem eX9_beginRun_61 {a : Int} {l0 : Option VV} {v0 v1 : VV} {S : MM} : rn xX9_beginRun (61, [l0, some (vI a)], [v0, v1], S) = rn xX9_beginRun (62, [l0, some (vI a)], [vI a, v0, v1], S) := rn_step dX9_beginRun_61 rfl rfl
theorem eX9_beginRun_62 {a b : Int} {l0 l1 : Option VV} {v2 : VV} {S : MM} : rn xX9_beginRun (62, [l0, l1], [vI b, vI a, v2], S) = rn xX9_beginRun (63, [l0, l1], [vI (a + b), v2], S) := rn_step dX9_beginRun_62 rfl rfl
theorem eX9_beginRun_63 {a : Option Nat} {l1 : Option VV} {v0 v1 : VV} {S : MM} : rn xX9_beginRun (63, [some (.inr (.inl a)), l1], [v0, v1], S) = rn xX9_beginRun (64, [some (.inr (.inl a)), l1], [.inr (.inl a), v0, v1], S) := rn_step dX9_beginRun_63 rfl rfl
theorem eX9_beginRun_64 {a : Int} {l0 : Option VV} {v0 v1 v2 : VV} {S : MM} : rn xX9_beginRun (64, [l0, some (vI a)], [v0, v1, v2], S) = rn xX9_beginRun (65, [l0, some (vI a)], [vI a, v0, v1, v2], S) := rn_step dX9_beginRun_64 rfl rfl
theorem eX9_beginRun_65 {a : Option Nat} {l1 : Option VV} {v0 v1 v2 v3 : VV} {S : MM} : rn xX9_beginRun (65, [some (.inr (.inl a)), l1], [v0, v1, v2, v3], S) = rn xX9_beginRun (66, [some (.inr (.inl a)), l1], [.inr (.inl a), v0, v1, v2, v3], S) := rn_step dX9_beginRun_65 rfl rfl
theorem eX9_beginRun_66 {l0 l1 : Option VV} {v1 v2 v3 v4 : VV} {S : MM} : rn xX9_beginRun (66, [l0, l1], [vR 593, v1, v2, v3, v4], S) = rn xX9_beginRun (69, [l0, l1], [vR 594, v1, v2, v3, v4], S) := q_getR dX9_beginRun_66 rfl ⟨⟨by decide, by decide⟩, by decide⟩ (fun _ => by decide +kernel) kd593
theorem eX9_beginRun_69 {l0 l1 : Option VV} {v0 v1 v2 v3 v4 : VV} {S : MM} : rn xX9_beginRun (69, [l0, l1], [v0, v1, v2, v3, v4], S) = rn xX9_beginRun (70, [l0, l1], [vI 0, v0, v1, v2, v3, v4], S) := rn_step dX9_beginRun_69 rfl rfl
theorem eX9_beginRun_70 {i : Nat} {j : Int} {l0 l1 : Option VV} {v2 v3 v4 v5 : VV} (h : kd i = 10) (h0 : 0 ≤ j) (h1 : j < alen i) {S : MM} : rn xX9_beginRun (70, [l0, l1], [vI j, vR i, v2, v3, v4, v5], S) = rn xX9_beginRun (71, [l0, l1], [vI (S i j.toNat), v2, v3, v4, v5], S) := q_iald dX9_beginRun_70 h h0 h1
theorem eX9_beginRun_70x {j : Int} {l0 l1 : Option VV} {v2 v3 v4 v5 : VV} {S : MM} (h0 : 0 ≤ j) (h1 : j < S 604 0) : rn xX9_beginRun (70, [l0, l1], [vI j, vR 602, v2, v3, v4, v5], S) = rn xX9_beginRun (71, [l0, l1], [vI (S 602 j.toNat), v2, v3, v4, v5], S) := q_ialdX dX9_beginRun_70 h0 h1
theorem eX9_beginRun_70y {j : Int} {l0 l1 : Option VV} {v2 v3 v4 v5 : VV} {S : MM} (h0 : 0 ≤ j) (h1 : j < S 604 1) : rn xX9_beginRun (70, [l0, l1], [vI j, vR 603, v2, v3, v4, v5], S) = rn xX9_beginRun (71, [l0, l1], [vI (S 603 j.toNat), v2, v3, v4, v5], S) := q_ialdY dX9_beginRun_70 h0 h1
theorem eX9_beginRun_71 {a0 : Int} {a1 : Int} {l0 l1 : Option VV} {v3 v4 : VV} {S : MM} : rn xX9_beginRun (71, [l0, l1], [vI a1, vI a0, vR 593, v3, v4], S) = (fX9_firstFrom [vR 593, vI a0, vI a1] S).bind (fun q => rn xX9_beginRun (74, [l0, l1], q.1.toList ++ [v3, v4], q.2)) := q_callV (n := 2) (as := [vI a0, vI a1]) (rest := [v3, v4]) dX9_beginRun_71 rfl rfl rfl rfl kd593
theorem eX9_beginRun_74 {i : Nat} {j z : Int} {l0 l1 : Option VV} (h : kd i = 10) (h0 : 0 ≤ j) (h1 : j < alen i) {S : MM} : rn xX9_beginRun (74, [l0, l1], [vI z, vI j, vR i], S) = rn xX9_beginRun (75, [l0, l1], [], updM S i j.toNat z) := q_iast dX9_beginRun_74 h h0 h1
theorem eX9_beginRun_75 {a : Int} {w : Option Nat} {S : MM} : rn xX9_beginRun (75, [some (.inr (.inl w)), some (vI a)], [], S) = rn xX9_beginRun (78, [some (.inr (.inl w)), some (vI (a + 1))], [], S) := rn_step dX9_beginRun_75 rfl rfl
theorem eX9_beginRun_78 {l0 l1 : Option VV} {S : MM} : rn xX9_beginRun (78, [l0, l1], [], S) = rn xX9_beginRun (50, [l0, l1], [], S) := rn_step dX9_beginRun_78 rfl rfl
theorem eX9_beginRun_81 {a : Option Nat} {l1 : Option VV} {S : MM} : rn xX9_beginRun (81, [some (.inr (.inl a)), l1], [], S) = rn xX9_beginRun (82, [some (.inr (.inl a)), l1], [.inr (.inl a)], S) := rn_step dX9_beginRun_81 rfl rfl
theorem eX9_beginRun_82 {l0 l1 : Option VV} {S : MM} : rn xX9_beginRun (82, [l0, l1], [vR 593], S) = rn xX9_beginRun (85, [l0, l1], [vR 594], S) := q_getR dX9_beginRun_82 rfl ⟨⟨by decide, by decide⟩, by decide⟩ (fun _ => by decide +kernel) kd593
theorem eX9_beginRun_85 {l0 l1 : Option VV} {v0 : VV} {S : MM} : rn xX9_beginRun (85, [l0, l1], [v0], S) = rn xX9_beginRun (86, [l0, l1], [vI 5, v0], S) := rn_step dX9_beginRun_85 rfl rfl
theorem eX9_beginRun_86 {a : Option Nat} {l1 : Option VV} {v0 v1 : VV} {S : MM} : rn xX9_beginRun (86, [some (.inr (.inl a)), l1], [v0, v1], S) = rn xX9_beginRun (87, [some (.inr (.inl a)), l1], [.inr (.inl a), v0, v1], S) := rn_step dX9_beginRun_86 rfl rfl
theorem eX9_beginRun_87 {l0 l1 : Option VV} {v1 v2 : VV} {S : MM} : rn xX9_beginRun (87, [l0, l1], [vR 593, v1, v2], S) = rn xX9_beginRun (90, [l0, l1], [vR 594, v1, v2], S) := q_getR dX9_beginRun_87 rfl ⟨⟨by decide, by decide⟩, by decide⟩ (fun _ => by decide +kernel) kd593
theorem eX9_beginRun_90 {l0 l1 : Option VV} {v0 v1 v2 : VV} {S : MM} : rn xX9_beginRun (90, [l0, l1], [v0, v1, v2], S) = rn xX9_beginRun (91, [l0, l1], [vI 0, v0, v1, v2], S) := rn_step dX9_beginRun_90 rfl rfl
theorem eX9_beginRun_91 {i : Nat} {j : Int} {l0 l1 : Option VV} {v2 v3 : VV} (h : kd i = 10) (h0 : 0 ≤ j) (h1 : j < alen i) {S : MM} : rn xX9_beginRun (91, [l0, l1], [vI j, vR i, v2, v3], S) = rn xX9_beginRun (92, [l0, l1], [vI (S i j.toNat), v2, v3], S) := q_iald dX9_beginRun_91 h h0 h1
theorem eX9_beginRun_91x {j : Int} {l0 l1 : Option VV} {v2 v3 : VV} {S : MM} (h0 : 0 ≤ j) (h1 : j < S 604 0) : rn xX9_beginRun (91, [l0, l1], [vI j, vR 602, v2, v3], S) = rn xX9_beginRun (92, [l0, l1], [vI (S 602 j.toNat), v2, v3], S) := q_ialdX dX9_beginRun_91 h0 h1
theorem eX9_beginRun_91y {j : Int} {l0 l1 : Option VV} {v2 v3 : VV} {S : MM} (h0 : 0 ≤ j) (h1 : j < S 604 1) : rn xX9_beginRun (91, [l0, l1], [vI j, vR 603, v2, v3], S) = rn xX9_beginRun (92, [l0, l1], [vI (S 603 j.toNat), v2, v3], S) := q_ialdY dX9_beginRun_91 h0 h1
theorem eX9_beginRun_92 {i : Nat} {j z : Int} {l0 l1 : Option VV} (h : kd i = 10) (h0 : 0 ≤ j) (h1 : j < alen i) {S : MM} : rn xX9_beginRun (92, [l0, l1], [vI z, vI j, vR i], S) = rn xX9_beginRun (93, [l0, l1], [], updM S i j.toNat z) := q_iast dX9_beginRun_92 h h0 h1
theorem eX9_beginRun_93 {a : Option Nat} {l1 : Option VV} {S : MM} : rn xX9_beginRun (93, [some (.inr (.inl a)), l1], [], S) = rn xX9_beginRun (94, [some (.inr (.inl a)), l1], [.inr (.inl a)], S) := rn_step dX9_beginRun_93 rfl rfl
theorem eX9_beginRun_94 {l0 l1 : Option VV} {S : MM} : rn xX9_beginRun (94, [l0, l1], [vR 593], S) = rn xX9_beginRun (97, [l0, l1], [vR 594], S) := q_getR dX9_beginRun_94 rfl ⟨⟨by decide, by decide⟩, by decide⟩ (fun _ => by decide +kernel) kd593
theorem eX9_beginRun_97 {l0 l1 : Option VV} {v0 : VV} {S : MM} : rn xX9_beginRun (97, [l0, l1], [v0], S) = rn xX9_beginRun (99, [l0, l1], [vI 6, v0], S) := rn_step dX9_beginRun_97 rfl rfl
theorem eX9_beginRun_99 {a : Option Nat} {l1 : Option VV} {v0 v1 : VV} {S : MM} : rn xX9_beginRun (99, [some (.inr (.inl a)), l1], [v0, v1], S) = rn xX9_beginRun (100, [some (.inr (.inl a)), l1], [.inr (.inl a), v0, v1], S) := rn_step dX9_beginRun_99 rfl rfl
theorem eX9_beginRun_100 {l0 l1 : Option VV} {v0 v1 v2 : VV} {S : MM} : rn xX9_beginRun (100, [l0, l1], [v0, v1, v2], S) = rn xX9_beginRun (101, [l0, l1], [vI 0, v0, v1, v2], S) := rn_step dX9_beginRun_100 rfl rfl
theorem eX9_beginRun_101 {a0 : Int} {l0 l1 : Option VV} {v2 v3 : VV} {S : MM} : rn xX9_beginRun (101, [l0, l1], [vI a0, vR 593, v2, v3], S) = (fX9_inTurn [vR 593, vI a0] S).bind (fun q => rn xX9_beginRun (104, [l0, l1], q.1.toList ++ [v2, v3], q.2)) := q_callV (n := 1) (as := [vI a0]) (rest := [v2, v3]) dX9_beginRun_101 rfl rfl rfl rfl kd593
theorem eX9_beginRun_104 {i : Nat} {j z : Int} {l0 l1 : Option VV} (h : kd i = 10) (h0 : 0 ≤ j) (h1 : j < alen i) {S : MM} : rn xX9_beginRun (104, [l0, l1], [vI z, vI j, vR i], S) = rn xX9_beginRun (105, [l0, l1], [], updM S i j.toNat z) := q_iast dX9_beginRun_104 h h0 h1
theorem eX9_beginRun_105 {a : Option Nat} {l1 : Option VV} {S : MM} : rn xX9_beginRun (105, [some (.inr (.inl a)), l1], [], S) = rn xX9_beginRun (106, [some (.inr (.inl a)), l1], [.inr (.inl a)], S) := rn_step dX9_beginRun_105 rfl rfl
theorem eX9_beginRun_106 {l0 l1 : Option VV} {S : MM} : rn xX9_beginRun (106, [l0, l1], [vR 593], S) = rn xX9_beginRun (109, [l0, l1], [vR 594], S) := q_getR dX9_beginRun_106 rfl ⟨⟨by decide, by decide⟩, by decide⟩ (fun _ => by decide +kernel) kd593
theorem eX9_beginRun_109 {l0 l1 : Option VV} {v0 : VV} {S : MM} : rn xX9_beginRun (109, [l0, l1], [v0], S) = rn xX9_beginRun (110, [l0, l1], [vI 4, v0], S) := rn_step dX9_beginRun_109 rfl rfl
theorem eX9_beginRun_110 {l0 l1 : Option VV} {v0 v1 : VV} {S : MM} : rn xX9_beginRun (110, [l0, l1], [v0, v1], S) = rn xX9_beginRun (111, [l0, l1], [vI 1, v0, v1], S) := rn_step dX9_beginRun_110 rfl rfl
theorem eX9_beginRun_111 {i : Nat} {j z : Int} {l0 l1 : Option VV} (h : kd i = 10) (h0 : 0 ≤ j) (h1 : j < alen i) {S : MM} : rn xX9_beginRun (111, [l0, l1], [vI z, vI j, vR i], S) = rn xX9_beginRun (112, [l0, l1], [], updM S i j.toNat z) := q_iast dX9_beginRun_111 h h0 h1
theorem eX9_beginRun_112 {a : Option Nat} {l1 : Option VV} {S : MM} : rn xX9_beginRun (112, [some (.inr (.inl a)), l1], [], S) = rn xX9_beginRun (113, [some (.inr (.inl a)), l1], [.inr (.inl a)], S) := rn_step dX9_beginRun_112 rfl rfl
theorem eX9_beginRun_113 {l0 l1 : Option VV} {S : MM} : rn xX9_beginRun (113, [l0, l1], [vR 593], S) = (fX9_lookRound [vR 593] S).bind (fun q => rn xX9_beginRun (116, [l0, l1], q.1.toList ++ [], q.2)) := q_callV (n := 0) (as := []) (rest := []) dX9_beginRun_113 rfl rfl rfl rfl kd593
theorem eX9_beginRun_116 {l0 l1 : Option VV} {S : MM} : rn xX9_beginRun (116, [l0, l1], [], S) = some (none, S) := q_retV dX9_beginRun_116 rfl
noncomputable def qlX9_begin : List CE := [(0, 50, 9, 1, fX9_keep), (0, 76, 9, 1, fX9_beginRun)]
noncomputable def xX9_begin : XX := (cX9_begin, fcF fcl9, mcF qlX9_begin, 1)
noncomputable def fX9_begin : FN := fnX xX9_begin 1
set_option maxRecDepth 100000 in
theorem cwX9_begin : Cond.code yX9_begin cX9_begin 1 (some .int) ∈ lw_g := lw_gm 946 (by decide +kernel) (by decide +kernel)
set_option maxRecDepth 100000 in
theorem conX9_begin : Con yX9_begin cX9_begin 1 (some .int) { frames := 4, cells := 0, slots := 0, locals := 85 } fX9_begin := con_of (X := xX9_begin) (own := "LeapStonesModel") (ql := qlX9_begin) (by decide) rfl FOK9 rfl (List.forall_mem_cons.mpr ⟨call_V conX9_keep cwX9_keep (lw_gl _ [947, 949, 20, 84] (by decide +kernel) (by decide +kernel)) (by decide) rfl ⟨by decide, by decide, by decide +kernel⟩ ⟨rfl, rfl⟩ ⟨by decide, by decide⟩ ⟨Nat.le_refl _, Nat.le_refl _⟩, List.forall_mem_cons.mpr ⟨call_V conX9_beginRun cwX9_beginRun (lw_gl _ [951, 953, 21, 84] (by decide +kernel) (by decide +kernel)) (by decide) rfl ⟨by decide, by decide, by decide +kernel⟩ ⟨rfl, rfl⟩ ⟨by decide, by decide⟩ ⟨Nat.le_refl _, Nat.le_refl _⟩, fun _ h => absurd h List.not_mem_nil⟩⟩) (Or.inr (Or.inl ⟨rfl, rfl⟩))
theorem uX9_begin {i : Nat} {S : MM} : fX9_begin [vR i] S = rn xX9_begin (0, [some (vR i)], [], S) := rfl
theorem dX9_begin_0 : decode cX9_begin 0 = .ok (.aload_n 0, 1) := by decide +kernel
theorem dX9_begin_1 : decode cX9_begin 1 = .ok (.invokevirtual 50, 3) := by decide +kernel
theorem dX9_begin_4 : decode cX9_begin 4 = .ok (.aload_n 0, 1) := by decide +kernel
theorem dX9_begin_5 : decode cX9_begin 5 = .ok (.invokevirtual 76, 3) := by decide +kernel
theorem dX9_begin_8 : decode cX9_begin 8 = .ok (.aload_n 0, 1) := by decide +kernel
theorem dX9_begin_9 : decode cX9_begin 9 = .ok (.getfield 7, 3) := by decide +kernel
theorem dX9_begin_12 : decode cX9_begin 12 = .ok (.iconst 4, 1) := by decide +kernel
theorem dX9_begin_13 : decode cX9_begin 13 = .ok (.iaload, 1) := by decide +kernel
theorem dX9_begin_14 : decode cX9_begin 14 = .ok (.iconst 1, 1) := by decide +kernel
theorem dX9_begin_15 : decode cX9_begin 15 = .ok (.isub, 1) := by decide +kernel
theorem dX9_begin_16 : decode cX9_begin 16 = .ok (.ireturn, 1) := by decide +kernel
theorem eX9_begin_0 {a : Option Nat} {S : MM} : rn xX9_begin (0, [some (.inr (.inl a))], [], S) = rn xX9_begin (1, [some (.inr (.inl a))], [.inr (.inl a)], S) := rn_step dX9_begin_0 rfl rfl
theorem eX9_begin_1 {l0 : Option VV} {S : MM} : rn xX9_begin (1, [l0], [vR 593], S) = (fX9_keep [vR 593] S).bind (fun q => rn xX9_begin (4, [l0], q.1.toList ++ [], q.2)) := q_callV (n := 0) (as := []) (rest := []) dX9_begin_1 rfl rfl rfl rfl kd593
theorem eX9_begin_4 {a : Option Nat} {S : MM} : rn xX9_begin (4, [some (.inr (.inl a))], [], S) = rn xX9_begin (5, [some (.inr (.inl a))], [.inr (.inl a)], S) := rn_step dX9_begin_4 rfl rfl
theorem eX9_begin_5 {l0 : Option VV} {S : MM} : rn xX9_begin (5, [l0], [vR 593], S) = (fX9_beginRun [vR 593] S).bind (fun q => rn xX9_begin (8, [l0], q.1.toList ++ [], q.2)) := q_callV (n := 0) (as := []) (rest := []) dX9_begin_5 rfl rfl rfl rfl kd593
theorem eX9_begin_8 {a : Option Nat} {S : MM} : rn xX9_begin (8, [some (.inr (.inl a))], [], S) = rn xX9_begin (9, [some (.inr (.inl a))], [.inr (.inl a)], S) := rn_step dX9_begin_8 rfl rfl
theorem eX9_begin_9 {l0 : Option VV} {S : MM} : rn xX9_begin (9, [l0], [vR 593], S) = rn xX9_begin (12, [l0], [vR 594], S) := q_getR dX9_begin_9 rfl ⟨⟨by decide, by decide⟩, by decide⟩ (fun _ => by decide +kernel) kd593
theorem eX9_begin_12 {l0 : Option VV} {v0 : VV} {S : MM} : rn xX9_begin (12, [l0], [v0], S) = rn xX9_begin (13, [l0], [vI 4, v0], S) := rn_step dX9_begin_12 rfl rfl
theorem eX9_begin_13 {i : Nat} {j : Int} {l0 : Option VV} (h : kd i = 10) (h0 : 0 ≤ j) (h1 : j < alen i) {S : MM} : rn xX9_begin (13, [l0], [vI j, vR i], S) = rn xX9_begin (14, [l0], [vI (S i j.toNat)], S) := q_iald dX9_begin_13 h h0 h1
theorem eX9_begin_13x {j : Int} {l0 : Option VV} {S : MM} (h0 : 0 ≤ j) (h1 : j < S 604 0) : rn xX9_begin (13, [l0], [vI j, vR 602], S) = rn xX9_begin (14, [l0], [vI (S 602 j.toNat)], S) := q_ialdX dX9_begin_13 h0 h1
theorem eX9_begin_13y {j : Int} {l0 : Option VV} {S : MM} (h0 : 0 ≤ j) (h1 : j < S 604 1) : rn xX9_begin (13, [l0], [vI j, vR 603], S) = rn xX9_begin (14, [l0], [vI (S 603 j.toNat)], S) := q_ialdY dX9_begin_13 h0 h1
theorem eX9_begin_14 {l0 : Option VV} {v0 : VV} {S : MM} : rn xX9_begin (14, [l0], [v0], S) = rn xX9_begin (15, [l0], [vI 1, v0], S) := rn_step dX9_begin_14 rfl rfl
theorem eX9_begin_15 {a b : Int} {l0 : Option VV} {S : MM} : rn xX9_begin (15, [l0], [vI b, vI a], S) = rn xX9_begin (16, [l0], [vI (a - b)], S) := rn_step dX9_begin_15 rfl rfl
theorem eX9_begin_16 {z : Int} {l0 : Option VV} {S : MM} : rn xX9_begin (16, [l0], [vI z], S) = some (some (vI z), S) := q_retI dX9_begin_16 rfl
noncomputable def qlX9_layKeys : List CE := [(0, 39, 9, 3, fX9_repeats)]
noncomputable def xX9_layKeys : XX := (cX9_layKeys, fcF fcl9, mcF qlX9_layKeys, 0)
noncomputable def fX9_layKeys : FN := fnX xX9_layKeys 3
set_option maxRecDepth 100000 in
theorem cwX9_layKeys : Cond.code yX9_layKeys cX9_layKeys 3 none ∈ lw_g := lw_gm 1014 (by decide +kernel) (by decide +kernel)
set_option maxRecDepth 100000 in
theorem conX9_layKeys : Con yX9_layKeys cX9_layKeys 3 none { frames := 1, cells := 0, slots := 0, locals := 22 } fX9_layKeys := con_of (X := xX9_layKeys) (own := "LeapStonesModel") (ql := qlX9_layKeys) (by decide) rfl FOK9 rfl (List.forall_mem_cons.mpr ⟨call_V conX9_repeats cwX9_repeats (lw_gl _ [959, 961, 23, 84] (by decide +kernel) (by decide +kernel)) (by decide) rfl ⟨by decide, by decide, by decide +kernel⟩ ⟨rfl, rfl⟩ ⟨by decide, by decide⟩ ⟨Nat.le_refl _, Nat.le_refl _⟩, fun _ h => absurd h List.not_mem_nil⟩) (Or.inl ⟨rfl, rfl⟩)
theorem uX9_layKeys {i : Nat} {a0 : Int} {S : MM} : fX9_layKeys [vR i, vI a0] S = rn xX9_layKeys (0, [some (vR i), some (vI a0), none], [], S) := rfl
theorem dX9_layKeys_0 : decode cX9_layKeys 0 = .ok (.aload_n 0, 1) := by decide +kernel
theorem dX9_layKeys_1 : decode cX9_layKeys 1 = .ok (.iconst 0, 1) := by decide +kernel
theorem dX9_layKeys_2 : decode cX9_layKeys 2 = .ok (.putfield 79, 3) := by decide +kernel
theorem dX9_layKeys_5 : decode cX9_layKeys 5 = .ok (.iconst 0, 1) := by decide +kernel
theorem dX9_layKeys_6 : decode cX9_layKeys 6 = .ok (.istore_n 2, 1) := by decide +kernel
theorem dX9_layKeys_7 : decode cX9_layKeys 7 = .ok (.iload_n 2, 1) := by decide +kernel
theorem dX9_layKeys_8 : decode cX9_layKeys 8 = .ok (.sipush 300, 3) := by decide +kernel
theorem dX9_layKeys_11 : decode cX9_layKeys 11 = .ok (.if_icmp .ge 38, 3) := by decide +kernel
theorem dX9_layKeys_14 : decode cX9_layKeys 14 = .ok (.aload_n 0, 1) := by decide +kernel
theorem dX9_layKeys_15 : decode cX9_layKeys 15 = .ok (.iload_n 1, 1) := by decide +kernel
theorem dX9_layKeys_16 : decode cX9_layKeys 16 = .ok (.iload_n 2, 1) := by decide +kernel
theorem dX9_layKeys_17 : decode cX9_layKeys 17 = .ok (.invokevirtual 39, 3) := by decide +kernel
theorem dX9_layKeys_20 : decode cX9_layKeys 20 = .ok (.ifCond .le 23, 3) := by decide +kernel
theorem dX9_layKeys_23 : decode cX9_layKeys 23 = .ok (.aload_n 0, 1) := by decide +kernel
theorem dX9_layKeys_24 : decode cX9_layKeys 24 = .ok (.getfield 26, 3) := by decide +kernel
theorem dX9_layKeys_27 : decode cX9_layKeys 27 = .ok (.aload_n 0, 1) := by decide +kernel
theorem dX9_layKeys_28 : decode cX9_layKeys 28 = .ok (.getfield 79, 3) := by decide +kernel
theorem dX9_layKeys_31 : decode cX9_layKeys 31 = .ok (.iload_n 2, 1) := by decide +kernel
theorem dX9_layKeys_32 : decode cX9_layKeys 32 = .ok (.iastore, 1) := by decide +kernel
theorem dX9_layKeys_33 : decode cX9_layKeys 33 = .ok (.aload_n 0, 1) := by decide +kernel
theorem dX9_layKeys_34 : decode cX9_layKeys 34 = .ok (.dup, 1) := by decide +kernel
theorem dX9_layKeys_35 : decode cX9_layKeys 35 = .ok (.getfield 79, 3) := by decide +kernel
theorem dX9_layKeys_38 : decode cX9_layKeys 38 = .ok (.iconst 1, 1) := by decide +kernel
theorem dX9_layKeys_39 : decode cX9_layKeys 39 = .ok (.iadd, 1) := by decide +kernel
theorem dX9_layKeys_40 : decode cX9_layKeys 40 = .ok (.putfield 79, 3) := by decide +kernel
theorem dX9_layKeys_43 : decode cX9_layKeys 43 = .ok (.iinc 2 1, 3) := by decide +kernel
theorem dX9_layKeys_46 : decode cX9_layKeys 46 = .ok (.goto (-39), 3) := by decide +kernel
theorem dX9_layKeys_49 : decode cX9_layKeys 49 = .ok (.return_, 1) := by decide +kernel
theorem eX9_layKeys_0 {a : Option Nat} {l1 l2 : Option VV} {S : MM} : rn xX9_layKeys (0, [some (.inr (.inl a)), l1, l2], [], S) = rn xX9_layKeys (1, [some (.inr (.inl a)), l1, l2], [.inr (.inl a)], S) := rn_step dX9_layKeys_0 rfl rfl
theorem eX9_layKeys_1 {l0 l1 l2 : Option VV} {v0 : VV} {S : MM} : rn xX9_layKeys (1, [l0, l1, l2], [v0], S) = rn xX9_layKeys (2, [l0, l1, l2], [vI 0, v0], S) := rn_step dX9_layKeys_1 rfl rfl
theorem eX9_layKeys_2 {z : Int} {l0 l1 l2 : Option VV} {S : MM} : rn xX9_layKeys (2, [l0, l1, l2], [vI z, vR 593], S) = rn xX9_layKeys (5, [l0, l1, l2], [], updM S 593 8 z) := q_put dX9_layKeys_2 rfl ⟨by decide, by decide⟩ rfl kd593
theorem eX9_layKeys_5 {l0 l1 l2 : Option VV} {S : MM} : rn xX9_layKeys (5, [l0, l1, l2], [], S) = rn xX9_layKeys (6, [l0, l1, l2], [vI 0], S) := rn_step dX9_layKeys_5 rfl rfl
theorem eX9_layKeys_6 {a : Int} {w : Int} {l0 l2 : Option VV} {S : MM} : rn xX9_layKeys (6, [l0, some (vI w), l2], [vI a], S) = rn xX9_layKeys (7, [l0, some (vI w), some (vI a)], [], S) := rn_step dX9_layKeys_6 rfl rfl
theorem eX9_layKeys_7 {a : Int} {l0 l1 : Option VV} {S : MM} : rn xX9_layKeys (7, [l0, l1, some (vI a)], [], S) = rn xX9_layKeys (8, [l0, l1, some (vI a)], [vI a], S) := rn_step dX9_layKeys_7 rfl rfl
theorem eX9_layKeys_8 {l0 l1 l2 : Option VV} {v0 : VV} {S : MM} : rn xX9_layKeys (8, [l0, l1, l2], [v0], S) = rn xX9_layKeys (11, [l0, l1, l2], [vI 300, v0], S) := rn_step dX9_layKeys_8 rfl rfl
theorem eX9_layKeys_11 {a b : Int} {l0 l1 l2 : Option VV} (h : -2147483648 ≤ a ∧ a ≤ 2147483647) (h1 : -2147483648 ≤ b ∧ b ≤ 2147483647) {S : MM} : rn xX9_layKeys (11, [l0, l1, l2], [vI b, vI a], S) = if a < b then rn xX9_layKeys (14, [l0, l1, l2], [], S) else rn xX9_layKeys (49, [l0, l1, l2], [], S) := q_icmp_ge dX9_layKeys_11 (by decide) rfl h h1
theorem eX9_layKeys_14 {a : Option Nat} {l1 l2 : Option VV} {S : MM} : rn xX9_layKeys (14, [some (.inr (.inl a)), l1, l2], [], S) = rn xX9_layKeys (15, [some (.inr (.inl a)), l1, l2], [.inr (.inl a)], S) := rn_step dX9_layKeys_14 rfl rfl
theorem eX9_layKeys_15 {a : Int} {l0 l2 : Option VV} {v0 : VV} {S : MM} : rn xX9_layKeys (15, [l0, some (vI a), l2], [v0], S) = rn xX9_layKeys (16, [l0, some (vI a), l2], [vI a, v0], S) := rn_step dX9_layKeys_15 rfl rfl
theorem eX9_layKeys_16 {a : Int} {l0 l1 : Option VV} {v0 v1 : VV} {S : MM} : rn xX9_layKeys (16, [l0, l1, some (vI a)], [v0, v1], S) = rn xX9_layKeys (17, [l0, l1, some (vI a)], [vI a, v0, v1], S) := rn_step dX9_layKeys_16 rfl rfl
theorem eX9_layKeys_17 {a0 : Int} {a1 : Int} {l0 l1 l2 : Option VV} {S : MM} : rn xX9_layKeys (17, [l0, l1, l2], [vI a1, vI a0, vR 593], S) = (fX9_repeats [vR 593, vI a0, vI a1] S).bind (fun q => rn xX9_layKeys (20, [l0, l1, l2], q.1.toList ++ [], q.2)) := q_callV (n := 2) (as := [vI a0, vI a1]) (rest := []) dX9_layKeys_17 rfl rfl rfl rfl kd593
theorem eX9_layKeys_20 {a : Int} {l0 l1 l2 : Option VV} (h : -2147483648 ≤ a ∧ a ≤ 2147483647) {S : MM} : rn xX9_layKeys (20, [l0, l1, l2], [vI a], S) = if 0 < a then rn xX9_layKeys (23, [l0, l1, l2], [], S) else rn xX9_layKeys (43, [l0, l1, l2], [], S) := q_if_le dX9_layKeys_20 (by decide) rfl h
theorem eX9_layKeys_23 {a : Option Nat} {l1 l2 : Option VV} {S : MM} : rn xX9_layKeys (23, [some (.inr (.inl a)), l1, l2], [], S) = rn xX9_layKeys (24, [some (.inr (.inl a)), l1, l2], [.inr (.inl a)], S) := rn_step dX9_layKeys_23 rfl rfl
theorem eX9_layKeys_24 {l0 l1 l2 : Option VV} {S : MM} : rn xX9_layKeys (24, [l0, l1, l2], [vR 593], S) = rn xX9_layKeys (27, [l0, l1, l2], [vR 599], S) := q_getR dX9_layKeys_24 rfl ⟨⟨by decide, by decide⟩, by decide⟩ (fun _ => by decide +kernel) kd593
theorem eX9_layKeys_27 {a : Option Nat} {l1 l2 : Option VV} {v0 : VV} {S : MM} : rn xX9_layKeys (27, [some (.inr (.inl a)), l1, l2], [v0], S) = rn xX9_layKeys (28, [some (.inr (.inl a)), l1, l2], [.inr (.inl a), v0], S) := rn_step dX9_layKeys_27 rfl rfl
theorem eX9_layKeys_28 {l0 l1 l2 : Option VV} {v1 : VV} {S : MM} : rn xX9_layKeys (28, [l0, l1, l2], [vR 593, v1], S) = rn xX9_layKeys (31, [l0, l1, l2], [vI (S 593 8), v1], S) := q_getI dX9_layKeys_28 rfl ⟨⟨by decide, by decide⟩, by decide⟩ kd593
theorem eX9_layKeys_31 {a : Int} {l0 l1 : Option VV} {v0 v1 : VV} {S : MM} : rn xX9_layKeys (31, [l0, l1, some (vI a)], [v0, v1], S) = rn xX9_layKeys (32, [l0, l1, some (vI a)], [vI a, v0, v1], S) := rn_step dX9_layKeys_31 rfl rfl
theorem eX9_layKeys_32 {i : Nat} {j z : Int} {l0 l1 l2 : Option VV} (h : kd i = 10) (h0 : 0 ≤ j) (h1 : j < alen i) {S : MM} : rn xX9_layKeys (32, [l0, l1, l2], [vI z, vI j, vR i], S) = rn xX9_layKeys (33, [l0, l1, l2], [], updM S i j.toNat z) := q_iast dX9_layKeys_32 h h0 h1
theorem eX9_layKeys_33 {a : Option Nat} {l1 l2 : Option VV} {S : MM} : rn xX9_layKeys (33, [some (.inr (.inl a)), l1, l2], [], S) = rn xX9_layKeys (34, [some (.inr (.inl a)), l1, l2], [.inr (.inl a)], S) := rn_step dX9_layKeys_33 rfl rfl
theorem eX9_layKeys_34 {a : Option Nat} {l0 l1 l2 : Option VV} {S : MM} : rn xX9_layKeys (34, [l0, l1, l2], [.inr (.inl a)], S) = rn xX9_layKeys (35, [l0, l1, l2], [.inr (.inl a), .inr (.inl a)], S) := rn_step dX9_layKeys_34 rfl rfl
theorem eX9_layKeys_35 {l0 l1 l2 : Option VV} {v1 : VV} {S : MM} : rn xX9_layKeys (35, [l0, l1, l2], [vR 593, v1], S) = rn xX9_layKeys (38, [l0, l1, l2], [vI (S 593 8), v1], S) := q_getI dX9_layKeys_35 rfl ⟨⟨by decide, by decide⟩, by decide⟩ kd593
theorem eX9_layKeys_38 {l0 l1 l2 : Option VV} {v0 v1 : VV} {S : MM} : rn xX9_layKeys (38, [l0, l1, l2], [v0, v1], S) = rn xX9_layKeys (39, [l0, l1, l2], [vI 1, v0, v1], S) := rn_step dX9_layKeys_38 rfl rfl
theorem eX9_layKeys_39 {a b : Int} {l0 l1 l2 : Option VV} {v2 : VV} {S : MM} : rn xX9_layKeys (39, [l0, l1, l2], [vI b, vI a, v2], S) = rn xX9_layKeys (40, [l0, l1, l2], [vI (a + b), v2], S) := rn_step dX9_layKeys_39 rfl rfl
theorem eX9_layKeys_40 {z : Int} {l0 l1 l2 : Option VV} {S : MM} : rn xX9_layKeys (40, [l0, l1, l2], [vI z, vR 593], S) = rn xX9_layKeys (43, [l0, l1, l2], [], updM S 593 8 z) := q_put dX9_layKeys_40 rfl ⟨by decide, by decide⟩ rfl kd593
theorem eX9_layKeys_43 {a : Int} {w : Int} {l0 : Option VV} {S : MM} : rn xX9_layKeys (43, [l0, some (vI w), some (vI a)], [], S) = rn xX9_layKeys (46, [l0, some (vI w), some (vI (a + 1))], [], S) := rn_step dX9_layKeys_43 rfl rfl
theorem eX9_layKeys_46 {l0 l1 l2 : Option VV} {S : MM} : rn xX9_layKeys (46, [l0, l1, l2], [], S) = rn xX9_layKeys (7, [l0, l1, l2], [], S) := rn_step dX9_layKeys_46 rfl rfl
theorem eX9_layKeys_49 {l0 l1 l2 : Option VV} {S : MM} : rn xX9_layKeys (49, [l0, l1, l2], [], S) = some (none, S) := q_retV dX9_layKeys_49 rfl
noncomputable def qlX9_isShort : List CE := []
noncomputable def xX9_isShort : XX := (cX9_isShort, fcF fcl9, mcF qlX9_isShort, 2)
noncomputable def fX9_isShort : FN := fnX xX9_isShort 2
set_option maxRecDepth 100000 in
theorem cwX9_isShort : Cond.code yX9_isShort cX9_isShort 2 (some .boolean) ∈ lw_g := lw_gm 1022 (by decide +kernel) (by decide +kernel)
set_option maxRecDepth 100000 in
theorem conX9_isShort : Con yX9_isShort cX9_isShort 2 (some .boolean) { frames := 0, cells := 0, slots := 0, locals := 0 } fX9_isShort := con_of (X := xX9_isShort) (own := "LeapStonesModel") (ql := qlX9_isShort) (by decide) rfl FOK9 rfl (fun _ h => absurd h List.not_mem_nil) (Or.inr (Or.inr (Or.inl ⟨rfl, rfl⟩)))
theorem uX9_isShort {i : Nat} {a0 : Int} {S : MM} : fX9_isShort [vR i, vI a0] S = rn xX9_isShort (0, [some (vR i), some (vI a0)], [], S) := rfl
theorem dX9_isShort_0 : decode cX9_isShort 0 = .ok (.aload_n 0, 1) := by decide +kernel
theorem dX9_isShort_1 : decode cX9_isShort 1 = .ok (.dup, 1) := by decide +kernel
theorem dX9_isShort_2 : decode cX9_isShort 2 = .ok (.getfield 82, 3) := by decide +kernel
theorem dX9_isShort_5 : decode cX9_isShort 5 = .ok (.iconst 1, 1) := by decide +kernel
theorem dX9_isShort_6 : decode cX9_isShort 6 = .ok (.iadd, 1) := by decide +kernel
theorem dX9_isShort_7 : decode cX9_isShort 7 = .ok (.putfield 82, 3) := by decide +kernel
theorem dX9_isShort_10 : decode cX9_isShort 10 = .ok (.aload_n 0, 1) := by decide +kernel
theorem dX9_isShort_11 : decode cX9_isShort 11 = .ok (.getfield 26, 3) := by decide +kernel
theorem dX9_isShort_14 : decode cX9_isShort 14 = .ok (.iload_n 1, 1) := by decide +kernel
theorem dX9_isShort_15 : decode cX9_isShort 15 = .ok (.iaload, 1) := by decide +kernel
theorem dX9_isShort_16 : decode cX9_isShort 16 = .ok (.aload_n 0, 1) := by decide +kernel
theorem dX9_isShort_17 : decode cX9_isShort 17 = .ok (.getfield 7, 3) := by decide +kernel
theorem dX9_isShort_20 : decode cX9_isShort 20 = .ok (.iconst 5, 1) := by decide +kernel
theorem dX9_isShort_21 : decode cX9_isShort 21 = .ok (.iaload, 1) := by decide +kernel
theorem dX9_isShort_22 : decode cX9_isShort 22 = .ok (.if_icmp .ge 7, 3) := by decide +kernel
theorem dX9_isShort_25 : decode cX9_isShort 25 = .ok (.iconst 1, 1) := by decide +kernel
theorem dX9_isShort_26 : decode cX9_isShort 26 = .ok (.goto 4, 3) := by decide +kernel
theorem dX9_isShort_29 : decode cX9_isShort 29 = .ok (.iconst 0, 1) := by decide +kernel
theorem dX9_isShort_30 : decode cX9_isShort 30 = .ok (.ireturn, 1) := by decide +kernel
theorem eX9_isShort_0 {a : Option Nat} {l1 : Option VV} {S : MM} : rn xX9_isShort (0, [some (.inr (.inl a)), l1], [], S) = rn xX9_isShort (1, [some (.inr (.inl a)), l1], [.inr (.inl a)], S) := rn_step dX9_isShort_0 rfl rfl
theorem eX9_isShort_1 {a : Option Nat} {l0 l1 : Option VV} {S : MM} : rn xX9_isShort (1, [l0, l1], [.inr (.inl a)], S) = rn xX9_isShort (2, [l0, l1], [.inr (.inl a), .inr (.inl a)], S) := rn_step dX9_isShort_1 rfl rfl
theorem eX9_isShort_2 {l0 l1 : Option VV} {v1 : VV} {S : MM} : rn xX9_isShort (2, [l0, l1], [vR 593, v1], S) = rn xX9_isShort (5, [l0, l1], [vI (S 593 9), v1], S) := q_getI dX9_isShort_2 rfl ⟨⟨by decide, by decide⟩, by decide⟩ kd593
theorem eX9_isShort_5 {l0 l1 : Option VV} {v0 v1 : VV} {S : MM} : rn xX9_isShort (5, [l0, l1], [v0, v1], S) = rn xX9_isShort (6, [l0, l1], [vI 1, v0, v1], S) := rn_step dX9_isShort_5 rfl rfl
theorem eX9_isShort_6 {a b : Int} {l0 l1 : Option VV} {v2 : VV} {S : MM} : rn xX9_isShort (6, [l0, l1], [vI b, vI a, v2], S) = rn xX9_isShort (7, [l0, l1], [vI (a + b), v2], S) := rn_step dX9_isShort_6 rfl rfl
theorem eX9_isShort_7 {z : Int} {l0 l1 : Option VV} {S : MM} : rn xX9_isShort (7, [l0, l1], [vI z, vR 593], S) = rn xX9_isShort (10, [l0, l1], [], updM S 593 9 z) := q_put dX9_isShort_7 rfl ⟨by decide, by decide⟩ rfl kd593
theorem eX9_isShort_10 {a : Option Nat} {l1 : Option VV} {S : MM} : rn xX9_isShort (10, [some (.inr (.inl a)), l1], [], S) = rn xX9_isShort (11, [some (.inr (.inl a)), l1], [.inr (.inl a)], S) := rn_step dX9_isShort_10 rfl rfl
theorem eX9_isShort_11 {l0 l1 : Option VV} {S : MM} : rn xX9_isShort (11, [l0, l1], [vR 593], S) = rn xX9_isShort (14, [l0, l1], [vR 599], S) := q_getR dX9_isShort_11 rfl ⟨⟨by decide, by decide⟩, by decide⟩ (fun _ => by decide +kernel) kd593
theorem eX9_isShort_14 {a : Int} {l0 : Option VV} {v0 : VV} {S : MM} : rn xX9_isShort (14, [l0, some (vI a)], [v0], S) = rn xX9_isShort (15, [l0, some (vI a)], [vI a, v0], S) := rn_step dX9_isShort_14 rfl rfl
theorem eX9_isShort_15 {i : Nat} {j : Int} {l0 l1 : Option VV} (h : kd i = 10) (h0 : 0 ≤ j) (h1 : j < alen i) {S : MM} : rn xX9_isShort (15, [l0, l1], [vI j, vR i], S) = rn xX9_isShort (16, [l0, l1], [vI (S i j.toNat)], S) := q_iald dX9_isShort_15 h h0 h1
theorem eX9_isShort_15x {j : Int} {l0 l1 : Option VV} {S : MM} (h0 : 0 ≤ j) (h1 : j < S 604 0) : rn xX9_isShort (15, [l0, l1], [vI j, vR 602], S) = rn xX9_isShort (16, [l0, l1], [vI (S 602 j.toNat)], S) := q_ialdX dX9_isShort_15 h0 h1
theorem eX9_isShort_15y {j : Int} {l0 l1 : Option VV} {S : MM} (h0 : 0 ≤ j) (h1 : j < S 604 1) : rn xX9_isShort (15, [l0, l1], [vI j, vR 603], S) = rn xX9_isShort (16, [l0, l1], [vI (S 603 j.toNat)], S) := q_ialdY dX9_isShort_15 h0 h1
theorem eX9_isShort_16 {a : Option Nat} {l1 : Option VV} {v0 : VV} {S : MM} : rn xX9_isShort (16, [some (.inr (.inl a)), l1], [v0], S) = rn xX9_isShort (17, [some (.inr (.inl a)), l1], [.inr (.inl a), v0], S) := rn_step dX9_isShort_16 rfl rfl
theorem eX9_isShort_17 {l0 l1 : Option VV} {v1 : VV} {S : MM} : rn xX9_isShort (17, [l0, l1], [vR 593, v1], S) = rn xX9_isShort (20, [l0, l1], [vR 594, v1], S) := q_getR dX9_isShort_17 rfl ⟨⟨by decide, by decide⟩, by decide⟩ (fun _ => by decide +kernel) kd593
theorem eX9_isShort_20 {l0 l1 : Option VV} {v0 v1 : VV} {S : MM} : rn xX9_isShort (20, [l0, l1], [v0, v1], S) = rn xX9_isShort (21, [l0, l1], [vI 5, v0, v1], S) := rn_step dX9_isShort_20 rfl rfl
theorem eX9_isShort_21 {i : Nat} {j : Int} {l0 l1 : Option VV} {v2 : VV} (h : kd i = 10) (h0 : 0 ≤ j) (h1 : j < alen i) {S : MM} : rn xX9_isShort (21, [l0, l1], [vI j, vR i, v2], S) = rn xX9_isShort (22, [l0, l1], [vI (S i j.toNat), v2], S) := q_iald dX9_isShort_21 h h0 h1
theorem eX9_isShort_21x {j : Int} {l0 l1 : Option VV} {v2 : VV} {S : MM} (h0 : 0 ≤ j) (h1 : j < S 604 0) : rn xX9_isShort (21, [l0, l1], [vI j, vR 602, v2], S) = rn xX9_isShort (22, [l0, l1], [vI (S 602 j.toNat), v2], S) := q_ialdX dX9_isShort_21 h0 h1
theorem eX9_isShort_21y {j : Int} {l0 l1 : Option VV} {v2 : VV} {S : MM} (h0 : 0 ≤ j) (h1 : j < S 604 1) : rn xX9_isShort (21, [l0, l1], [vI j, vR 603, v2], S) = rn xX9_isShort (22, [l0, l1], [vI (S 603 j.toNat), v2], S) := q_ialdY dX9_isShort_21 h0 h1
theorem eX9_isShort_22 {a b : Int} {l0 l1 : Option VV} (h : -2147483648 ≤ a ∧ a ≤ 2147483647) (h1 : -2147483648 ≤ b ∧ b ≤ 2147483647) {S : MM} : rn xX9_isShort (22, [l0, l1], [vI b, vI a], S) = if a < b then rn xX9_isShort (25, [l0, l1], [], S) else rn xX9_isShort (29, [l0, l1], [], S) := q_icmp_ge dX9_isShort_22 (by decide) rfl h h1
theorem eX9_isShort_25 {l0 l1 : Option VV} {S : MM} : rn xX9_isShort (25, [l0, l1], [], S) = rn xX9_isShort (26, [l0, l1], [vI 1], S) := rn_step dX9_isShort_25 rfl rfl
theorem eX9_isShort_26 {l0 l1 : Option VV} {v0 : VV} {S : MM} : rn xX9_isShort (26, [l0, l1], [v0], S) = rn xX9_isShort (30, [l0, l1], [v0], S) := rn_step dX9_isShort_26 rfl rfl
theorem eX9_isShort_29 {l0 l1 : Option VV} {S : MM} : rn xX9_isShort (29, [l0, l1], [], S) = rn xX9_isShort (30, [l0, l1], [vI 0], S) := rn_step dX9_isShort_29 rfl rfl
theorem eX9_isShort_30 {z : Int} {l0 l1 : Option VV} (hz : z = 0 ∨ z = 1) {S : MM} : rn xX9_isShort (30, [l0, l1], [vI z], S) = some (some (vI z), S) := q_retZ dX9_isShort_30 rfl hz
noncomputable def qlX9_halve : List CE := [(0, 85, 9, 2, fX9_isShort)]
noncomputable def xX9_halve : XX := (cX9_halve, fcF fcl9, mcF qlX9_halve, 0)
noncomputable def fX9_halve : FN := fnX xX9_halve 6
set_option maxRecDepth 100000 in
theorem cwX9_halve : Cond.code yX9_halve cX9_halve 6 none ∈ lw_g := lw_gm 1030 (by decide +kernel) (by decide +kernel)
set_option maxRecDepth 100000 in
theorem conX9_halve : Con yX9_halve cX9_halve 6 none { frames := 1, cells := 0, slots := 0, locals := 21 } fX9_halve := con_of (X := xX9_halve) (own := "LeapStonesModel") (ql := qlX9_halve) (by decide) rfl FOK9 rfl (List.forall_mem_cons.mpr ⟨call_V conX9_isShort cwX9_isShort (lw_gl _ [1019, 1021, 37, 84] (by decide +kernel) (by decide +kernel)) (by decide) rfl ⟨by decide, by decide, by decide +kernel⟩ ⟨rfl, rfl⟩ ⟨by decide, by decide⟩ ⟨Nat.le_refl _, Nat.le_refl _⟩, fun _ h => absurd h List.not_mem_nil⟩) (Or.inl ⟨rfl, rfl⟩)
theorem uX9_halve {i : Nat} {a0 : Int} {a1 : Int} {S : MM} : fX9_halve [vR i, vI a0, vI a1] S = rn xX9_halve (0, [some (vR i), some (vI a0), some (vI a1), none, none, none], [], S) := rfl
theorem dX9_halve_0 : decode cX9_halve 0 = .ok (.iload_n 1, 1) := by decide +kernel
theorem dX9_halve_1 : decode cX9_halve 1 = .ok (.istore_n 3, 1) := by decide +kernel
theorem dX9_halve_2 : decode cX9_halve 2 = .ok (.iload_n 2, 1) := by decide +kernel
theorem dX9_halve_3 : decode cX9_halve 3 = .ok (.istore 4, 2) := by decide +kernel
theorem dX9_halve_5 : decode cX9_halve 5 = .ok (.iload 4, 2) := by decide +kernel
theorem dX9_halve_7 : decode cX9_halve 7 = .ok (.iload_n 3, 1) := by decide +kernel
theorem dX9_halve_8 : decode cX9_halve 8 = .ok (.isub, 1) := by decide +kernel
theorem dX9_halve_9 : decode cX9_halve 9 = .ok (.iconst 1, 1) := by decide +kernel
theorem dX9_halve_10 : decode cX9_halve 10 = .ok (.if_icmp .le 33, 3) := by decide +kernel
theorem dX9_halve_13 : decode cX9_halve 13 = .ok (.iload_n 3, 1) := by decide +kernel
theorem dX9_halve_14 : decode cX9_halve 14 = .ok (.iload 4, 2) := by decide +kernel
theorem dX9_halve_16 : decode cX9_halve 16 = .ok (.iadd, 1) := by decide +kernel
theorem dX9_halve_17 : decode cX9_halve 17 = .ok (.iconst 2, 1) := by decide +kernel
theorem dX9_halve_18 : decode cX9_halve 18 = .ok (.idiv, 1) := by decide +kernel
theorem dX9_halve_19 : decode cX9_halve 19 = .ok (.istore 5, 2) := by decide +kernel
theorem dX9_halve_21 : decode cX9_halve 21 = .ok (.aload_n 0, 1) := by decide +kernel
theorem dX9_halve_22 : decode cX9_halve 22 = .ok (.iload 5, 2) := by decide +kernel
theorem dX9_halve_24 : decode cX9_halve 24 = .ok (.invokevirtual 85, 3) := by decide +kernel
theorem dX9_halve_27 : decode cX9_halve 27 = .ok (.ifCond .eq 9, 3) := by decide +kernel
theorem dX9_halve_30 : decode cX9_halve 30 = .ok (.iload 5, 2) := by decide +kernel
theorem dX9_halve_32 : decode cX9_halve 32 = .ok (.istore_n 3, 1) := by decide +kernel
theorem dX9_halve_33 : decode cX9_halve 33 = .ok (.goto 7, 3) := by decide +kernel
theorem dX9_halve_36 : decode cX9_halve 36 = .ok (.iload 5, 2) := by decide +kernel
theorem dX9_halve_38 : decode cX9_halve 38 = .ok (.istore 4, 2) := by decide +kernel
theorem dX9_halve_40 : decode cX9_halve 40 = .ok (.goto (-35), 3) := by decide +kernel
theorem dX9_halve_43 : decode cX9_halve 43 = .ok (.return_, 1) := by decide +kernel
theorem eX9_halve_0 {a : Int} {l0 l2 l3 l4 l5 : Option VV} {S : MM} : rn xX9_halve (0, [l0, some (vI a), l2, l3, l4, l5], [], S) = rn xX9_halve (1, [l0, some (vI a), l2, l3, l4, l5], [vI a], S) := rn_step dX9_halve_0 rfl rfl
theorem eX9_halve_1 {a : Int} {w : Int} {l0 l1 l3 l4 l5 : Option VV} {S : MM} : rn xX9_halve (1, [l0, l1, some (vI w), l3, l4, l5], [vI a], S) = rn xX9_halve (2, [l0, l1, some (vI w), some (vI a), l4, l5], [], S) := rn_step dX9_halve_1 rfl rfl
theorem eX9_halve_2 {a : Int} {l0 l1 l3 l4 l5 : Option VV} {S : MM} : rn xX9_halve (2, [l0, l1, some (vI a), l3, l4, l5], [], S) = rn xX9_halve (3, [l0, l1, some (vI a), l3, l4, l5], [vI a], S) := rn_step dX9_halve_2 rfl rfl
theorem eX9_halve_3 {a : Int} {w : Int} {l0 l1 l2 l4 l5 : Option VV} {S : MM} : rn xX9_halve (3, [l0, l1, l2, some (vI w), l4, l5], [vI a], S) = rn xX9_halve (5, [l0, l1, l2, some (vI w), some (vI a), l5], [], S) := rn_step dX9_halve_3 rfl rfl
theorem eX9_halve_5 {a : Int} {l0 l1 l2 l3 l5 : Option VV} {S : MM} : rn xX9_halve (5, [l0, l1, l2, l3, some (vI a), l5], [], S) = rn xX9_halve (7, [l0, l1, l2, l3, some (vI a), l5], [vI a], S) := rn_step dX9_halve_5 rfl rfl
theorem eX9_halve_7 {a : Int} {l0 l1 l2 l4 l5 : Option VV} {v0 : VV} {S : MM} : rn xX9_halve (7, [l0, l1, l2, some (vI a), l4, l5], [v0], S) = rn xX9_halve (8, [l0, l1, l2, some (vI a), l4, l5], [vI a, v0], S) := rn_step dX9_halve_7 rfl rfl
theorem eX9_halve_8 {a b : Int} {l0 l1 l2 l3 l4 l5 : Option VV} {S : MM} : rn xX9_halve (8, [l0, l1, l2, l3, l4, l5], [vI b, vI a], S) = rn xX9_halve (9, [l0, l1, l2, l3, l4, l5], [vI (a - b)], S) := rn_step dX9_halve_8 rfl rfl
theorem eX9_halve_9 {l0 l1 l2 l3 l4 l5 : Option VV} {v0 : VV} {S : MM} : rn xX9_halve (9, [l0, l1, l2, l3, l4, l5], [v0], S) = rn xX9_halve (10, [l0, l1, l2, l3, l4, l5], [vI 1, v0], S) := rn_step dX9_halve_9 rfl rfl
theorem eX9_halve_10 {a b : Int} {l0 l1 l2 l3 l4 l5 : Option VV} (h : -2147483648 ≤ a ∧ a ≤ 2147483647) (h1 : -2147483648 ≤ b ∧ b ≤ 2147483647) {S : MM} : rn xX9_halve (10, [l0, l1, l2, l3, l4, l5], [vI b, vI a], S) = if b < a then rn xX9_halve (13, [l0, l1, l2, l3, l4, l5], [], S) else rn xX9_halve (43, [l0, l1, l2, l3, l4, l5], [], S) := q_icmp_le dX9_halve_10 (by decide) rfl h h1
theorem eX9_halve_13 {a : Int} {l0 l1 l2 l4 l5 : Option VV} {S : MM} : rn xX9_halve (13, [l0, l1, l2, some (vI a), l4, l5], [], S) = rn xX9_halve (14, [l0, l1, l2, some (vI a), l4, l5], [vI a], S) := rn_step dX9_halve_13 rfl rfl
theorem eX9_halve_14 {a : Int} {l0 l1 l2 l3 l5 : Option VV} {v0 : VV} {S : MM} : rn xX9_halve (14, [l0, l1, l2, l3, some (vI a), l5], [v0], S) = rn xX9_halve (16, [l0, l1, l2, l3, some (vI a), l5], [vI a, v0], S) := rn_step dX9_halve_14 rfl rfl
theorem eX9_halve_16 {a b : Int} {l0 l1 l2 l3 l4 l5 : Option VV} {S : MM} : rn xX9_halve (16, [l0, l1, l2, l3, l4, l5], [vI b, vI a], S) = rn xX9_halve (17, [l0, l1, l2, l3, l4, l5], [vI (a + b)], S) := rn_step dX9_halve_16 rfl rfl
theorem eX9_halve_17 {l0 l1 l2 l3 l4 l5 : Option VV} {v0 : VV} {S : MM} : rn xX9_halve (17, [l0, l1, l2, l3, l4, l5], [v0], S) = rn xX9_halve (18, [l0, l1, l2, l3, l4, l5], [vI 2, v0], S) := rn_step dX9_halve_17 rfl rfl
theorem eX9_halve_18 {a : Int} {l0 l1 l2 l3 l4 l5 : Option VV} (h0 : 0 ≤ a) (h1 : a ≤ 2147483647) {S : MM} : rn xX9_halve (18, [l0, l1, l2, l3, l4, l5], [vI 2, vI a], S) = rn xX9_halve (19, [l0, l1, l2, l3, l4, l5], [vI (a / 2)], S) := q_idiv dX9_halve_18 ⟨by decide, by decide⟩ h0 h1
theorem eX9_halve_19 {a : Int} {w : Int} {l0 l1 l2 l3 l5 : Option VV} {S : MM} : rn xX9_halve (19, [l0, l1, l2, l3, some (vI w), l5], [vI a], S) = rn xX9_halve (21, [l0, l1, l2, l3, some (vI w), some (vI a)], [], S) := rn_step dX9_halve_19 rfl rfl
theorem eX9_halve_21 {a : Option Nat} {l1 l2 l3 l4 l5 : Option VV} {S : MM} : rn xX9_halve (21, [some (.inr (.inl a)), l1, l2, l3, l4, l5], [], S) = rn xX9_halve (22, [some (.inr (.inl a)), l1, l2, l3, l4, l5], [.inr (.inl a)], S) := rn_step dX9_halve_21 rfl rfl
theorem eX9_halve_22 {a : Int} {l0 l1 l2 l3 l4 : Option VV} {v0 : VV} {S : MM} : rn xX9_halve (22, [l0, l1, l2, l3, l4, some (vI a)], [v0], S) = rn xX9_halve (24, [l0, l1, l2, l3, l4, some (vI a)], [vI a, v0], S) := rn_step dX9_halve_22 rfl rfl
theorem eX9_halve_24 {a0 : Int} {l0 l1 l2 l3 l4 l5 : Option VV} {S : MM} : rn xX9_halve (24, [l0, l1, l2, l3, l4, l5], [vI a0, vR 593], S) = (fX9_isShort [vR 593, vI a0] S).bind (fun q => rn xX9_halve (27, [l0, l1, l2, l3, l4, l5], q.1.toList ++ [], q.2)) := q_callV (n := 1) (as := [vI a0]) (rest := []) dX9_halve_24 rfl rfl rfl rfl kd593
theorem eX9_halve_27 {a : Int} {l0 l1 l2 l3 l4 l5 : Option VV} (h : -2147483648 ≤ a ∧ a ≤ 2147483647) {S : MM} : rn xX9_halve (27, [l0, l1, l2, l3, l4, l5], [vI a], S) = if a = 0 then rn xX9_halve (36, [l0, l1, l2, l3, l4, l5], [], S) else rn xX9_halve (30, [l0, l1, l2, l3, l4, l5], [], S) := q_if_eq dX9_halve_27 (by decide) rfl h
theorem eX9_halve_30 {a : Int} {l0 l1 l2 l3 l4 : Option VV} {S : MM} : rn xX9_halve (30, [l0, l1, l2, l3, l4, some (vI a)], [], S) = rn xX9_halve (32, [l0, l1, l2, l3, l4, some (vI a)], [vI a], S) := rn_step dX9_halve_30 rfl rfl
theorem eX9_halve_32 {a : Int} {w : Int} {l0 l1 l3 l4 l5 : Option VV} {S : MM} : rn xX9_halve (32, [l0, l1, some (vI w), l3, l4, l5], [vI a], S) = rn xX9_halve (33, [l0, l1, some (vI w), some (vI a), l4, l5], [], S) := rn_step dX9_halve_32 rfl rfl
theorem eX9_halve_33 {l0 l1 l2 l3 l4 l5 : Option VV} {S : MM} : rn xX9_halve (33, [l0, l1, l2, l3, l4, l5], [], S) = rn xX9_halve (40, [l0, l1, l2, l3, l4, l5], [], S) := rn_step dX9_halve_33 rfl rfl
theorem eX9_halve_36 {a : Int} {l0 l1 l2 l3 l4 : Option VV} {S : MM} : rn xX9_halve (36, [l0, l1, l2, l3, l4, some (vI a)], [], S) = rn xX9_halve (38, [l0, l1, l2, l3, l4, some (vI a)], [vI a], S) := rn_step dX9_halve_36 rfl rfl
theorem eX9_halve_38 {a : Int} {w : Int} {l0 l1 l2 l4 l5 : Option VV} {S : MM} : rn xX9_halve (38, [l0, l1, l2, some (vI w), l4, l5], [vI a], S) = rn xX9_halve (40, [l0, l1, l2, some (vI w), some (vI a), l5], [], S) := rn_step dX9_halve_38 rfl rfl
theorem eX9_halve_40 {l0 l1 l2 l3 l4 l5 : Option VV} {S : MM} : rn xX9_halve (40, [l0, l1, l2, l3, l4, l5], [], S) = rn xX9_halve (5, [l0, l1, l2, l3, l4, l5], [], S) := rn_step dX9_halve_40 rfl rfl
theorem eX9_halve_43 {l0 l1 l2 l3 l4 l5 : Option VV} {S : MM} : rn xX9_halve (43, [l0, l1, l2, l3, l4, l5], [], S) = some (none, S) := q_retV dX9_halve_43 rfl
noncomputable def qlX9_walkOn : List CE := [(0, 85, 9, 2, fX9_isShort)]
noncomputable def xX9_walkOn : XX := (cX9_walkOn, fcF fcl9, mcF qlX9_walkOn, 0)
noncomputable def fX9_walkOn : FN := fnX xX9_walkOn 3
set_option maxRecDepth 100000 in
theorem cwX9_walkOn : Cond.code yX9_walkOn cX9_walkOn 3 none ∈ lw_g := lw_gm 1018 (by decide +kernel) (by decide +kernel)
set_option maxRecDepth 100000 in
theorem conX9_walkOn : Con yX9_walkOn cX9_walkOn 3 none { frames := 1, cells := 0, slots := 0, locals := 21 } fX9_walkOn := con_of (X := xX9_walkOn) (own := "LeapStonesModel") (ql := qlX9_walkOn) (by decide) rfl FOK9 rfl (List.forall_mem_cons.mpr ⟨call_V conX9_isShort cwX9_isShort (lw_gl _ [1019, 1021, 37, 84] (by decide +kernel) (by decide +kernel)) (by decide) rfl ⟨by decide, by decide, by decide +kernel⟩ ⟨rfl, rfl⟩ ⟨by decide, by decide⟩ ⟨Nat.le_refl _, Nat.le_refl _⟩, fun _ h => absurd h List.not_mem_nil⟩) (Or.inl ⟨rfl, rfl⟩)
theorem uX9_walkOn {i : Nat} {a0 : Int} {S : MM} : fX9_walkOn [vR i, vI a0] S = rn xX9_walkOn (0, [some (vR i), some (vI a0), none], [], S) := rfl
theorem dX9_walkOn_0 : decode cX9_walkOn 0 = .ok (.iload_n 1, 1) := by decide +kernel
theorem dX9_walkOn_1 : decode cX9_walkOn 1 = .ok (.iconst 1, 1) := by decide +kernel
theorem dX9_walkOn_2 : decode cX9_walkOn 2 = .ok (.iadd, 1) := by decide +kernel
theorem dX9_walkOn_3 : decode cX9_walkOn 3 = .ok (.istore_n 2, 1) := by decide +kernel
theorem dX9_walkOn_4 : decode cX9_walkOn 4 = .ok (.iload_n 2, 1) := by decide +kernel
theorem dX9_walkOn_5 : decode cX9_walkOn 5 = .ok (.aload_n 0, 1) := by decide +kernel
theorem dX9_walkOn_6 : decode cX9_walkOn 6 = .ok (.getfield 79, 3) := by decide +kernel
theorem dX9_walkOn_9 : decode cX9_walkOn 9 = .ok (.if_icmp .ge 17, 3) := by decide +kernel
theorem dX9_walkOn_12 : decode cX9_walkOn 12 = .ok (.aload_n 0, 1) := by decide +kernel
theorem dX9_walkOn_13 : decode cX9_walkOn 13 = .ok (.iload_n 2, 1) := by decide +kernel
theorem dX9_walkOn_14 : decode cX9_walkOn 14 = .ok (.invokevirtual 85, 3) := by decide +kernel
theorem dX9_walkOn_17 : decode cX9_walkOn 17 = .ok (.ifCond .eq 9, 3) := by decide +kernel
theorem dX9_walkOn_20 : decode cX9_walkOn 20 = .ok (.iinc 2 1, 3) := by decide +kernel
theorem dX9_walkOn_23 : decode cX9_walkOn 23 = .ok (.goto (-19), 3) := by decide +kernel
theorem dX9_walkOn_26 : decode cX9_walkOn 26 = .ok (.return_, 1) := by decide +kernel
theorem eX9_walkOn_0 {a : Int} {l0 l2 : Option VV} {S : MM} : rn xX9_walkOn (0, [l0, some (vI a), l2], [], S) = rn xX9_walkOn (1, [l0, some (vI a), l2], [vI a], S) := rn_step dX9_walkOn_0 rfl rfl
theorem eX9_walkOn_1 {l0 l1 l2 : Option VV} {v0 : VV} {S : MM} : rn xX9_walkOn (1, [l0, l1, l2], [v0], S) = rn xX9_walkOn (2, [l0, l1, l2], [vI 1, v0], S) := rn_step dX9_walkOn_1 rfl rfl
theorem eX9_walkOn_2 {a b : Int} {l0 l1 l2 : Option VV} {S : MM} : rn xX9_walkOn (2, [l0, l1, l2], [vI b, vI a], S) = rn xX9_walkOn (3, [l0, l1, l2], [vI (a + b)], S) := rn_step dX9_walkOn_2 rfl rfl
theorem eX9_walkOn_3 {a : Int} {w : Int} {l0 l2 : Option VV} {S : MM} : rn xX9_walkOn (3, [l0, some (vI w), l2], [vI a], S) = rn xX9_walkOn (4, [l0, some (vI w), some (vI a)], [], S) := rn_step dX9_walkOn_3 rfl rfl
theorem eX9_walkOn_4 {a : Int} {l0 l1 : Option VV} {S : MM} : rn xX9_walkOn (4, [l0, l1, some (vI a)], [], S) = rn xX9_walkOn (5, [l0, l1, some (vI a)], [vI a], S) := rn_step dX9_walkOn_4 rfl rfl
theorem eX9_walkOn_5 {a : Option Nat} {l1 l2 : Option VV} {v0 : VV} {S : MM} : rn xX9_walkOn (5, [some (.inr (.inl a)), l1, l2], [v0], S) = rn xX9_walkOn (6, [some (.inr (.inl a)), l1, l2], [.inr (.inl a), v0], S) := rn_step dX9_walkOn_5 rfl rfl
theorem eX9_walkOn_6 {l0 l1 l2 : Option VV} {v1 : VV} {S : MM} : rn xX9_walkOn (6, [l0, l1, l2], [vR 593, v1], S) = rn xX9_walkOn (9, [l0, l1, l2], [vI (S 593 8), v1], S) := q_getI dX9_walkOn_6 rfl ⟨⟨by decide, by decide⟩, by decide⟩ kd593
theorem eX9_walkOn_9 {a b : Int} {l0 l1 l2 : Option VV} (h : -2147483648 ≤ a ∧ a ≤ 2147483647) (h1 : -2147483648 ≤ b ∧ b ≤ 2147483647) {S : MM} : rn xX9_walkOn (9, [l0, l1, l2], [vI b, vI a], S) = if a < b then rn xX9_walkOn (12, [l0, l1, l2], [], S) else rn xX9_walkOn (26, [l0, l1, l2], [], S) := q_icmp_ge dX9_walkOn_9 (by decide) rfl h h1
theorem eX9_walkOn_12 {a : Option Nat} {l1 l2 : Option VV} {S : MM} : rn xX9_walkOn (12, [some (.inr (.inl a)), l1, l2], [], S) = rn xX9_walkOn (13, [some (.inr (.inl a)), l1, l2], [.inr (.inl a)], S) := rn_step dX9_walkOn_12 rfl rfl
theorem eX9_walkOn_13 {a : Int} {l0 l1 : Option VV} {v0 : VV} {S : MM} : rn xX9_walkOn (13, [l0, l1, some (vI a)], [v0], S) = rn xX9_walkOn (14, [l0, l1, some (vI a)], [vI a, v0], S) := rn_step dX9_walkOn_13 rfl rfl
theorem eX9_walkOn_14 {a0 : Int} {l0 l1 l2 : Option VV} {S : MM} : rn xX9_walkOn (14, [l0, l1, l2], [vI a0, vR 593], S) = (fX9_isShort [vR 593, vI a0] S).bind (fun q => rn xX9_walkOn (17, [l0, l1, l2], q.1.toList ++ [], q.2)) := q_callV (n := 1) (as := [vI a0]) (rest := []) dX9_walkOn_14 rfl rfl rfl rfl kd593
theorem eX9_walkOn_17 {a : Int} {l0 l1 l2 : Option VV} (h : -2147483648 ≤ a ∧ a ≤ 2147483647) {S : MM} : rn xX9_walkOn (17, [l0, l1, l2], [vI a], S) = if a = 0 then rn xX9_walkOn (26, [l0, l1, l2], [], S) else rn xX9_walkOn (20, [l0, l1, l2], [], S) := q_if_eq dX9_walkOn_17 (by decide) rfl h
theorem eX9_walkOn_20 {a : Int} {w : Int} {l0 : Option VV} {S : MM} : rn xX9_walkOn (20, [l0, some (vI w), some (vI a)], [], S) = rn xX9_walkOn (23, [l0, some (vI w), some (vI (a + 1))], [], S) := rn_step dX9_walkOn_20 rfl rfl
theorem eX9_walkOn_23 {l0 l1 l2 : Option VV} {S : MM} : rn xX9_walkOn (23, [l0, l1, l2], [], S) = rn xX9_walkOn (4, [l0, l1, l2], [], S) := rn_step dX9_walkOn_23 rfl rfl
theorem eX9_walkOn_26 {l0 l1 l2 : Option VV} {S : MM} : rn xX9_walkOn (26, [l0, l1, l2], [], S) = some (none, S) := q_retV dX9_walkOn_26 rfl
noncomputable def qlX9_doubleOn : List CE := [(0, 85, 9, 2, fX9_isShort), (0, 89, 9, 3, fX9_halve)]
noncomputable def xX9_doubleOn : XX := (cX9_doubleOn, fcF fcl9, mcF qlX9_doubleOn, 0)
noncomputable def fX9_doubleOn : FN := fnX xX9_doubleOn 5
set_option maxRecDepth 100000 in
theorem cwX9_doubleOn : Cond.code yX9_doubleOn cX9_doubleOn 5 none ∈ lw_g := lw_gm 1026 (by decide +kernel) (by decide +kernel)
set_option maxRecDepth 100000 in
theorem conX9_doubleOn : Con yX9_doubleOn cX9_doubleOn 5 none { frames := 2, cells := 0, slots := 0, locals := 46 } fX9_doubleOn := con_of (X := xX9_doubleOn) (own := "LeapStonesModel") (ql := qlX9_doubleOn) (by decide) rfl FOK9 rfl (List.forall_mem_cons.mpr ⟨call_V conX9_isShort cwX9_isShort (lw_gl _ [1019, 1021, 37, 84] (by decide +kernel) (by decide +kernel)) (by decide) rfl ⟨by decide, by decide, by decide +kernel⟩ ⟨rfl, rfl⟩ ⟨by decide, by decide⟩ ⟨Nat.le_refl _, Nat.le_refl _⟩, List.forall_mem_cons.mpr ⟨call_V conX9_halve cwX9_halve (lw_gl _ [1027, 1029, 39, 84] (by decide +kernel) (by decide +kernel)) (by decide) rfl ⟨by decide, by decide, by decide +kernel⟩ ⟨rfl, rfl⟩ ⟨by decide, by decide⟩ ⟨Nat.le_refl _, Nat.le_refl _⟩, fun _ h => absurd h List.not_mem_nil⟩⟩) (Or.inl ⟨rfl, rfl⟩)
theorem uX9_doubleOn {i : Nat} {a0 : Int} {S : MM} : fX9_doubleOn [vR i, vI a0] S = rn xX9_doubleOn (0, [some (vR i), some (vI a0), none, none, none], [], S) := rfl
theorem dX9_doubleOn_0 : decode cX9_doubleOn 0 = .ok (.iload_n 1, 1) := by decide +kernel
theorem dX9_doubleOn_1 : decode cX9_doubleOn 1 = .ok (.istore_n 2, 1) := by decide +kernel
theorem dX9_doubleOn_2 : decode cX9_doubleOn 2 = .ok (.aload_n 0, 1) := by decide +kernel
theorem dX9_doubleOn_3 : decode cX9_doubleOn 3 = .ok (.getfield 79, 3) := by decide +kernel
theorem dX9_doubleOn_6 : decode cX9_doubleOn 6 = .ok (.istore_n 3, 1) := by decide +kernel
theorem dX9_doubleOn_7 : decode cX9_doubleOn 7 = .ok (.iconst 1, 1) := by decide +kernel
theorem dX9_doubleOn_8 : decode cX9_doubleOn 8 = .ok (.istore 4, 2) := by decide +kernel
theorem dX9_doubleOn_10 : decode cX9_doubleOn 10 = .ok (.iload_n 3, 1) := by decide +kernel
theorem dX9_doubleOn_11 : decode cX9_doubleOn 11 = .ok (.aload_n 0, 1) := by decide +kernel
theorem dX9_doubleOn_12 : decode cX9_doubleOn 12 = .ok (.getfield 79, 3) := by decide +kernel
theorem dX9_doubleOn_15 : decode cX9_doubleOn 15 = .ok (.if_icmp .ne 47, 3) := by decide +kernel
theorem dX9_doubleOn_18 : decode cX9_doubleOn 18 = .ok (.iload_n 1, 1) := by decide +kernel
theorem dX9_doubleOn_19 : decode cX9_doubleOn 19 = .ok (.iload 4, 2) := by decide +kernel
theorem dX9_doubleOn_21 : decode cX9_doubleOn 21 = .ok (.iadd, 1) := by decide +kernel
theorem dX9_doubleOn_22 : decode cX9_doubleOn 22 = .ok (.aload_n 0, 1) := by decide +kernel
theorem dX9_doubleOn_23 : decode cX9_doubleOn 23 = .ok (.getfield 79, 3) := by decide +kernel
theorem dX9_doubleOn_26 : decode cX9_doubleOn 26 = .ok (.if_icmp .ge 36, 3) := by decide +kernel
theorem dX9_doubleOn_29 : decode cX9_doubleOn 29 = .ok (.aload_n 0, 1) := by decide +kernel
theorem dX9_doubleOn_30 : decode cX9_doubleOn 30 = .ok (.iload_n 1, 1) := by decide +kernel
theorem dX9_doubleOn_31 : decode cX9_doubleOn 31 = .ok (.iload 4, 2) := by decide +kernel
theorem dX9_doubleOn_33 : decode cX9_doubleOn 33 = .ok (.iadd, 1) := by decide +kernel
theorem dX9_doubleOn_34 : decode cX9_doubleOn 34 = .ok (.invokevirtual 85, 3) := by decide +kernel
theorem dX9_doubleOn_37 : decode cX9_doubleOn 37 = .ok (.ifCond .eq 11, 3) := by decide +kernel
theorem dX9_doubleOn_40 : decode cX9_doubleOn 40 = .ok (.iload_n 1, 1) := by decide +kernel
theorem dX9_doubleOn_41 : decode cX9_doubleOn 41 = .ok (.iload 4, 2) := by decide +kernel
theorem dX9_doubleOn_43 : decode cX9_doubleOn 43 = .ok (.iadd, 1) := by decide +kernel
theorem dX9_doubleOn_44 : decode cX9_doubleOn 44 = .ok (.istore_n 2, 1) := by decide +kernel
theorem dX9_doubleOn_45 : decode cX9_doubleOn 45 = .ok (.goto 8, 3) := by decide +kernel
theorem dX9_doubleOn_48 : decode cX9_doubleOn 48 = .ok (.iload_n 1, 1) := by decide +kernel
theorem dX9_doubleOn_49 : decode cX9_doubleOn 49 = .ok (.iload 4, 2) := by decide +kernel
theorem dX9_doubleOn_51 : decode cX9_doubleOn 51 = .ok (.iadd, 1) := by decide +kernel
theorem dX9_doubleOn_52 : decode cX9_doubleOn 52 = .ok (.istore_n 3, 1) := by decide +kernel
theorem dX9_doubleOn_53 : decode cX9_doubleOn 53 = .ok (.iload 4, 2) := by decide +kernel
theorem dX9_doubleOn_55 : decode cX9_doubleOn 55 = .ok (.iconst 2, 1) := by decide +kernel
theorem dX9_doubleOn_56 : decode cX9_doubleOn 56 = .ok (.imul, 1) := by decide +kernel
theorem dX9_doubleOn_57 : decode cX9_doubleOn 57 = .ok (.istore 4, 2) := by decide +kernel
theorem dX9_doubleOn_59 : decode cX9_doubleOn 59 = .ok (.goto (-49), 3) := by decide +kernel
theorem dX9_doubleOn_62 : decode cX9_doubleOn 62 = .ok (.aload_n 0, 1) := by decide +kernel
theorem dX9_doubleOn_63 : decode cX9_doubleOn 63 = .ok (.iload_n 2, 1) := by decide +kernel
theorem dX9_doubleOn_64 : decode cX9_doubleOn 64 = .ok (.iload_n 3, 1) := by decide +kernel
theorem dX9_doubleOn_65 : decode cX9_doubleOn 65 = .ok (.invokevirtual 89, 3) := by decide +kernel
theorem dX9_doubleOn_68 : decode cX9_doubleOn 68 = .ok (.return_, 1) := by decide +kernel
theorem eX9_doubleOn_0 {a : Int} {l0 l2 l3 l4 : Option VV} {S : MM} : rn xX9_doubleOn (0, [l0, some (vI a), l2, l3, l4], [], S) = rn xX9_doubleOn (1, [l0, some (vI a), l2, l3, l4], [vI a], S) := rn_step dX9_doubleOn_0 rfl rfl
theorem eX9_doubleOn_1 {a : Int} {w : Int} {l0 l2 l3 l4 : Option VV} {S : MM} : rn xX9_doubleOn (1, [l0, some (vI w), l2, l3, l4], [vI a], S) = rn xX9_doubleOn (2, [l0, some (vI w), some (vI a), l3, l4], [], S) := rn_step dX9_doubleOn_1 rfl rfl
theorem eX9_doubleOn_2 {a : Option Nat} {l1 l2 l3 l4 : Option VV} {S : MM} : rn xX9_doubleOn (2, [some (.inr (.inl a)), l1, l2, l3, l4], [], S) = rn xX9_doubleOn (3, [some (.inr (.inl a)), l1, l2, l3, l4], [.inr (.inl a)], S) := rn_step dX9_doubleOn_2 rfl rfl
theorem eX9_doubleOn_3 {l0 l1 l2 l3 l4 : Option VV} {S : MM} : rn xX9_doubleOn (3, [l0, l1, l2, l3, l4], [vR 593], S) = rn xX9_doubleOn (6, [l0, l1, l2, l3, l4], [vI (S 593 8)], S) := q_getI dX9_doubleOn_3 rfl ⟨⟨by decide, by decide⟩, by decide⟩ kd593
theorem eX9_doubleOn_6 {a : Int} {w : Int} {l0 l1 l3 l4 : Option VV} {S : MM} : rn xX9_doubleOn (6, [l0, l1, some (vI w), l3, l4], [vI a], S) = rn xX9_doubleOn (7, [l0, l1, some (vI w), some (vI a), l4], [], S) := rn_step dX9_doubleOn_6 rfl rfl
theorem eX9_doubleOn_7 {l0 l1 l2 l3 l4 : Option VV} {S : MM} : rn xX9_doubleOn (7, [l0, l1, l2, l3, l4], [], S) = rn xX9_doubleOn (8, [l0, l1, l2, l3, l4], [vI 1], S) := rn_step dX9_doubleOn_7 rfl rfl
theorem eX9_doubleOn_8 {a : Int} {w : Int} {l0 l1 l2 l4 : Option VV} {S : MM} : rn xX9_doubleOn (8, [l0, l1, l2, some (vI w), l4], [vI a], S) = rn xX9_doubleOn (10, [l0, l1, l2, some (vI w), some (vI a)], [], S) := rn_step dX9_doubleOn_8 rfl rfl
theorem eX9_doubleOn_10 {a : Int} {l0 l1 l2 l4 : Option VV} {S : MM} : rn xX9_doubleOn (10, [l0, l1, l2, some (vI a), l4], [], S) = rn xX9_doubleOn (11, [l0, l1, l2, some (vI a), l4], [vI a], S) := rn_step dX9_doubleOn_10 rfl rfl
theorem eX9_doubleOn_11 {a : Option Nat} {l1 l2 l3 l4 : Option VV} {v0 : VV} {S : MM} : rn xX9_doubleOn (11, [some (.inr (.inl a)), l1, l2, l3, l4], [v0], S) = rn xX9_doubleOn (12, [some (.inr (.inl a)), l1, l2, l3, l4], [.inr (.inl a), v0], S) := rn_step dX9_doubleOn_11 rfl rfl
theorem eX9_doubleOn_12 {l0 l1 l2 l3 l4 : Option VV} {v1 : VV} {S : MM} : rn xX9_doubleOn (12, [l0, l1, l2, l3, l4], [vR 593, v1], S) = rn xX9_doubleOn (15, [l0, l1, l2, l3, l4], [vI (S 593 8), v1], S) := q_getI dX9_doubleOn_12 rfl ⟨⟨by decide, by decide⟩, by decide⟩ kd593
theorem eX9_doubleOn_15 {a b : Int} {l0 l1 l2 l3 l4 : Option VV} (h : -2147483648 ≤ a ∧ a ≤ 2147483647) (h1 : -2147483648 ≤ b ∧ b ≤ 2147483647) {S : MM} : rn xX9_doubleOn (15, [l0, l1, l2, l3, l4], [vI b, vI a], S) = if a = b then rn xX9_doubleOn (18, [l0, l1, l2, l3, l4], [], S) else rn xX9_doubleOn (62, [l0, l1, l2, l3, l4], [], S) := q_icmp_ne dX9_doubleOn_15 (by decide) rfl h h1
theorem eX9_doubleOn_18 {a : Int} {l0 l2 l3 l4 : Option VV} {S : MM} : rn xX9_doubleOn (18, [l0, some (vI a), l2, l3, l4], [], S) = rn xX9_doubleOn (19, [l0, some (vI a), l2, l3, l4], [vI a], S) := rn_step dX9_doubleOn_18 rfl rfl
theorem eX9_doubleOn_19 {a : Int} {l0 l1 l2 l3 : Option VV} {v0 : VV} {S : MM} : rn xX9_doubleOn (19, [l0, l1, l2, l3, some (vI a)], [v0], S) = rn xX9_doubleOn (21, [l0, l1, l2, l3, some (vI a)], [vI a, v0], S) := rn_step dX9_doubleOn_19 rfl rfl
theorem eX9_doubleOn_21 {a b : Int} {l0 l1 l2 l3 l4 : Option VV} {S : MM} : rn xX9_doubleOn (21, [l0, l1, l2, l3, l4], [vI b, vI a], S) = rn xX9_doubleOn (22, [l0, l1, l2, l3, l4], [vI (a + b)], S) := rn_step dX9_doubleOn_21 rfl rfl
theorem eX9_doubleOn_22 {a : Option Nat} {l1 l2 l3 l4 : Option VV} {v0 : VV} {S : MM} : rn xX9_doubleOn (22, [some (.inr (.inl a)), l1, l2, l3, l4], [v0], S) = rn xX9_doubleOn (23, [some (.inr (.inl a)), l1, l2, l3, l4], [.inr (.inl a), v0], S) := rn_step dX9_doubleOn_22 rfl rfl
theorem eX9_doubleOn_23 {l0 l1 l2 l3 l4 : Option VV} {v1 : VV} {S : MM} : rn xX9_doubleOn (23, [l0, l1, l2, l3, l4], [vR 593, v1], S) = rn xX9_doubleOn (26, [l0, l1, l2, l3, l4], [vI (S 593 8), v1], S) := q_getI dX9_doubleOn_23 rfl ⟨⟨by decide, by decide⟩, by decide⟩ kd593
theorem eX9_doubleOn_26 {a b : Int} {l0 l1 l2 l3 l4 : Option VV} (h : -2147483648 ≤ a ∧ a ≤ 2147483647) (h1 : -2147483648 ≤ b ∧ b ≤ 2147483647) {S : MM} : rn xX9_doubleOn (26, [l0, l1, l2, l3, l4], [vI b, vI a], S) = if a < b then rn xX9_doubleOn (29, [l0, l1, l2, l3, l4], [], S) else rn xX9_doubleOn (62, [l0, l1, l2, l3, l4], [], S) := q_icmp_ge dX9_doubleOn_26 (by decide) rfl h h1
theorem eX9_doubleOn_29 {a : Option Nat} {l1 l2 l3 l4 : Option VV} {S : MM} : rn xX9_doubleOn (29, [some (.inr (.inl a)), l1, l2, l3, l4], [], S) = rn xX9_doubleOn (30, [some (.inr (.inl a)), l1, l2, l3, l4], [.inr (.inl a)], S) := rn_step dX9_doubleOn_29 rfl rfl
theorem eX9_doubleOn_30 {a : Int} {l0 l2 l3 l4 : Option VV} {v0 : VV} {S : MM} : rn xX9_doubleOn (30, [l0, some (vI a), l2, l3, l4], [v0], S) = rn xX9_doubleOn (31, [l0, some (vI a), l2, l3, l4], [vI a, v0], S) := rn_step dX9_doubleOn_30 rfl rfl
theorem eX9_doubleOn_31 {a : Int} {l0 l1 l2 l3 : Option VV} {v0 v1 : VV} {S : MM} : rn xX9_doubleOn (31, [l0, l1, l2, l3, some (vI a)], [v0, v1], S) = rn xX9_doubleOn (33, [l0, l1, l2, l3, some (vI a)], [vI a, v0, v1], S) := rn_step dX9_doubleOn_31 rfl rfl
theorem eX9_doubleOn_33 {a b : Int} {l0 l1 l2 l3 l4 : Option VV} {v2 : VV} {S : MM} : rn xX9_doubleOn (33, [l0, l1, l2, l3, l4], [vI b, vI a, v2], S) = rn xX9_doubleOn (34, [l0, l1, l2, l3, l4], [vI (a + b), v2], S) := rn_step dX9_doubleOn_33 rfl rfl
theorem eX9_doubleOn_34 {a0 : Int} {l0 l1 l2 l3 l4 : Option VV} {S : MM} : rn xX9_doubleOn (34, [l0, l1, l2, l3, l4], [vI a0, vR 593], S) = (fX9_isShort [vR 593, vI a0] S).bind (fun q => rn xX9_doubleOn (37, [l0, l1, l2, l3, l4], q.1.toList ++ [], q.2)) := q_callV (n := 1) (as := [vI a0]) (rest := []) dX9_doubleOn_34 rfl rfl rfl rfl kd593
theorem eX9_doubleOn_37 {a : Int} {l0 l1 l2 l3 l4 : Option VV} (h : -2147483648 ≤ a ∧ a ≤ 2147483647) {S : MM} : rn xX9_doubleOn (37, [l0, l1, l2, l3, l4], [vI a], S) = if a = 0 then rn xX9_doubleOn (48, [l0, l1, l2, l3, l4], [], S) else rn xX9_doubleOn (40, [l0, l1, l2, l3, l4], [], S) := q_if_eq dX9_doubleOn_37 (by decide) rfl h
theorem eX9_doubleOn_40 {a : Int} {l0 l2 l3 l4 : Option VV} {S : MM} : rn xX9_doubleOn (40, [l0, some (vI a), l2, l3, l4], [], S) = rn xX9_doubleOn (41, [l0, some (vI a), l2, l3, l4], [vI a], S) := rn_step dX9_doubleOn_40 rfl rfl
theorem eX9_doubleOn_41 {a : Int} {l0 l1 l2 l3 : Option VV} {v0 : VV} {S : MM} : rn xX9_doubleOn (41, [l0, l1, l2, l3, some (vI a)], [v0], S) = rn xX9_doubleOn (43, [l0, l1, l2, l3, some (vI a)], [vI a, v0], S) := rn_step dX9_doubleOn_41 rfl rfl
theorem eX9_doubleOn_43 {a b : Int} {l0 l1 l2 l3 l4 : Option VV} {S : MM} : rn xX9_doubleOn (43, [l0, l1, l2, l3, l4], [vI b, vI a], S) = rn xX9_doubleOn (44, [l0, l1, l2, l3, l4], [vI (a + b)], S) := rn_step dX9_doubleOn_43 rfl rfl
theorem eX9_doubleOn_44 {a : Int} {w : Int} {l0 l2 l3 l4 : Option VV} {S : MM} : rn xX9_doubleOn (44, [l0, some (vI w), l2, l3, l4], [vI a], S) = rn xX9_doubleOn (45, [l0, some (vI w), some (vI a), l3, l4], [], S) := rn_step dX9_doubleOn_44 rfl rfl
theorem eX9_doubleOn_45 {l0 l1 l2 l3 l4 : Option VV} {S : MM} : rn xX9_doubleOn (45, [l0, l1, l2, l3, l4], [], S) = rn xX9_doubleOn (53, [l0, l1, l2, l3, l4], [], S) := rn_step dX9_doubleOn_45 rfl rfl
theorem eX9_doubleOn_48 {a : Int} {l0 l2 l3 l4 : Option VV} {S : MM} : rn xX9_doubleOn (48, [l0, some (vI a), l2, l3, l4], [], S) = rn xX9_doubleOn (49, [l0, some (vI a), l2, l3, l4], [vI a], S) := rn_step dX9_doubleOn_48 rfl rfl
theorem eX9_doubleOn_49 {a : Int} {l0 l1 l2 l3 : Option VV} {v0 : VV} {S : MM} : rn xX9_doubleOn (49, [l0, l1, l2, l3, some (vI a)], [v0], S) = rn xX9_doubleOn (51, [l0, l1, l2, l3, some (vI a)], [vI a, v0], S) := rn_step dX9_doubleOn_49 rfl rfl
theorem eX9_doubleOn_51 {a b : Int} {l0 l1 l2 l3 l4 : Option VV} {S : MM} : rn xX9_doubleOn (51, [l0, l1, l2, l3, l4], [vI b, vI a], S) = rn xX9_doubleOn (52, [l0, l1, l2, l3, l4], [vI (a + b)], S) := rn_step dX9_doubleOn_51 rfl rfl
theorem eX9_doubleOn_52 {a : Int} {w : Int} {l0 l1 l3 l4 : Option VV} {S : MM} : rn xX9_doubleOn (52, [l0, l1, some (vI w), l3, l4], [vI a], S) = rn xX9_doubleOn (53, [l0, l1, some (vI w), some (vI a), l4], [], S) := rn_step dX9_doubleOn_52 rfl rfl
theorem eX9_doubleOn_53 {a : Int} {l0 l1 l2 l3 : Option VV} {S : MM} : rn xX9_doubleOn (53, [l0, l1, l2, l3, some (vI a)], [], S) = rn xX9_doubleOn (55, [l0, l1, l2, l3, some (vI a)], [vI a], S) := rn_step dX9_doubleOn_53 rfl rfl
theorem eX9_doubleOn_55 {l0 l1 l2 l3 l4 : Option VV} {v0 : VV} {S : MM} : rn xX9_doubleOn (55, [l0, l1, l2, l3, l4], [v0], S) = rn xX9_doubleOn (56, [l0, l1, l2, l3, l4], [vI 2, v0], S) := rn_step dX9_doubleOn_55 rfl rfl
theorem eX9_doubleOn_56 {a b : Int} {l0 l1 l2 l3 l4 : Option VV} {S : MM} : rn xX9_doubleOn (56, [l0, l1, l2, l3, l4], [vI b, vI a], S) = rn xX9_doubleOn (57, [l0, l1, l2, l3, l4], [vI (a * b)], S) := rn_step dX9_doubleOn_56 rfl rfl
theorem eX9_doubleOn_57 {a : Int} {w : Int} {l0 l1 l2 l4 : Option VV} {S : MM} : rn xX9_doubleOn (57, [l0, l1, l2, some (vI w), l4], [vI a], S) = rn xX9_doubleOn (59, [l0, l1, l2, some (vI w), some (vI a)], [], S) := rn_step dX9_doubleOn_57 rfl rfl
theorem eX9_doubleOn_59 {l0 l1 l2 l3 l4 : Option VV} {S : MM} : rn xX9_doubleOn (59, [l0, l1, l2, l3, l4], [], S) = rn xX9_doubleOn (10, [l0, l1, l2, l3, l4], [], S) := rn_step dX9_doubleOn_59 rfl rfl
theorem eX9_doubleOn_62 {a : Option Nat} {l1 l2 l3 l4 : Option VV} {S : MM} : rn xX9_doubleOn (62, [some (.inr (.inl a)), l1, l2, l3, l4], [], S) = rn xX9_doubleOn (63, [some (.inr (.inl a)), l1, l2, l3, l4], [.inr (.inl a)], S) := rn_step dX9_doubleOn_62 rfl rfl
theorem eX9_doubleOn_63 {a : Int} {l0 l1 l3 l4 : Option VV} {v0 : VV} {S : MM} : rn xX9_doubleOn (63, [l0, l1, some (vI a), l3, l4], [v0], S) = rn xX9_doubleOn (64, [l0, l1, some (vI a), l3, l4], [vI a, v0], S) := rn_step dX9_doubleOn_63 rfl rfl
theorem eX9_doubleOn_64 {a : Int} {l0 l1 l2 l4 : Option VV} {v0 v1 : VV} {S : MM} : rn xX9_doubleOn (64, [l0, l1, l2, some (vI a), l4], [v0, v1], S) = rn xX9_doubleOn (65, [l0, l1, l2, some (vI a), l4], [vI a, v0, v1], S) := rn_step dX9_doubleOn_64 rfl rfl
theorem eX9_doubleOn_65 {a0 : Int} {a1 : Int} {l0 l1 l2 l3 l4 : Option VV} {S : MM} : rn xX9_doubleOn (65, [l0, l1, l2, l3, l4], [vI a1, vI a0, vR 593], S) = (fX9_halve [vR 593, vI a0, vI a1] S).bind (fun q => rn xX9_doubleOn (68, [l0, l1, l2, l3, l4], q.1.toList ++ [], q.2)) := q_callV (n := 2) (as := [vI a0, vI a1]) (rest := []) dX9_doubleOn_65 rfl rfl rfl rfl kd593
theorem eX9_doubleOn_68 {l0 l1 l2 l3 l4 : Option VV} {S : MM} : rn xX9_doubleOn (68, [l0, l1, l2, l3, l4], [], S) = some (none, S) := q_retV dX9_doubleOn_68 rfl
noncomputable def qlX9_looksOf : List CE := [(0, 93, 9, 2, fX9_layKeys), (0, 57, 9, 2, fX9_stands), (0, 97, 9, 2, fX9_walkOn), (0, 100, 9, 2, fX9_doubleOn), (0, 89, 9, 3, fX9_halve)]
noncomputable def xX9_looksOf : XX := (cX9_looksOf, fcF fcl9, mcF qlX9_looksOf, 1)
noncomputable def fX9_looksOf : FN := fnX xX9_looksOf 3
set_option maxRecDepth 100000 in
theorem cwX9_looksOf : Cond.code yX9_looksOf cX9_looksOf 3 (some .int) ∈ lw_g := lw_gm 1010 (by decide +kernel) (by decide +kernel)
set_option maxRecDepth 100000 in
theorem conX9_looksOf : Con yX9_looksOf cX9_looksOf 3 (some .int) { frames := 3, cells := 0, slots := 0, locals := 70 } fX9_looksOf := con_of (X := xX9_looksOf) (own := "LeapStonesModel") (ql := qlX9_looksOf) (by decide) rfl FOK9 rfl (List.forall_mem_cons.mpr ⟨call_V conX9_layKeys cwX9_layKeys (lw_gl _ [1011, 1013, 35, 84] (by decide +kernel) (by decide +kernel)) (by decide) rfl ⟨by decide, by decide, by decide +kernel⟩ ⟨rfl, rfl⟩ ⟨by decide, by decide⟩ ⟨Nat.le_refl _, Nat.le_refl _⟩, List.forall_mem_cons.mpr ⟨call_V conX9_stands cwX9_stands (lw_gl _ [975, 977, 27, 84] (by decide +kernel) (by decide +kernel)) (by decide) rfl ⟨by decide, by decide, by decide +kernel⟩ ⟨rfl, rfl⟩ ⟨by decide, by decide⟩ ⟨Nat.le_refl _, Nat.le_refl _⟩, List.forall_mem_cons.mpr ⟨call_V conX9_walkOn cwX9_walkOn (lw_gl _ [1015, 1017, 36, 84] (by decide +kernel) (by decide +kernel)) (by decide) rfl ⟨by decide, by decide, by decide +kernel⟩ ⟨rfl, rfl⟩ ⟨by decide, by decide⟩ ⟨Nat.le_refl _, Nat.le_refl _⟩, List.forall_mem_cons.mpr ⟨call_V conX9_doubleOn cwX9_doubleOn (lw_gl _ [1023, 1025, 38, 84] (by decide +kernel) (by decide +kernel)) (by decide) rfl ⟨by decide, by decide, by decide +kernel⟩ ⟨rfl, rfl⟩ ⟨by decide, by decide⟩ ⟨Nat.le_refl _, Nat.le_refl _⟩, List.forall_mem_cons.mpr ⟨call_V conX9_halve cwX9_halve (lw_gl _ [1027, 1029, 39, 84] (by decide +kernel) (by decide +kernel)) (by decide) rfl ⟨by decide, by decide, by decide +kernel⟩ ⟨rfl, rfl⟩ ⟨by decide, by decide⟩ ⟨Nat.le_refl _, Nat.le_refl _⟩, fun _ h => absurd h List.not_mem_nil⟩⟩⟩⟩⟩) (Or.inr (Or.inl ⟨rfl, rfl⟩))
theorem uX9_looksOf {i : Nat} {a0 : Int} {S : MM} : fX9_looksOf [vR i, vI a0] S = rn xX9_looksOf (0, [some (vR i), some (vI a0), none], [], S) := rfl
theorem dX9_looksOf_0 : decode cX9_looksOf 0 = .ok (.aload_n 0, 1) := by decide +kernel
theorem dX9_looksOf_1 : decode cX9_looksOf 1 = .ok (.iload_n 1, 1) := by decide +kernel
theorem dX9_looksOf_2 : decode cX9_looksOf 2 = .ok (.invokevirtual 93, 3) := by decide +kernel
theorem dX9_looksOf_5 : decode cX9_looksOf 5 = .ok (.aload_n 0, 1) := by decide +kernel
theorem dX9_looksOf_6 : decode cX9_looksOf 6 = .ok (.iconst 0, 1) := by decide +kernel
theorem dX9_looksOf_7 : decode cX9_looksOf 7 = .ok (.putfield 82, 3) := by decide +kernel
theorem dX9_looksOf_10 : decode cX9_looksOf 10 = .ok (.iconst 0, 1) := by decide +kernel
theorem dX9_looksOf_11 : decode cX9_looksOf 11 = .ok (.istore_n 2, 1) := by decide +kernel
theorem dX9_looksOf_12 : decode cX9_looksOf 12 = .ok (.aload_n 0, 1) := by decide +kernel
theorem dX9_looksOf_13 : decode cX9_looksOf 13 = .ok (.getfield 26, 3) := by decide +kernel
theorem dX9_looksOf_16 : decode cX9_looksOf 16 = .ok (.iload_n 2, 1) := by decide +kernel
theorem dX9_looksOf_17 : decode cX9_looksOf 17 = .ok (.iaload, 1) := by decide +kernel
theorem dX9_looksOf_18 : decode cX9_looksOf 18 = .ok (.aload_n 0, 1) := by decide +kernel
theorem dX9_looksOf_19 : decode cX9_looksOf 19 = .ok (.iload_n 1, 1) := by decide +kernel
theorem dX9_looksOf_20 : decode cX9_looksOf 20 = .ok (.invokevirtual 57, 3) := by decide +kernel
theorem dX9_looksOf_23 : decode cX9_looksOf 23 = .ok (.if_icmp .eq 9, 3) := by decide +kernel
theorem dX9_looksOf_26 : decode cX9_looksOf 26 = .ok (.iinc 2 1, 3) := by decide +kernel
theorem dX9_looksOf_29 : decode cX9_looksOf 29 = .ok (.goto (-17), 3) := by decide +kernel
theorem dX9_looksOf_32 : decode cX9_looksOf 32 = .ok (.aload_n 0, 1) := by decide +kernel
theorem dX9_looksOf_33 : decode cX9_looksOf 33 = .ok (.getfield 7, 3) := by decide +kernel
theorem dX9_looksOf_36 : decode cX9_looksOf 36 = .ok (.iconst 2, 1) := by decide +kernel
theorem dX9_looksOf_37 : decode cX9_looksOf 37 = .ok (.iaload, 1) := by decide +kernel
theorem dX9_looksOf_38 : decode cX9_looksOf 38 = .ok (.ifCond .ne 11, 3) := by decide +kernel
theorem dX9_looksOf_41 : decode cX9_looksOf 41 = .ok (.aload_n 0, 1) := by decide +kernel
theorem dX9_looksOf_42 : decode cX9_looksOf 42 = .ok (.iload_n 2, 1) := by decide +kernel
theorem dX9_looksOf_43 : decode cX9_looksOf 43 = .ok (.invokevirtual 97, 3) := by decide +kernel
theorem dX9_looksOf_46 : decode cX9_looksOf 46 = .ok (.goto 30, 3) := by decide +kernel
theorem dX9_looksOf_49 : decode cX9_looksOf 49 = .ok (.aload_n 0, 1) := by decide +kernel
theorem dX9_looksOf_50 : decode cX9_looksOf 50 = .ok (.getfield 7, 3) := by decide +kernel
theorem dX9_looksOf_53 : decode cX9_looksOf 53 = .ok (.iconst 2, 1) := by decide +kernel
theorem dX9_looksOf_54 : decode cX9_looksOf 54 = .ok (.iaload, 1) := by decide +kernel
theorem dX9_looksOf_55 : decode cX9_looksOf 55 = .ok (.iconst 1, 1) := by decide +kernel
theorem dX9_looksOf_56 : decode cX9_looksOf 56 = .ok (.if_icmp .ne 11, 3) := by decide +kernel
theorem dX9_looksOf_59 : decode cX9_looksOf 59 = .ok (.aload_n 0, 1) := by decide +kernel
theorem dX9_looksOf_60 : decode cX9_looksOf 60 = .ok (.iload_n 2, 1) := by decide +kernel
theorem dX9_looksOf_61 : decode cX9_looksOf 61 = .ok (.invokevirtual 100, 3) := by decide +kernel
theorem dX9_looksOf_64 : decode cX9_looksOf 64 = .ok (.goto 12, 3) := by decide +kernel
theorem dX9_looksOf_67 : decode cX9_looksOf 67 = .ok (.aload_n 0, 1) := by decide +kernel
theorem dX9_looksOf_68 : decode cX9_looksOf 68 = .ok (.iload_n 2, 1) := by decide +kernel
theorem dX9_looksOf_69 : decode cX9_looksOf 69 = .ok (.aload_n 0, 1) := by decide +kernel
theorem dX9_looksOf_70 : decode cX9_looksOf 70 = .ok (.getfield 79, 3) := by decide +kernel
theorem dX9_looksOf_73 : decode cX9_looksOf 73 = .ok (.invokevirtual 89, 3) := by decide +kernel
theorem dX9_looksOf_76 : decode cX9_looksOf 76 = .ok (.aload_n 0, 1) := by decide +kernel
theorem dX9_looksOf_77 : decode cX9_looksOf 77 = .ok (.getfield 82, 3) := by decide +kernel
theorem dX9_looksOf_80 : decode cX9_looksOf 80 = .ok (.ireturn, 1) := by decide +kernel
theorem eX9_looksOf_0 {a : Option Nat} {l1 l2 : Option VV} {S : MM} : rn xX9_looksOf (0, [some (.inr (.inl a)), l1, l2], [], S) = rn xX9_looksOf (1, [some (.inr (.inl a)), l1, l2], [.inr (.inl a)], S) := rn_step dX9_looksOf_0 rfl rfl
theorem eX9_looksOf_1 {a : Int} {l0 l2 : Option VV} {v0 : VV} {S : MM} : rn xX9_looksOf (1, [l0, some (vI a), l2], [v0], S) = rn xX9_looksOf (2, [l0, some (vI a), l2], [vI a, v0], S) := rn_step dX9_looksOf_1 rfl rfl
theorem eX9_looksOf_2 {a0 : Int} {l0 l1 l2 : Option VV} {S : MM} : rn xX9_looksOf (2, [l0, l1, l2], [vI a0, vR 593], S) = (fX9_layKeys [vR 593, vI a0] S).bind (fun q => rn xX9_looksOf (5, [l0, l1, l2], q.1.toList ++ [], q.2)) := q_callV (n := 1) (as := [vI a0]) (rest := []) dX9_looksOf_2 rfl rfl rfl rfl kd593
theorem eX9_looksOf_5 {a : Option Nat} {l1 l2 : Option VV} {S : MM} : rn xX9_looksOf (5, [some (.inr (.inl a)), l1, l2], [], S) = rn xX9_looksOf (6, [some (.inr (.inl a)), l1, l2], [.inr (.inl a)], S) := rn_step dX9_looksOf_5 rfl rfl
theorem eX9_looksOf_6 {l0 l1 l2 : Option VV} {v0 : VV} {S : MM} : rn xX9_looksOf (6, [l0, l1, l2], [v0], S) = rn xX9_looksOf (7, [l0, l1, l2], [vI 0, v0], S) := rn_step dX9_looksOf_6 rfl rfl
theorem eX9_looksOf_7 {z : Int} {l0 l1 l2 : Option VV} {S : MM} : rn xX9_looksOf (7, [l0, l1, l2], [vI z, vR 593], S) = rn xX9_looksOf (10, [l0, l1, l2], [], updM S 593 9 z) := q_put dX9_looksOf_7 rfl ⟨by decide, by decide⟩ rfl kd593
theorem eX9_looksOf_10 {l0 l1 l2 : Option VV} {S : MM} : rn xX9_looksOf (10, [l0, l1, l2], [], S) = rn xX9_looksOf (11, [l0, l1, l2], [vI 0], S) := rn_step dX9_looksOf_10 rfl rfl
theorem eX9_looksOf_11 {a : Int} {w : Int} {l0 l2 : Option VV} {S : MM} : rn xX9_looksOf (11, [l0, some (vI w), l2], [vI a], S) = rn xX9_looksOf (12, [l0, some (vI w), some (vI a)], [], S) := rn_step dX9_looksOf_11 rfl rfl
theorem eX9_looksOf_12 {a : Option Nat} {l1 l2 : Option VV} {S : MM} : rn xX9_looksOf (12, [some (.inr (.inl a)), l1, l2], [], S) = rn xX9_looksOf (13, [some (.inr (.inl a)), l1, l2], [.inr (.inl a)], S) := rn_step dX9_looksOf_12 rfl rfl
theorem eX9_looksOf_13 {l0 l1 l2 : Option VV} {S : MM} : rn xX9_looksOf (13, [l0, l1, l2], [vR 593], S) = rn xX9_looksOf (16, [l0, l1, l2], [vR 599], S) := q_getR dX9_looksOf_13 rfl ⟨⟨by decide, by decide⟩, by decide⟩ (fun _ => by decide +kernel) kd593
theorem eX9_looksOf_16 {a : Int} {l0 l1 : Option VV} {v0 : VV} {S : MM} : rn xX9_looksOf (16, [l0, l1, some (vI a)], [v0], S) = rn xX9_looksOf (17, [l0, l1, some (vI a)], [vI a, v0], S) := rn_step dX9_looksOf_16 rfl rfl
theorem eX9_looksOf_17 {i : Nat} {j : Int} {l0 l1 l2 : Option VV} (h : kd i = 10) (h0 : 0 ≤ j) (h1 : j < alen i) {S : MM} : rn xX9_looksOf (17, [l0, l1, l2], [vI j, vR i], S) = rn xX9_looksOf (18, [l0, l1, l2], [vI (S i j.toNat)], S) := q_iald dX9_looksOf_17 h h0 h1
theorem eX9_looksOf_17x {j : Int} {l0 l1 l2 : Option VV} {S : MM} (h0 : 0 ≤ j) (h1 : j < S 604 0) : rn xX9_looksOf (17, [l0, l1, l2], [vI j, vR 602], S) = rn xX9_looksOf (18, [l0, l1, l2], [vI (S 602 j.toNat)], S) := q_ialdX dX9_looksOf_17 h0 h1
theorem eX9_looksOf_17y {j : Int} {l0 l1 l2 : Option VV} {S : MM} (h0 : 0 ≤ j) (h1 : j < S 604 1) : rn xX9_looksOf (17, [l0, l1, l2], [vI j, vR 603], S) = rn xX9_looksOf (18, [l0, l1, l2], [vI (S 603 j.toNat)], S) := q_ialdY dX9_looksOf_17 h0 h1
theorem eX9_looksOf_18 {a : Option Nat} {l1 l2 : Option VV} {v0 : VV} {S : MM} : rn xX9_looksOf (18, [some (.inr (.inl a)), l1, l2], [v0], S) = rn xX9_looksOf (19, [some (.inr (.inl a)), l1, l2], [.inr (.inl a), v0], S) := rn_step dX9_looksOf_18 rfl rfl
theorem eX9_looksOf_19 {a : Int} {l0 l2 : Option VV} {v0 v1 : VV} {S : MM} : rn xX9_looksOf (19, [l0, some (vI a), l2], [v0, v1], S) = rn xX9_looksOf (20, [l0, some (vI a), l2], [vI a, v0, v1], S) := rn_step dX9_looksOf_19 rfl rfl
theorem eX9_looksOf_20 {a0 : Int} {l0 l1 l2 : Option VV} {v2 : VV} {S : MM} : rn xX9_looksOf (20, [l0, l1, l2], [vI a0, vR 593, v2], S) = (fX9_stands [vR 593, vI a0] S).bind (fun q => rn xX9_looksOf (23, [l0, l1, l2], q.1.toList ++ [v2], q.2)) := q_callV (n := 1) (as := [vI a0]) (rest := [v2]) dX9_looksOf_20 rfl rfl rfl rfl kd593
theorem eX9_looksOf_23 {a b : Int} {l0 l1 l2 : Option VV} (h : -2147483648 ≤ a ∧ a ≤ 2147483647) (h1 : -2147483648 ≤ b ∧ b ≤ 2147483647) {S : MM} : rn xX9_looksOf (23, [l0, l1, l2], [vI b, vI a], S) = if a = b then rn xX9_looksOf (32, [l0, l1, l2], [], S) else rn xX9_looksOf (26, [l0, l1, l2], [], S) := q_icmp_eq dX9_looksOf_23 (by decide) rfl h h1
theorem eX9_looksOf_26 {a : Int} {w : Int} {l0 : Option VV} {S : MM} : rn xX9_looksOf (26, [l0, some (vI w), some (vI a)], [], S) = rn xX9_looksOf (29, [l0, some (vI w), some (vI (a + 1))], [], S) := rn_step dX9_looksOf_26 rfl rfl
theorem eX9_looksOf_29 {l0 l1 l2 : Option VV} {S : MM} : rn xX9_looksOf (29, [l0, l1, l2], [], S) = rn xX9_looksOf (12, [l0, l1, l2], [], S) := rn_step dX9_looksOf_29 rfl rfl
theorem eX9_looksOf_32 {a : Option Nat} {l1 l2 : Option VV} {S : MM} : rn xX9_looksOf (32, [some (.inr (.inl a)), l1, l2], [], S) = rn xX9_looksOf (33, [some (.inr (.inl a)), l1, l2], [.inr (.inl a)], S) := rn_step dX9_looksOf_32 rfl rfl
theorem eX9_looksOf_33 {l0 l1 l2 : Option VV} {S : MM} : rn xX9_looksOf (33, [l0, l1, l2], [vR 593], S) = rn xX9_looksOf (36, [l0, l1, l2], [vR 594], S) := q_getR dX9_looksOf_33 rfl ⟨⟨by decide, by decide⟩, by decide⟩ (fun _ => by decide +kernel) kd593
theorem eX9_looksOf_36 {l0 l1 l2 : Option VV} {v0 : VV} {S : MM} : rn xX9_looksOf (36, [l0, l1, l2], [v0], S) = rn xX9_looksOf (37, [l0, l1, l2], [vI 2, v0], S) := rn_step dX9_looksOf_36 rfl rfl
theorem eX9_looksOf_37 {i : Nat} {j : Int} {l0 l1 l2 : Option VV} (h : kd i = 10) (h0 : 0 ≤ j) (h1 : j < alen i) {S : MM} : rn xX9_looksOf (37, [l0, l1, l2], [vI j, vR i], S) = rn xX9_looksOf (38, [l0, l1, l2], [vI (S i j.toNat)], S) := q_iald dX9_looksOf_37 h h0 h1
theorem eX9_looksOf_37x {j : Int} {l0 l1 l2 : Option VV} {S : MM} (h0 : 0 ≤ j) (h1 : j < S 604 0) : rn xX9_looksOf (37, [l0, l1, l2], [vI j, vR 602], S) = rn xX9_looksOf (38, [l0, l1, l2], [vI (S 602 j.toNat)], S) := q_ialdX dX9_looksOf_37 h0 h1
theorem eX9_looksOf_37y {j : Int} {l0 l1 l2 : Option VV} {S : MM} (h0 : 0 ≤ j) (h1 : j < S 604 1) : rn xX9_looksOf (37, [l0, l1, l2], [vI j, vR 603], S) = rn xX9_looksOf (38, [l0, l1, l2], [vI (S 603 j.toNat)], S) := q_ialdY dX9_looksOf_37 h0 h1
theorem eX9_looksOf_38 {a : Int} {l0 l1 l2 : Option VV} (h : -2147483648 ≤ a ∧ a ≤ 2147483647) {S : MM} : rn xX9_looksOf (38, [l0, l1, l2], [vI a], S) = if a = 0 then rn xX9_looksOf (41, [l0, l1, l2], [], S) else rn xX9_looksOf (49, [l0, l1, l2], [], S) := q_if_ne dX9_looksOf_38 (by decide) rfl h
theorem eX9_looksOf_41 {a : Option Nat} {l1 l2 : Option VV} {S : MM} : rn xX9_looksOf (41, [some (.inr (.inl a)), l1, l2], [], S) = rn xX9_looksOf (42, [some (.inr (.inl a)), l1, l2], [.inr (.inl a)], S) := rn_step dX9_looksOf_41 rfl rfl
theorem eX9_looksOf_42 {a : Int} {l0 l1 : Option VV} {v0 : VV} {S : MM} : rn xX9_looksOf (42, [l0, l1, some (vI a)], [v0], S) = rn xX9_looksOf (43, [l0, l1, some (vI a)], [vI a, v0], S) := rn_step dX9_looksOf_42 rfl rfl
theorem eX9_looksOf_43 {a0 : Int} {l0 l1 l2 : Option VV} {S : MM} : rn xX9_looksOf (43, [l0, l1, l2], [vI a0, vR 593], S) = (fX9_walkOn [vR 593, vI a0] S).bind (fun q => rn xX9_looksOf (46, [l0, l1, l2], q.1.toList ++ [], q.2)) := q_callV (n := 1) (as := [vI a0]) (rest := []) dX9_looksOf_43 rfl rfl rfl rfl kd593
theorem eX9_looksOf_46 {l0 l1 l2 : Option VV} {S : MM} : rn xX9_looksOf (46, [l0, l1, l2], [], S) = rn xX9_looksOf (76, [l0, l1, l2], [], S) := rn_step dX9_looksOf_46 rfl rfl
theorem eX9_looksOf_49 {a : Option Nat} {l1 l2 : Option VV} {S : MM} : rn xX9_looksOf (49, [some (.inr (.inl a)), l1, l2], [], S) = rn xX9_looksOf (50, [some (.inr (.inl a)), l1, l2], [.inr (.inl a)], S) := rn_step dX9_looksOf_49 rfl rfl
theorem eX9_looksOf_50 {l0 l1 l2 : Option VV} {S : MM} : rn xX9_looksOf (50, [l0, l1, l2], [vR 593], S) = rn xX9_looksOf (53, [l0, l1, l2], [vR 594], S) := q_getR dX9_looksOf_50 rfl ⟨⟨by decide, by decide⟩, by decide⟩ (fun _ => by decide +kernel) kd593
theorem eX9_looksOf_53 {l0 l1 l2 : Option VV} {v0 : VV} {S : MM} : rn xX9_looksOf (53, [l0, l1, l2], [v0], S) = rn xX9_looksOf (54, [l0, l1, l2], [vI 2, v0], S) := rn_step dX9_looksOf_53 rfl rfl
theorem eX9_looksOf_54 {i : Nat} {j : Int} {l0 l1 l2 : Option VV} (h : kd i = 10) (h0 : 0 ≤ j) (h1 : j < alen i) {S : MM} : rn xX9_looksOf (54, [l0, l1, l2], [vI j, vR i], S) = rn xX9_looksOf (55, [l0, l1, l2], [vI (S i j.toNat)], S) := q_iald dX9_looksOf_54 h h0 h1
theorem eX9_looksOf_54x {j : Int} {l0 l1 l2 : Option VV} {S : MM} (h0 : 0 ≤ j) (h1 : j < S 604 0) : rn xX9_looksOf (54, [l0, l1, l2], [vI j, vR 602], S) = rn xX9_looksOf (55, [l0, l1, l2], [vI (S 602 j.toNat)], S) := q_ialdX dX9_looksOf_54 h0 h1
theorem eX9_looksOf_54y {j : Int} {l0 l1 l2 : Option VV} {S : MM} (h0 : 0 ≤ j) (h1 : j < S 604 1) : rn xX9_looksOf (54, [l0, l1, l2], [vI j, vR 603], S) = rn xX9_looksOf (55, [l0, l1, l2], [vI (S 603 j.toNat)], S) := q_ialdY dX9_looksOf_54 h0 h1
theorem eX9_looksOf_55 {l0 l1 l2 : Option VV} {v0 : VV} {S : MM} : rn xX9_looksOf (55, [l0, l1, l2], [v0], S) = rn xX9_looksOf (56, [l0, l1, l2], [vI 1, v0], S) := rn_step dX9_looksOf_55 rfl rfl
theorem eX9_looksOf_56 {a b : Int} {l0 l1 l2 : Option VV} (h : -2147483648 ≤ a ∧ a ≤ 2147483647) (h1 : -2147483648 ≤ b ∧ b ≤ 2147483647) {S : MM} : rn xX9_looksOf (56, [l0, l1, l2], [vI b, vI a], S) = if a = b then rn xX9_looksOf (59, [l0, l1, l2], [], S) else rn xX9_looksOf (67, [l0, l1, l2], [], S) := q_icmp_ne dX9_looksOf_56 (by decide) rfl h h1
theorem eX9_looksOf_59 {a : Option Nat} {l1 l2 : Option VV} {S : MM} : rn xX9_looksOf (59, [some (.inr (.inl a)), l1, l2], [], S) = rn xX9_looksOf (60, [some (.inr (.inl a)), l1, l2], [.inr (.inl a)], S) := rn_step dX9_looksOf_59 rfl rfl
theorem eX9_looksOf_60 {a : Int} {l0 l1 : Option VV} {v0 : VV} {S : MM} : rn xX9_looksOf (60, [l0, l1, some (vI a)], [v0], S) = rn xX9_looksOf (61, [l0, l1, some (vI a)], [vI a, v0], S) := rn_step dX9_looksOf_60 rfl rfl
theorem eX9_looksOf_61 {a0 : Int} {l0 l1 l2 : Option VV} {S : MM} : rn xX9_looksOf (61, [l0, l1, l2], [vI a0, vR 593], S) = (fX9_doubleOn [vR 593, vI a0] S).bind (fun q => rn xX9_looksOf (64, [l0, l1, l2], q.1.toList ++ [], q.2)) := q_callV (n := 1) (as := [vI a0]) (rest := []) dX9_looksOf_61 rfl rfl rfl rfl kd593
theorem eX9_looksOf_64 {l0 l1 l2 : Option VV} {S : MM} : rn xX9_looksOf (64, [l0, l1, l2], [], S) = rn xX9_looksOf (76, [l0, l1, l2], [], S) := rn_step dX9_looksOf_64 rfl rfl
theorem eX9_looksOf_67 {a : Option Nat} {l1 l2 : Option VV} {S : MM} : rn xX9_looksOf (67, [some (.inr (.inl a)), l1, l2], [], S) = rn xX9_looksOf (68, [some (.inr (.inl a)), l1, l2], [.inr (.inl a)], S) := rn_step dX9_looksOf_67 rfl rfl
theorem eX9_looksOf_68 {a : Int} {l0 l1 : Option VV} {v0 : VV} {S : MM} : rn xX9_looksOf (68, [l0, l1, some (vI a)], [v0], S) = rn xX9_looksOf (69, [l0, l1, some (vI a)], [vI a, v0], S) := rn_step dX9_looksOf_68 rfl rfl
theorem eX9_looksOf_69 {a : Option Nat} {l1 l2 : Option VV} {v0 v1 : VV} {S : MM} : rn xX9_looksOf (69, [some (.inr (.inl a)), l1, l2], [v0, v1], S) = rn xX9_looksOf (70, [some (.inr (.inl a)), l1, l2], [.inr (.inl a), v0, v1], S) := rn_step dX9_looksOf_69 rfl rfl
theorem eX9_looksOf_70 {l0 l1 l2 : Option VV} {v1 v2 : VV} {S : MM} : rn xX9_looksOf (70, [l0, l1, l2], [vR 593, v1, v2], S) = rn xX9_looksOf (73, [l0, l1, l2], [vI (S 593 8), v1, v2], S) := q_getI dX9_looksOf_70 rfl ⟨⟨by decide, by decide⟩, by decide⟩ kd593
theorem eX9_looksOf_73 {a0 : Int} {a1 : Int} {l0 l1 l2 : Option VV} {S : MM} : rn xX9_looksOf (73, [l0, l1, l2], [vI a1, vI a0, vR 593], S) = (fX9_halve [vR 593, vI a0, vI a1] S).bind (fun q => rn xX9_looksOf (76, [l0, l1, l2], q.1.toList ++ [], q.2)) := q_callV (n := 2) (as := [vI a0, vI a1]) (rest := []) dX9_looksOf_73 rfl rfl rfl rfl kd593
theorem eX9_looksOf_76 {a : Option Nat} {l1 l2 : Option VV} {S : MM} : rn xX9_looksOf (76, [some (.inr (.inl a)), l1, l2], [], S) = rn xX9_looksOf (77, [some (.inr (.inl a)), l1, l2], [.inr (.inl a)], S) := rn_step dX9_looksOf_76 rfl rfl
theorem eX9_looksOf_77 {l0 l1 l2 : Option VV} {S : MM} : rn xX9_looksOf (77, [l0, l1, l2], [vR 593], S) = rn xX9_looksOf (80, [l0, l1, l2], [vI (S 593 9)], S) := q_getI dX9_looksOf_77 rfl ⟨⟨by decide, by decide⟩, by decide⟩ kd593
theorem eX9_looksOf_80 {z : Int} {l0 l1 l2 : Option VV} {S : MM} : rn xX9_looksOf (80, [l0, l1, l2], [vI z], S) = some (some (vI z), S) := q_retI dX9_looksOf_80 rfl

noncomputable def qlX9_takeDigit : List CE := [(0, 208, 9, 1, fX9_next), (1, 35, 0, 3, fX9_in)]
noncomputable def xX9_takeDigit : XX := (cX9_takeDigit, fcF fcl9, mcF qlX9_takeDigit, 1)
noncomputable def fX9_takeDigit : FN := fnX xX9_takeDigit 3
set_option maxRecDepth 100000 in
theorem cwX9_takeDigit : Cond.code yX9_takeDigit cX9_takeDigit 3 (some .int) ∈ lw_g := lw_gm 1215 (by decide +kernel) (by decide +kernel)
set_option maxRecDepth 100000 in
theorem conX9_takeDigit : Con yX9_takeDigit cX9_takeDigit 3 (some .int) { frames := 1, cells := 0, slots := 0, locals := 22 } fX9_takeDigit := con_of (X := xX9_takeDigit) (own := "LeapStonesModel") (ql := qlX9_takeDigit) (by decide) rfl FOK9 rfl (List.forall_mem_cons.mpr ⟨call_V conX9_next cwX9_next (lw_gl _ [1200, 1202, 62, 84] (by decide +kernel) (by decide +kernel)) (by decide) rfl ⟨by decide, by decide, by decide +kernel⟩ ⟨rfl, rfl⟩ ⟨by decide, by decide⟩ ⟨Nat.le_refl _, Nat.le_refl _⟩, List.forall_mem_cons.mpr ⟨call_S conX9_in cwX9_in (lw_gl _ [1043, 1044, 84] (by decide +kernel) (by decide +kernel)) ⟨by decide, by decide, by decide +kernel⟩ ⟨rfl, rfl⟩ ⟨by decide, by decide⟩ ⟨Nat.le_refl _, Nat.le_refl _⟩, fun _ h => absurd h List.not_mem_nil⟩⟩) (Or.inr (Or.inl ⟨rfl, rfl⟩))
theorem uX9_takeDigit {i : Nat} {a0 : Int} {a1 : Int} {S : MM} : fX9_takeDigit [vR i, vI a0, vI a1] S = rn xX9_takeDigit (0, [some (vR i), some (vI a0), some (vI a1)], [], S) := rfl
theorem dX9_takeDigit_0 : decode cX9_takeDigit 0 = .ok (.aload_n 0, 1) := by decide +kernel
theorem dX9_takeDigit_1 : decode cX9_takeDigit 1 = .ok (.aload_n 0, 1) := by decide +kernel
theorem dX9_takeDigit_2 : decode cX9_takeDigit 2 = .ok (.getfield 204, 3) := by decide +kernel
theorem dX9_takeDigit_5 : decode cX9_takeDigit 5 = .ok (.ifCond .ne 15, 3) := by decide +kernel
theorem dX9_takeDigit_8 : decode cX9_takeDigit 8 = .ok (.aload_n 0, 1) := by decide +kernel
theorem dX9_takeDigit_9 : decode cX9_takeDigit 9 = .ok (.invokevirtual 208, 3) := by decide +kernel
theorem dX9_takeDigit_12 : decode cX9_takeDigit 12 = .ok (.iload_n 1, 1) := by decide +kernel
theorem dX9_takeDigit_13 : decode cX9_takeDigit 13 = .ok (.iload_n 2, 1) := by decide +kernel
theorem dX9_takeDigit_14 : decode cX9_takeDigit 14 = .ok (.invokestatic 35, 3) := by decide +kernel
theorem dX9_takeDigit_17 : decode cX9_takeDigit 17 = .ok (.ifCond .ne 7, 3) := by decide +kernel
theorem dX9_takeDigit_20 : decode cX9_takeDigit 20 = .ok (.iconst 1, 1) := by decide +kernel
theorem dX9_takeDigit_21 : decode cX9_takeDigit 21 = .ok (.goto 4, 3) := by decide +kernel
theorem dX9_takeDigit_24 : decode cX9_takeDigit 24 = .ok (.iconst 0, 1) := by decide +kernel
theorem dX9_takeDigit_25 : decode cX9_takeDigit 25 = .ok (.putfield 204, 3) := by decide +kernel
theorem dX9_takeDigit_28 : decode cX9_takeDigit 28 = .ok (.aload_n 0, 1) := by decide +kernel
theorem dX9_takeDigit_29 : decode cX9_takeDigit 29 = .ok (.getfield 204, 3) := by decide +kernel
theorem dX9_takeDigit_32 : decode cX9_takeDigit 32 = .ok (.ifCond .eq 5, 3) := by decide +kernel
theorem dX9_takeDigit_35 : decode cX9_takeDigit 35 = .ok (.iconst 0, 1) := by decide +kernel
theorem dX9_takeDigit_36 : decode cX9_takeDigit 36 = .ok (.ireturn, 1) := by decide +kernel
theorem dX9_takeDigit_37 : decode cX9_takeDigit 37 = .ok (.aload_n 0, 1) := by decide +kernel
theorem dX9_takeDigit_38 : decode cX9_takeDigit 38 = .ok (.dup, 1) := by decide +kernel
theorem dX9_takeDigit_39 : decode cX9_takeDigit 39 = .ok (.getfield 201, 3) := by decide +kernel
theorem dX9_takeDigit_42 : decode cX9_takeDigit 42 = .ok (.iconst 1, 1) := by decide +kernel
theorem dX9_takeDigit_43 : decode cX9_takeDigit 43 = .ok (.iadd, 1) := by decide +kernel
theorem dX9_takeDigit_44 : decode cX9_takeDigit 44 = .ok (.putfield 201, 3) := by decide +kernel
theorem dX9_takeDigit_47 : decode cX9_takeDigit 47 = .ok (.aload_n 0, 1) := by decide +kernel
theorem dX9_takeDigit_48 : decode cX9_takeDigit 48 = .ok (.getfield 29, 3) := by decide +kernel
theorem dX9_takeDigit_51 : decode cX9_takeDigit 51 = .ok (.aload_n 0, 1) := by decide +kernel
theorem dX9_takeDigit_52 : decode cX9_takeDigit 52 = .ok (.getfield 201, 3) := by decide +kernel
theorem dX9_takeDigit_55 : decode cX9_takeDigit 55 = .ok (.iconst 1, 1) := by decide +kernel
theorem dX9_takeDigit_56 : decode cX9_takeDigit 56 = .ok (.isub, 1) := by decide +kernel
theorem dX9_takeDigit_57 : decode cX9_takeDigit 57 = .ok (.iaload, 1) := by decide +kernel
theorem dX9_takeDigit_58 : decode cX9_takeDigit 58 = .ok (.bipush 48, 2) := by decide +kernel
theorem dX9_takeDigit_60 : decode cX9_takeDigit 60 = .ok (.isub, 1) := by decide +kernel
theorem dX9_takeDigit_61 : decode cX9_takeDigit 61 = .ok (.ireturn, 1) := by decide +kernel
theorem eX9_takeDigit_0 {a : Option Nat} {l1 l2 : Option VV} {S : MM} : rn xX9_takeDigit (0, [some (.inr (.inl a)), l1, l2], [], S) = rn xX9_takeDigit (1, [some (.inr (.inl a)), l1, l2], [.inr (.inl a)], S) := rn_step dX9_takeDigit_0 rfl rfl
theorem eX9_takeDigit_1 {a : Option Nat} {l1 l2 : Option VV} {v0 : VV} {S : MM} : rn xX9_takeDigit (1, [some (.inr (.inl a)), l1, l2], [v0], S) = rn xX9_takeDigit (2, [some (.inr (.inl a)), l1, l2], [.inr (.inl a), v0], S) := rn_step dX9_takeDigit_1 rfl rfl
theorem eX9_takeDigit_2 {l0 l1 l2 : Option VV} {v1 : VV} {S : MM} : rn xX9_takeDigit (2, [l0, l1, l2], [vR 593, v1], S) = rn xX9_takeDigit (5, [l0, l1, l2], [vI (S 593 13), v1], S) := q_getI dX9_takeDigit_2 rfl ⟨⟨by decide, by decide⟩, by decide⟩ kd593
theorem eX9_takeDigit_5 {a : Int} {l0 l1 l2 : Option VV} {v1 : VV} (h : -2147483648 ≤ a ∧ a ≤ 2147483647) {S : MM} : rn xX9_takeDigit (5, [l0, l1, l2], [vI a, v1], S) = if a = 0 then rn xX9_takeDigit (8, [l0, l1, l2], [v1], S) else rn xX9_takeDigit (20, [l0, l1, l2], [v1], S) := q_if_ne dX9_takeDigit_5 (by decide) rfl h
theorem eX9_takeDigit_8 {a : Option Nat} {l1 l2 : Option VV} {v0 : VV} {S : MM} : rn xX9_takeDigit (8, [some (.inr (.inl a)), l1, l2], [v0], S) = rn xX9_takeDigit (9, [some (.inr (.inl a)), l1, l2], [.inr (.inl a), v0], S) := rn_step dX9_takeDigit_8 rfl rfl
theorem eX9_takeDigit_9 {l0 l1 l2 : Option VV} {v1 : VV} {S : MM} : rn xX9_takeDigit (9, [l0, l1, l2], [vR 593, v1], S) = (fX9_next [vR 593] S).bind (fun q => rn xX9_takeDigit (12, [l0, l1, l2], q.1.toList ++ [v1], q.2)) := q_callV (n := 0) (as := []) (rest := [v1]) dX9_takeDigit_9 rfl rfl rfl rfl kd593
theorem eX9_takeDigit_12 {a : Int} {l0 l2 : Option VV} {v0 v1 : VV} {S : MM} : rn xX9_takeDigit (12, [l0, some (vI a), l2], [v0, v1], S) = rn xX9_takeDigit (13, [l0, some (vI a), l2], [vI a, v0, v1], S) := rn_step dX9_takeDigit_12 rfl rfl
theorem eX9_takeDigit_13 {a : Int} {l0 l1 : Option VV} {v0 v1 v2 : VV} {S : MM} : rn xX9_takeDigit (13, [l0, l1, some (vI a)], [v0, v1, v2], S) = rn xX9_takeDigit (14, [l0, l1, some (vI a)], [vI a, v0, v1, v2], S) := rn_step dX9_takeDigit_13 rfl rfl
theorem eX9_takeDigit_14 {a0 : Int} {a1 : Int} {a2 : Int} {l0 l1 l2 : Option VV} {v3 : VV} {S : MM} : rn xX9_takeDigit (14, [l0, l1, l2], [vI a2, vI a1, vI a0, v3], S) = (fX9_in [vI a0, vI a1, vI a2] S).bind (fun q => rn xX9_takeDigit (17, [l0, l1, l2], q.1.toList ++ [v3], q.2)) := q_callS (n := 3) (as := [vI a0, vI a1, vI a2]) (rest := [v3]) dX9_takeDigit_14 rfl rfl rfl rfl
theorem eX9_takeDigit_17 {a : Int} {l0 l1 l2 : Option VV} {v1 : VV} (h : -2147483648 ≤ a ∧ a ≤ 2147483647) {S : MM} : rn xX9_takeDigit (17, [l0, l1, l2], [vI a, v1], S) = if a = 0 then rn xX9_takeDigit (20, [l0, l1, l2], [v1], S) else rn xX9_takeDigit (24, [l0, l1, l2], [v1], S) := q_if_ne dX9_takeDigit_17 (by decide) rfl h
theorem eX9_takeDigit_20 {l0 l1 l2 : Option VV} {v0 : VV} {S : MM} : rn xX9_takeDigit (20, [l0, l1, l2], [v0], S) = rn xX9_takeDigit (21, [l0, l1, l2], [vI 1, v0], S) := rn_step dX9_takeDigit_20 rfl rfl
theorem eX9_takeDigit_21 {l0 l1 l2 : Option VV} {v0 v1 : VV} {S : MM} : rn xX9_takeDigit (21, [l0, l1, l2], [v0, v1], S) = rn xX9_takeDigit (25, [l0, l1, l2], [v0, v1], S) := rn_step dX9_takeDigit_21 rfl rfl
theorem eX9_takeDigit_24 {l0 l1 l2 : Option VV} {v0 : VV} {S : MM} : rn xX9_takeDigit (24, [l0, l1, l2], [v0], S) = rn xX9_takeDigit (25, [l0, l1, l2], [vI 0, v0], S) := rn_step dX9_takeDigit_24 rfl rfl
theorem eX9_takeDigit_25 {z : Int} {l0 l1 l2 : Option VV} (hz : z = 0 ∨ z = 1) {S : MM} : rn xX9_takeDigit (25, [l0, l1, l2], [vI z, vR 593], S) = rn xX9_takeDigit (28, [l0, l1, l2], [], updM S 593 13 z) := q_put dX9_takeDigit_25 rfl ⟨by decide, by decide⟩ (fit1 hz) kd593
theorem eX9_takeDigit_28 {a : Option Nat} {l1 l2 : Option VV} {S : MM} : rn xX9_takeDigit (28, [some (.inr (.inl a)), l1, l2], [], S) = rn xX9_takeDigit (29, [some (.inr (.inl a)), l1, l2], [.inr (.inl a)], S) := rn_step dX9_takeDigit_28 rfl rfl
theorem eX9_takeDigit_29 {l0 l1 l2 : Option VV} {S : MM} : rn xX9_takeDigit (29, [l0, l1, l2], [vR 593], S) = rn xX9_takeDigit (32, [l0, l1, l2], [vI (S 593 13)], S) := q_getI dX9_takeDigit_29 rfl ⟨⟨by decide, by decide⟩, by decide⟩ kd593
theorem eX9_takeDigit_32 {a : Int} {l0 l1 l2 : Option VV} (h : -2147483648 ≤ a ∧ a ≤ 2147483647) {S : MM} : rn xX9_takeDigit (32, [l0, l1, l2], [vI a], S) = if a = 0 then rn xX9_takeDigit (37, [l0, l1, l2], [], S) else rn xX9_takeDigit (35, [l0, l1, l2], [], S) := q_if_eq dX9_takeDigit_32 (by decide) rfl h
theorem eX9_takeDigit_35 {l0 l1 l2 : Option VV} {S : MM} : rn xX9_takeDigit (35, [l0, l1, l2], [], S) = rn xX9_takeDigit (36, [l0, l1, l2], [vI 0], S) := rn_step dX9_takeDigit_35 rfl rfl
theorem eX9_takeDigit_36 {z : Int} {l0 l1 l2 : Option VV} {S : MM} : rn xX9_takeDigit (36, [l0, l1, l2], [vI z], S) = some (some (vI z), S) := q_retI dX9_takeDigit_36 rfl
theorem eX9_takeDigit_37 {a : Option Nat} {l1 l2 : Option VV} {S : MM} : rn xX9_takeDigit (37, [some (.inr (.inl a)), l1, l2], [], S) = rn xX9_takeDigit (38, [some (.inr (.inl a)), l1, l2], [.inr (.inl a)], S) := rn_step dX9_takeDigit_37 rfl rfl
theorem eX9_takeDigit_38 {a : Option Nat} {l0 l1 l2 : Option VV} {S : MM} : rn xX9_takeDigit (38, [l0, l1, l2], [.inr (.inl a)], S) = rn xX9_takeDigit (39, [l0, l1, l2], [.inr (.inl a), .inr (.inl a)], S) := rn_step dX9_takeDigit_38 rfl rfl
theorem eX9_takeDigit_39 {l0 l1 l2 : Option VV} {v1 : VV} {S : MM} : rn xX9_takeDigit (39, [l0, l1, l2], [vR 593, v1], S) = rn xX9_takeDigit (42, [l0, l1, l2], [vI (S 593 12), v1], S) := q_getI dX9_takeDigit_39 rfl ⟨⟨by decide, by decide⟩, by decide⟩ kd593
theorem eX9_takeDigit_42 {l0 l1 l2 : Option VV} {v0 v1 : VV} {S : MM} : rn xX9_takeDigit (42, [l0, l1, l2], [v0, v1], S) = rn xX9_takeDigit (43, [l0, l1, l2], [vI 1, v0, v1], S) := rn_step dX9_takeDigit_42 rfl rfl
theorem eX9_takeDigit_43 {a b : Int} {l0 l1 l2 : Option VV} {v2 : VV} {S : MM} : rn xX9_takeDigit (43, [l0, l1, l2], [vI b, vI a, v2], S) = rn xX9_takeDigit (44, [l0, l1, l2], [vI (a + b), v2], S) := rn_step dX9_takeDigit_43 rfl rfl
theorem eX9_takeDigit_44 {z : Int} {l0 l1 l2 : Option VV} {S : MM} : rn xX9_takeDigit (44, [l0, l1, l2], [vI z, vR 593], S) = rn xX9_takeDigit (47, [l0, l1, l2], [], updM S 593 12 z) := q_put dX9_takeDigit_44 rfl ⟨by decide, by decide⟩ rfl kd593
theorem eX9_takeDigit_47 {a : Option Nat} {l1 l2 : Option VV} {S : MM} : rn xX9_takeDigit (47, [some (.inr (.inl a)), l1, l2], [], S) = rn xX9_takeDigit (48, [some (.inr (.inl a)), l1, l2], [.inr (.inl a)], S) := rn_step dX9_takeDigit_47 rfl rfl
theorem eX9_takeDigit_48 {l0 l1 l2 : Option VV} {S : MM} : rn xX9_takeDigit (48, [l0, l1, l2], [vR 593], S) = rn xX9_takeDigit (51, [l0, l1, l2], [vR 600], S) := q_getR dX9_takeDigit_48 rfl ⟨⟨by decide, by decide⟩, by decide⟩ (fun _ => by decide +kernel) kd593
theorem eX9_takeDigit_51 {a : Option Nat} {l1 l2 : Option VV} {v0 : VV} {S : MM} : rn xX9_takeDigit (51, [some (.inr (.inl a)), l1, l2], [v0], S) = rn xX9_takeDigit (52, [some (.inr (.inl a)), l1, l2], [.inr (.inl a), v0], S) := rn_step dX9_takeDigit_51 rfl rfl
theorem eX9_takeDigit_52 {l0 l1 l2 : Option VV} {v1 : VV} {S : MM} : rn xX9_takeDigit (52, [l0, l1, l2], [vR 593, v1], S) = rn xX9_takeDigit (55, [l0, l1, l2], [vI (S 593 12), v1], S) := q_getI dX9_takeDigit_52 rfl ⟨⟨by decide, by decide⟩, by decide⟩ kd593
theorem eX9_takeDigit_55 {l0 l1 l2 : Option VV} {v0 v1 : VV} {S : MM} : rn xX9_takeDigit (55, [l0, l1, l2], [v0, v1], S) = rn xX9_takeDigit (56, [l0, l1, l2], [vI 1, v0, v1], S) := rn_step dX9_takeDigit_55 rfl rfl
theorem eX9_takeDigit_56 {a b : Int} {l0 l1 l2 : Option VV} {v2 : VV} {S : MM} : rn xX9_takeDigit (56, [l0, l1, l2], [vI b, vI a, v2], S) = rn xX9_takeDigit (57, [l0, l1, l2], [vI (a - b), v2], S) := rn_step dX9_takeDigit_56 rfl rfl
theorem eX9_takeDigit_57 {i : Nat} {j : Int} {l0 l1 l2 : Option VV} (h : kd i = 10) (h0 : 0 ≤ j) (h1 : j < alen i) {S : MM} : rn xX9_takeDigit (57, [l0, l1, l2], [vI j, vR i], S) = rn xX9_takeDigit (58, [l0, l1, l2], [vI (S i j.toNat)], S) := q_iald dX9_takeDigit_57 h h0 h1
theorem eX9_takeDigit_57x {j : Int} {l0 l1 l2 : Option VV} {S : MM} (h0 : 0 ≤ j) (h1 : j < S 604 0) : rn xX9_takeDigit (57, [l0, l1, l2], [vI j, vR 602], S) = rn xX9_takeDigit (58, [l0, l1, l2], [vI (S 602 j.toNat)], S) := q_ialdX dX9_takeDigit_57 h0 h1
theorem eX9_takeDigit_57y {j : Int} {l0 l1 l2 : Option VV} {S : MM} (h0 : 0 ≤ j) (h1 : j < S 604 1) : rn xX9_takeDigit (57, [l0, l1, l2], [vI j, vR 603], S) = rn xX9_takeDigit (58, [l0, l1, l2], [vI (S 603 j.toNat)], S) := q_ialdY dX9_takeDigit_57 h0 h1
theorem eX9_takeDigit_58 {l0 l1 l2 : Option VV} {v0 : VV} {S : MM} : rn xX9_takeDigit (58, [l0, l1, l2], [v0], S) = rn xX9_takeDigit (60, [l0, l1, l2], [vI 48, v0], S) := rn_step dX9_takeDigit_58 rfl rfl
theorem eX9_takeDigit_60 {a b : Int} {l0 l1 l2 : Option VV} {S : MM} : rn xX9_takeDigit (60, [l0, l1, l2], [vI b, vI a], S) = rn xX9_takeDigit (61, [l0, l1, l2], [vI (a - b)], S) := rn_step dX9_takeDigit_60 rfl rfl
theorem eX9_takeDigit_61 {z : Int} {l0 l1 l2 : Option VV} {S : MM} : rn xX9_takeDigit (61, [l0, l1, l2], [vI z], S) = some (some (vI z), S) := q_retI dX9_takeDigit_61 rfl
noncomputable def qlX9_takeKey : List CE := [(0, 211, 9, 3, fX9_takeDigit), (0, 208, 9, 1, fX9_next), (1, 35, 0, 3, fX9_in)]
noncomputable def xX9_takeKey : XX := (cX9_takeKey, fcF fcl9, mcF qlX9_takeKey, 1)
noncomputable def fX9_takeKey : FN := fnX xX9_takeKey 3
set_option maxRecDepth 100000 in
theorem cwX9_takeKey : Cond.code yX9_takeKey cX9_takeKey 3 (some .int) ∈ lw_g := lw_gm 1223 (by decide +kernel) (by decide +kernel)
set_option maxRecDepth 100000 in
theorem conX9_takeKey : Con yX9_takeKey cX9_takeKey 3 (some .int) { frames := 2, cells := 0, slots := 0, locals := 44 } fX9_takeKey := con_of (X := xX9_takeKey) (own := "LeapStonesModel") (ql := qlX9_takeKey) (by decide) rfl FOK9 rfl (List.forall_mem_cons.mpr ⟨call_V conX9_takeDigit cwX9_takeDigit (lw_gl _ [1212, 1214, 65, 84] (by decide +kernel) (by decide +kernel)) (by decide) rfl ⟨by decide, by decide, by decide +kernel⟩ ⟨rfl, rfl⟩ ⟨by decide, by decide⟩ ⟨Nat.le_refl _, Nat.le_refl _⟩, List.forall_mem_cons.mpr ⟨call_V conX9_next cwX9_next (lw_gl _ [1200, 1202, 62, 84] (by decide +kernel) (by decide +kernel)) (by decide) rfl ⟨by decide, by decide, by decide +kernel⟩ ⟨rfl, rfl⟩ ⟨by decide, by decide⟩ ⟨Nat.le_refl _, Nat.le_refl _⟩, List.forall_mem_cons.mpr ⟨call_S conX9_in cwX9_in (lw_gl _ [1043, 1044, 84] (by decide +kernel) (by decide +kernel)) ⟨by decide, by decide, by decide +kernel⟩ ⟨rfl, rfl⟩ ⟨by decide, by decide⟩ ⟨Nat.le_refl _, Nat.le_refl _⟩, fun _ h => absurd h List.not_mem_nil⟩⟩⟩) (Or.inr (Or.inl ⟨rfl, rfl⟩))
theorem uX9_takeKey {i : Nat} {S : MM} : fX9_takeKey [vR i] S = rn xX9_takeKey (0, [some (vR i), none, none], [], S) := rfl
theorem dX9_takeKey_0 : decode cX9_takeKey 0 = .ok (.aload_n 0, 1) := by decide +kernel
theorem dX9_takeKey_1 : decode cX9_takeKey 1 = .ok (.bipush 48, 2) := by decide +kernel
theorem dX9_takeKey_3 : decode cX9_takeKey 3 = .ok (.bipush 57, 2) := by decide +kernel
theorem dX9_takeKey_5 : decode cX9_takeKey 5 = .ok (.invokevirtual 211, 3) := by decide +kernel
theorem dX9_takeKey_8 : decode cX9_takeKey 8 = .ok (.istore_n 1, 1) := by decide +kernel
theorem dX9_takeKey_9 : decode cX9_takeKey 9 = .ok (.aload_n 0, 1) := by decide +kernel
theorem dX9_takeKey_10 : decode cX9_takeKey 10 = .ok (.getfield 204, 3) := by decide +kernel
theorem dX9_takeKey_13 : decode cX9_takeKey 13 = .ok (.ifCond .ne 87, 3) := by decide +kernel
theorem dX9_takeKey_16 : decode cX9_takeKey 16 = .ok (.iload_n 1, 1) := by decide +kernel
theorem dX9_takeKey_17 : decode cX9_takeKey 17 = .ok (.ifCond .le 83, 3) := by decide +kernel
theorem dX9_takeKey_20 : decode cX9_takeKey 20 = .ok (.aload_n 0, 1) := by decide +kernel
theorem dX9_takeKey_21 : decode cX9_takeKey 21 = .ok (.invokevirtual 208, 3) := by decide +kernel
theorem dX9_takeKey_24 : decode cX9_takeKey 24 = .ok (.bipush 48, 2) := by decide +kernel
theorem dX9_takeKey_26 : decode cX9_takeKey 26 = .ok (.bipush 57, 2) := by decide +kernel
theorem dX9_takeKey_28 : decode cX9_takeKey 28 = .ok (.invokestatic 35, 3) := by decide +kernel
theorem dX9_takeKey_31 : decode cX9_takeKey 31 = .ok (.ifCond .eq 69, 3) := by decide +kernel
theorem dX9_takeKey_34 : decode cX9_takeKey 34 = .ok (.bipush 10, 2) := by decide +kernel
theorem dX9_takeKey_36 : decode cX9_takeKey 36 = .ok (.iload_n 1, 1) := by decide +kernel
theorem dX9_takeKey_37 : decode cX9_takeKey 37 = .ok (.imul, 1) := by decide +kernel
theorem dX9_takeKey_38 : decode cX9_takeKey 38 = .ok (.aload_n 0, 1) := by decide +kernel
theorem dX9_takeKey_39 : decode cX9_takeKey 39 = .ok (.invokevirtual 208, 3) := by decide +kernel
theorem dX9_takeKey_42 : decode cX9_takeKey 42 = .ok (.iadd, 1) := by decide +kernel
theorem dX9_takeKey_43 : decode cX9_takeKey 43 = .ok (.bipush 48, 2) := by decide +kernel
theorem dX9_takeKey_45 : decode cX9_takeKey 45 = .ok (.isub, 1) := by decide +kernel
theorem dX9_takeKey_46 : decode cX9_takeKey 46 = .ok (.istore_n 2, 1) := by decide +kernel
theorem dX9_takeKey_47 : decode cX9_takeKey 47 = .ok (.aload_n 0, 1) := by decide +kernel
theorem dX9_takeKey_48 : decode cX9_takeKey 48 = .ok (.iload_n 2, 1) := by decide +kernel
theorem dX9_takeKey_49 : decode cX9_takeKey 49 = .ok (.sipush 300, 3) := by decide +kernel
theorem dX9_takeKey_52 : decode cX9_takeKey 52 = .ok (.if_icmp .lt 7, 3) := by decide +kernel
theorem dX9_takeKey_55 : decode cX9_takeKey 55 = .ok (.iconst 1, 1) := by decide +kernel
theorem dX9_takeKey_56 : decode cX9_takeKey 56 = .ok (.goto 4, 3) := by decide +kernel
theorem dX9_takeKey_59 : decode cX9_takeKey 59 = .ok (.iconst 0, 1) := by decide +kernel
theorem dX9_takeKey_60 : decode cX9_takeKey 60 = .ok (.putfield 204, 3) := by decide +kernel
theorem dX9_takeKey_63 : decode cX9_takeKey 63 = .ok (.aload_n 0, 1) := by decide +kernel
theorem dX9_takeKey_64 : decode cX9_takeKey 64 = .ok (.getfield 204, 3) := by decide +kernel
theorem dX9_takeKey_67 : decode cX9_takeKey 67 = .ok (.ifCond .eq 7, 3) := by decide +kernel
theorem dX9_takeKey_70 : decode cX9_takeKey 70 = .ok (.iload_n 1, 1) := by decide +kernel
theorem dX9_takeKey_71 : decode cX9_takeKey 71 = .ok (.goto 4, 3) := by decide +kernel
theorem dX9_takeKey_74 : decode cX9_takeKey 74 = .ok (.iload_n 2, 1) := by decide +kernel
theorem dX9_takeKey_75 : decode cX9_takeKey 75 = .ok (.istore_n 1, 1) := by decide +kernel
theorem dX9_takeKey_76 : decode cX9_takeKey 76 = .ok (.aload_n 0, 1) := by decide +kernel
theorem dX9_takeKey_77 : decode cX9_takeKey 77 = .ok (.dup, 1) := by decide +kernel
theorem dX9_takeKey_78 : decode cX9_takeKey 78 = .ok (.getfield 201, 3) := by decide +kernel
theorem dX9_takeKey_81 : decode cX9_takeKey 81 = .ok (.aload_n 0, 1) := by decide +kernel
theorem dX9_takeKey_82 : decode cX9_takeKey 82 = .ok (.getfield 204, 3) := by decide +kernel
theorem dX9_takeKey_85 : decode cX9_takeKey 85 = .ok (.ifCond .eq 7, 3) := by decide +kernel
theorem dX9_takeKey_88 : decode cX9_takeKey 88 = .ok (.iconst 0, 1) := by decide +kernel
theorem dX9_takeKey_89 : decode cX9_takeKey 89 = .ok (.goto 4, 3) := by decide +kernel
theorem dX9_takeKey_92 : decode cX9_takeKey 92 = .ok (.iconst 1, 1) := by decide +kernel
theorem dX9_takeKey_93 : decode cX9_takeKey 93 = .ok (.iadd, 1) := by decide +kernel
theorem dX9_takeKey_94 : decode cX9_takeKey 94 = .ok (.putfield 201, 3) := by decide +kernel
theorem dX9_takeKey_97 : decode cX9_takeKey 97 = .ok (.goto (-88), 3) := by decide +kernel
theorem dX9_takeKey_100 : decode cX9_takeKey 100 = .ok (.iload_n 1, 1) := by decide +kernel
theorem dX9_takeKey_101 : decode cX9_takeKey 101 = .ok (.ireturn, 1) := by decide +kernel
theorem eX9_takeKey_0 {a : Option Nat} {l1 l2 : Option VV} {S : MM} : rn xX9_takeKey (0, [some (.inr (.inl a)), l1, l2], [], S) = rn xX9_takeKey (1, [some (.inr (.inl a)), l1, l2], [.inr (.inl a)], S) := rn_step dX9_takeKey_0 rfl rfl
theorem eX9_takeKey_1 {l0 l1 l2 : Option VV} {v0 : VV} {S : MM} : rn xX9_takeKey (1, [l0, l1, l2], [v0], S) = rn xX9_takeKey (3, [l0, l1, l2], [vI 48, v0], S) := rn_step dX9_takeKey_1 rfl rfl
theorem eX9_takeKey_3 {l0 l1 l2 : Option VV} {v0 v1 : VV} {S : MM} : rn xX9_takeKey (3, [l0, l1, l2], [v0, v1], S) = rn xX9_takeKey (5, [l0, l1, l2], [vI 57, v0, v1], S) := rn_step dX9_takeKey_3 rfl rfl
theorem eX9_takeKey_5 {a0 : Int} {a1 : Int} {l0 l1 l2 : Option VV} {S : MM} : rn xX9_takeKey (5, [l0, l1, l2], [vI a1, vI a0, vR 593], S) = (fX9_takeDigit [vR 593, vI a0, vI a1] S).bind (fun q => rn xX9_takeKey (8, [l0, l1, l2], q.1.toList ++ [], q.2)) := q_callV (n := 2) (as := [vI a0, vI a1]) (rest := []) dX9_takeKey_5 rfl rfl rfl rfl kd593
theorem eX9_takeKey_8 {a : Int} {w : Option Nat} {l1 l2 : Option VV} {S : MM} : rn xX9_takeKey (8, [some (.inr (.inl w)), l1, l2], [vI a], S) = rn xX9_takeKey (9, [some (.inr (.inl w)), some (vI a), l2], [], S) := rn_step dX9_takeKey_8 rfl rfl
theorem eX9_takeKey_9 {a : Option Nat} {l1 l2 : Option VV} {S : MM} : rn xX9_takeKey (9, [some (.inr (.inl a)), l1, l2], [], S) = rn xX9_takeKey (10, [some (.inr (.inl a)), l1, l2], [.inr (.inl a)], S) := rn_step dX9_takeKey_9 rfl rfl
theorem eX9_takeKey_10 {l0 l1 l2 : Option VV} {S : MM} : rn xX9_takeKey (10, [l0, l1, l2], [vR 593], S) = rn xX9_takeKey (13, [l0, l1, l2], [vI (S 593 13)], S) := q_getI dX9_takeKey_10 rfl ⟨⟨by decide, by decide⟩, by decide⟩ kd593
theorem eX9_takeKey_13 {a : Int} {l0 l1 l2 : Option VV} (h : -2147483648 ≤ a ∧ a ≤ 2147483647) {S : MM} : rn xX9_takeKey (13, [l0, l1, l2], [vI a], S) = if a = 0 then rn xX9_takeKey (16, [l0, l1, l2], [], S) else rn xX9_takeKey (100, [l0, l1, l2], [], S) := q_if_ne dX9_takeKey_13 (by decide) rfl h
theorem eX9_takeKey_16 {a : Int} {l0 l2 : Option VV} {S : MM} : rn xX9_takeKey (16, [l0, some (vI a), l2], [], S) = rn xX9_takeKey (17, [l0, some (vI a), l2], [vI a], S) := rn_step dX9_takeKey_16 rfl rfl
theorem eX9_takeKey_17 {a : Int} {l0 l1 l2 : Option VV} (h : -2147483648 ≤ a ∧ a ≤ 2147483647) {S : MM} : rn xX9_takeKey (17, [l0, l1, l2], [vI a], S) = if 0 < a then rn xX9_takeKey (20, [l0, l1, l2], [], S) else rn xX9_takeKey (100, [l0, l1, l2], [], S) := q_if_le dX9_takeKey_17 (by decide) rfl h
theorem eX9_takeKey_20 {a : Option Nat} {l1 l2 : Option VV} {S : MM} : rn xX9_takeKey (20, [some (.inr (.inl a)), l1, l2], [], S) = rn xX9_takeKey (21, [some (.inr (.inl a)), l1, l2], [.inr (.inl a)], S) := rn_step dX9_takeKey_20 rfl rfl
theorem eX9_takeKey_21 {l0 l1 l2 : Option VV} {S : MM} : rn xX9_takeKey (21, [l0, l1, l2], [vR 593], S) = (fX9_next [vR 593] S).bind (fun q => rn xX9_takeKey (24, [l0, l1, l2], q.1.toList ++ [], q.2)) := q_callV (n := 0) (as := []) (rest := []) dX9_takeKey_21 rfl rfl rfl rfl kd593
theorem eX9_takeKey_24 {l0 l1 l2 : Option VV} {v0 : VV} {S : MM} : rn xX9_takeKey (24, [l0, l1, l2], [v0], S) = rn xX9_takeKey (26, [l0, l1, l2], [vI 48, v0], S) := rn_step dX9_takeKey_24 rfl rfl
theorem eX9_takeKey_26 {l0 l1 l2 : Option VV} {v0 v1 : VV} {S : MM} : rn xX9_takeKey (26, [l0, l1, l2], [v0, v1], S) = rn xX9_takeKey (28, [l0, l1, l2], [vI 57, v0, v1], S) := rn_step dX9_takeKey_26 rfl rfl
theorem eX9_takeKey_28 {a0 : Int} {a1 : Int} {a2 : Int} {l0 l1 l2 : Option VV} {S : MM} : rn xX9_takeKey (28, [l0, l1, l2], [vI a2, vI a1, vI a0], S) = (fX9_in [vI a0, vI a1, vI a2] S).bind (fun q => rn xX9_takeKey (31, [l0, l1, l2], q.1.toList ++ [], q.2)) := q_callS (n := 3) (as := [vI a0, vI a1, vI a2]) (rest := []) dX9_takeKey_28 rfl rfl rfl rfl
theorem eX9_takeKey_31 {a : Int} {l0 l1 l2 : Option VV} (h : -2147483648 ≤ a ∧ a ≤ 2147483647) {S : MM} : rn xX9_takeKey (31, [l0, l1, l2], [vI a], S) = if a = 0 then rn xX9_takeKey (100, [l0, l1, l2], [], S) else rn xX9_takeKey (34, [l0, l1, l2], [], S) := q_if_eq dX9_takeKey_31 (by decide) rfl h
theorem eX9_takeKey_34 {l0 l1 l2 : Option VV} {S : MM} : rn xX9_takeKey (34, [l0, l1, l2], [], S) = rn xX9_takeKey (36, [l0, l1, l2], [vI 10], S) := rn_step dX9_takeKey_34 rfl rfl
theorem eX9_takeKey_36 {a : Int} {l0 l2 : Option VV} {v0 : VV} {S : MM} : rn xX9_takeKey (36, [l0, some (vI a), l2], [v0], S) = rn xX9_takeKey (37, [l0, some (vI a), l2], [vI a, v0], S) := rn_step dX9_takeKey_36 rfl rfl
theorem eX9_takeKey_37 {a b : Int} {l0 l1 l2 : Option VV} {S : MM} : rn xX9_takeKey (37, [l0, l1, l2], [vI b, vI a], S) = rn xX9_takeKey (38, [l0, l1, l2], [vI (a * b)], S) := rn_step dX9_takeKey_37 rfl rfl
theorem eX9_takeKey_38 {a : Option Nat} {l1 l2 : Option VV} {v0 : VV} {S : MM} : rn xX9_takeKey (38, [some (.inr (.inl a)), l1, l2], [v0], S) = rn xX9_takeKey (39, [some (.inr (.inl a)), l1, l2], [.inr (.inl a), v0], S) := rn_step dX9_takeKey_38 rfl rfl
theorem eX9_takeKey_39 {l0 l1 l2 : Option VV} {v1 : VV} {S : MM} : rn xX9_takeKey (39, [l0, l1, l2], [vR 593, v1], S) = (fX9_next [vR 593] S).bind (fun q => rn xX9_takeKey (42, [l0, l1, l2], q.1.toList ++ [v1], q.2)) := q_callV (n := 0) (as := []) (rest := [v1]) dX9_takeKey_39 rfl rfl rfl rfl kd593
theorem eX9_takeKey_42 {a b : Int} {l0 l1 l2 : Option VV} {S : MM} : rn xX9_takeKey (42, [l0, l1, l2], [vI b, vI a], S) = rn xX9_takeKey (43, [l0, l1, l2], [vI (a + b)], S) := rn_step dX9_takeKey_42 rfl rfl
theorem eX9_takeKey_43 {l0 l1 l2 : Option VV} {v0 : VV} {S : MM} : rn xX9_takeKey (43, [l0, l1, l2], [v0], S) = rn xX9_takeKey (45, [l0, l1, l2], [vI 48, v0], S) := rn_step dX9_takeKey_43 rfl rfl
theorem eX9_takeKey_45 {a b : Int} {l0 l1 l2 : Option VV} {S : MM} : rn xX9_takeKey (45, [l0, l1, l2], [vI b, vI a], S) = rn xX9_takeKey (46, [l0, l1, l2], [vI (a - b)], S) := rn_step dX9_takeKey_45 rfl rfl
theorem eX9_takeKey_46 {a : Int} {w : Int} {l0 l2 : Option VV} {S : MM} : rn xX9_takeKey (46, [l0, some (vI w), l2], [vI a], S) = rn xX9_takeKey (47, [l0, some (vI w), some (vI a)], [], S) := rn_step dX9_takeKey_46 rfl rfl
theorem eX9_takeKey_47 {a : Option Nat} {l1 l2 : Option VV} {S : MM} : rn xX9_takeKey (47, [some (.inr (.inl a)), l1, l2], [], S) = rn xX9_takeKey (48, [some (.inr (.inl a)), l1, l2], [.inr (.inl a)], S) := rn_step dX9_takeKey_47 rfl rfl
theorem eX9_takeKey_48 {a : Int} {l0 l1 : Option VV} {v0 : VV} {S : MM} : rn xX9_takeKey (48, [l0, l1, some (vI a)], [v0], S) = rn xX9_takeKey (49, [l0, l1, some (vI a)], [vI a, v0], S) := rn_step dX9_takeKey_48 rfl rfl
theorem eX9_takeKey_49 {l0 l1 l2 : Option VV} {v0 v1 : VV} {S : MM} : rn xX9_takeKey (49, [l0, l1, l2], [v0, v1], S) = rn xX9_takeKey (52, [l0, l1, l2], [vI 300, v0, v1], S) := rn_step dX9_takeKey_49 rfl rfl
theorem eX9_takeKey_52 {a b : Int} {l0 l1 l2 : Option VV} {v2 : VV} (h : -2147483648 ≤ a ∧ a ≤ 2147483647) (h1 : -2147483648 ≤ b ∧ b ≤ 2147483647) {S : MM} : rn xX9_takeKey (52, [l0, l1, l2], [vI b, vI a, v2], S) = if a < b then rn xX9_takeKey (59, [l0, l1, l2], [v2], S) else rn xX9_takeKey (55, [l0, l1, l2], [v2], S) := q_icmp_lt dX9_takeKey_52 (by decide) rfl h h1
theorem eX9_takeKey_55 {l0 l1 l2 : Option VV} {v0 : VV} {S : MM} : rn xX9_takeKey (55, [l0, l1, l2], [v0], S) = rn xX9_takeKey (56, [l0, l1, l2], [vI 1, v0], S) := rn_step dX9_takeKey_55 rfl rfl
theorem eX9_takeKey_56 {l0 l1 l2 : Option VV} {v0 v1 : VV} {S : MM} : rn xX9_takeKey (56, [l0, l1, l2], [v0, v1], S) = rn xX9_takeKey (60, [l0, l1, l2], [v0, v1], S) := rn_step dX9_takeKey_56 rfl rfl
theorem eX9_takeKey_59 {l0 l1 l2 : Option VV} {v0 : VV} {S : MM} : rn xX9_takeKey (59, [l0, l1, l2], [v0], S) = rn xX9_takeKey (60, [l0, l1, l2], [vI 0, v0], S) := rn_step dX9_takeKey_59 rfl rfl
theorem eX9_takeKey_60 {z : Int} {l0 l1 l2 : Option VV} (hz : z = 0 ∨ z = 1) {S : MM} : rn xX9_takeKey (60, [l0, l1, l2], [vI z, vR 593], S) = rn xX9_takeKey (63, [l0, l1, l2], [], updM S 593 13 z) := q_put dX9_takeKey_60 rfl ⟨by decide, by decide⟩ (fit1 hz) kd593
theorem eX9_takeKey_63 {a : Option Nat} {l1 l2 : Option VV} {S : MM} : rn xX9_takeKey (63, [some (.inr (.inl a)), l1, l2], [], S) = rn xX9_takeKey (64, [some (.inr (.inl a)), l1, l2], [.inr (.inl a)], S) := rn_step dX9_takeKey_63 rfl rfl
theorem eX9_takeKey_64 {l0 l1 l2 : Option VV} {S : MM} : rn xX9_takeKey (64, [l0, l1, l2], [vR 593], S) = rn xX9_takeKey (67, [l0, l1, l2], [vI (S 593 13)], S) := q_getI dX9_takeKey_64 rfl ⟨⟨by decide, by decide⟩, by decide⟩ kd593
theorem eX9_takeKey_67 {a : Int} {l0 l1 l2 : Option VV} (h : -2147483648 ≤ a ∧ a ≤ 2147483647) {S : MM} : rn xX9_takeKey (67, [l0, l1, l2], [vI a], S) = if a = 0 then rn xX9_takeKey (74, [l0, l1, l2], [], S) else rn xX9_takeKey (70, [l0, l1, l2], [], S) := q_if_eq dX9_takeKey_67 (by decide) rfl h
theorem eX9_takeKey_70 {a : Int} {l0 l2 : Option VV} {S : MM} : rn xX9_takeKey (70, [l0, some (vI a), l2], [], S) = rn xX9_takeKey (71, [l0, some (vI a), l2], [vI a], S) := rn_step dX9_takeKey_70 rfl rfl
theorem eX9_takeKey_71 {l0 l1 l2 : Option VV} {v0 : VV} {S : MM} : rn xX9_takeKey (71, [l0, l1, l2], [v0], S) = rn xX9_takeKey (75, [l0, l1, l2], [v0], S) := rn_step dX9_takeKey_71 rfl rfl
theorem eX9_takeKey_74 {a : Int} {l0 l1 : Option VV} {S : MM} : rn xX9_takeKey (74, [l0, l1, some (vI a)], [], S) = rn xX9_takeKey (75, [l0, l1, some (vI a)], [vI a], S) := rn_step dX9_takeKey_74 rfl rfl
theorem eX9_takeKey_75 {a : Int} {w : Option Nat} {l1 l2 : Option VV} {S : MM} : rn xX9_takeKey (75, [some (.inr (.inl w)), l1, l2], [vI a], S) = rn xX9_takeKey (76, [some (.inr (.inl w)), some (vI a), l2], [], S) := rn_step dX9_takeKey_75 rfl rfl
theorem eX9_takeKey_76 {a : Option Nat} {l1 l2 : Option VV} {S : MM} : rn xX9_takeKey (76, [some (.inr (.inl a)), l1, l2], [], S) = rn xX9_takeKey (77, [some (.inr (.inl a)), l1, l2], [.inr (.inl a)], S) := rn_step dX9_takeKey_76 rfl rfl
theorem eX9_takeKey_77 {a : Option Nat} {l0 l1 l2 : Option VV} {S : MM} : rn xX9_takeKey (77, [l0, l1, l2], [.inr (.inl a)], S) = rn xX9_takeKey (78, [l0, l1, l2], [.inr (.inl a), .inr (.inl a)], S) := rn_step dX9_takeKey_77 rfl rfl
theorem eX9_takeKey_78 {l0 l1 l2 : Option VV} {v1 : VV} {S : MM} : rn xX9_takeKey (78, [l0, l1, l2], [vR 593, v1], S) = rn xX9_takeKey (81, [l0, l1, l2], [vI (S 593 12), v1], S) := q_getI dX9_takeKey_78 rfl ⟨⟨by decide, by decide⟩, by decide⟩ kd593
theorem eX9_takeKey_81 {a : Option Nat} {l1 l2 : Option VV} {v0 v1 : VV} {S : MM} : rn xX9_takeKey (81, [some (.inr (.inl a)), l1, l2], [v0, v1], S) = rn xX9_takeKey (82, [some (.inr (.inl a)), l1, l2], [.inr (.inl a), v0, v1], S) := rn_step dX9_takeKey_81 rfl rfl
theorem eX9_takeKey_82 {l0 l1 l2 : Option VV} {v1 v2 : VV} {S : MM} : rn xX9_takeKey (82, [l0, l1, l2], [vR 593, v1, v2], S) = rn xX9_takeKey (85, [l0, l1, l2], [vI (S 593 13), v1, v2], S) := q_getI dX9_takeKey_82 rfl ⟨⟨by decide, by decide⟩, by decide⟩ kd593
theorem eX9_takeKey_85 {a : Int} {l0 l1 l2 : Option VV} {v1 v2 : VV} (h : -2147483648 ≤ a ∧ a ≤ 2147483647) {S : MM} : rn xX9_takeKey (85, [l0, l1, l2], [vI a, v1, v2], S) = if a = 0 then rn xX9_takeKey (92, [l0, l1, l2], [v1, v2], S) else rn xX9_takeKey (88, [l0, l1, l2], [v1, v2], S) := q_if_eq dX9_takeKey_85 (by decide) rfl h
theorem eX9_takeKey_88 {l0 l1 l2 : Option VV} {v0 v1 : VV} {S : MM} : rn xX9_takeKey (88, [l0, l1, l2], [v0, v1], S) = rn xX9_takeKey (89, [l0, l1, l2], [vI 0, v0, v1], S) := rn_step dX9_takeKey_88 rfl rfl
theorem eX9_takeKey_89 {l0 l1 l2 : Option VV} {v0 v1 v2 : VV} {S : MM} : rn xX9_takeKey (89, [l0, l1, l2], [v0, v1, v2], S) = rn xX9_takeKey (93, [l0, l1, l2], [v0, v1, v2], S) := rn_step dX9_takeKey_89 rfl rfl
theorem eX9_takeKey_92 {l0 l1 l2 : Option VV} {v0 v1 : VV} {S : MM} : rn xX9_takeKey (92, [l0, l1, l2], [v0, v1], S) = rn xX9_takeKey (93, [l0, l1, l2], [vI 1, v0, v1], S) := rn_step dX9_takeKey_92 rfl rfl
theorem eX9_takeKey_93 {a b : Int} {l0 l1 l2 : Option VV} {v2 : VV} {S : MM} : rn xX9_takeKey (93, [l0, l1, l2], [vI b, vI a, v2], S) = rn xX9_takeKey (94, [l0, l1, l2], [vI (a + b), v2], S) := rn_step dX9_takeKey_93 rfl rfl
theorem eX9_takeKey_94 {z : Int} {l0 l1 l2 : Option VV} {S : MM} : rn xX9_takeKey (94, [l0, l1, l2], [vI z, vR 593], S) = rn xX9_takeKey (97, [l0, l1, l2], [], updM S 593 12 z) := q_put dX9_takeKey_94 rfl ⟨by decide, by decide⟩ rfl kd593
theorem eX9_takeKey_97 {l0 l1 l2 : Option VV} {S : MM} : rn xX9_takeKey (97, [l0, l1, l2], [], S) = rn xX9_takeKey (9, [l0, l1, l2], [], S) := rn_step dX9_takeKey_97 rfl rfl
theorem eX9_takeKey_100 {a : Int} {l0 l2 : Option VV} {S : MM} : rn xX9_takeKey (100, [l0, some (vI a), l2], [], S) = rn xX9_takeKey (101, [l0, some (vI a), l2], [vI a], S) := rn_step dX9_takeKey_100 rfl rfl
theorem eX9_takeKey_101 {z : Int} {l0 l1 l2 : Option VV} {S : MM} : rn xX9_takeKey (101, [l0, l1, l2], [vI z], S) = some (some (vI z), S) := q_retI dX9_takeKey_101 rfl
noncomputable def qlX9_enter : List CE := []
noncomputable def xX9_enter : XX := (cX9_enter, fcF fcl9, mcF qlX9_enter, 0)
noncomputable def fX9_enter : FN := fnX xX9_enter 7
set_option maxRecDepth 100000 in
theorem cwX9_enter : Cond.code yX9_enter cX9_enter 7 none ∈ lw_g := lw_gm 1227 (by decide +kernel) (by decide +kernel)
set_option maxRecDepth 100000 in
theorem conX9_enter : Con yX9_enter cX9_enter 7 none { frames := 0, cells := 0, slots := 0, locals := 0 } fX9_enter := con_of (X := xX9_enter) (own := "LeapStonesModel") (ql := qlX9_enter) (by decide) rfl FOK9 rfl (fun _ h => absurd h List.not_mem_nil) (Or.inl ⟨rfl, rfl⟩)
theorem uX9_enter {i : Nat} {a0 : Int} {a1 : Int} {a2 : Int} {a3 : Int} {a4 : Int} {S : MM} : fX9_enter [vR i, vI a0, vI a1, vI a2, vI a3, vI a4] S = rn xX9_enter (0, [some (vR i), some (vI a0), some (vI a1), some (vI a2), some (vI a3), some (vI a4), none], [], S) := rfl
theorem dX9_enter_0 : decode cX9_enter 0 = .ok (.aload_n 0, 1) := by decide +kernel
theorem dX9_enter_1 : decode cX9_enter 1 = .ok (.getfield 204, 3) := by decide +kernel
theorem dX9_enter_4 : decode cX9_enter 4 = .ok (.ifCond .ne 85, 3) := by decide +kernel
theorem dX9_enter_7 : decode cX9_enter 7 = .ok (.bipush 6, 2) := by decide +kernel
theorem dX9_enter_9 : decode cX9_enter 9 = .ok (.aload_n 0, 1) := by decide +kernel
theorem dX9_enter_10 : decode cX9_enter 10 = .ok (.getfield 214, 3) := by decide +kernel
theorem dX9_enter_13 : decode cX9_enter 13 = .ok (.imul, 1) := by decide +kernel
theorem dX9_enter_14 : decode cX9_enter 14 = .ok (.istore 6, 2) := by decide +kernel
theorem dX9_enter_16 : decode cX9_enter 16 = .ok (.aload_n 0, 1) := by decide +kernel
theorem dX9_enter_17 : decode cX9_enter 17 = .ok (.getfield 32, 3) := by decide +kernel
theorem dX9_enter_20 : decode cX9_enter 20 = .ok (.iload 6, 2) := by decide +kernel
theorem dX9_enter_22 : decode cX9_enter 22 = .ok (.iload_n 1, 1) := by decide +kernel
theorem dX9_enter_23 : decode cX9_enter 23 = .ok (.iastore, 1) := by decide +kernel
theorem dX9_enter_24 : decode cX9_enter 24 = .ok (.aload_n 0, 1) := by decide +kernel
theorem dX9_enter_25 : decode cX9_enter 25 = .ok (.getfield 32, 3) := by decide +kernel
theorem dX9_enter_28 : decode cX9_enter 28 = .ok (.iload 6, 2) := by decide +kernel
theorem dX9_enter_30 : decode cX9_enter 30 = .ok (.iconst 1, 1) := by decide +kernel
theorem dX9_enter_31 : decode cX9_enter 31 = .ok (.iadd, 1) := by decide +kernel
theorem dX9_enter_32 : decode cX9_enter 32 = .ok (.aload_n 0, 1) := by decide +kernel
theorem dX9_enter_33 : decode cX9_enter 33 = .ok (.getfield 217, 3) := by decide +kernel
theorem dX9_enter_36 : decode cX9_enter 36 = .ok (.iastore, 1) := by decide +kernel
theorem dX9_enter_37 : decode cX9_enter 37 = .ok (.aload_n 0, 1) := by decide +kernel
theorem dX9_enter_38 : decode cX9_enter 38 = .ok (.getfield 32, 3) := by decide +kernel
theorem dX9_enter_41 : decode cX9_enter 41 = .ok (.iload 6, 2) := by decide +kernel
theorem dX9_enter_43 : decode cX9_enter 43 = .ok (.iconst 2, 1) := by decide +kernel
theorem dX9_enter_44 : decode cX9_enter 44 = .ok (.iadd, 1) := by decide +kernel
theorem dX9_enter_45 : decode cX9_enter 45 = .ok (.iload_n 2, 1) := by decide +kernel
theorem dX9_enter_46 : decode cX9_enter 46 = .ok (.iastore, 1) := by decide +kernel
theorem dX9_enter_47 : decode cX9_enter 47 = .ok (.aload_n 0, 1) := by decide +kernel
theorem dX9_enter_48 : decode cX9_enter 48 = .ok (.getfield 32, 3) := by decide +kernel
theorem dX9_enter_51 : decode cX9_enter 51 = .ok (.iload 6, 2) := by decide +kernel
theorem dX9_enter_53 : decode cX9_enter 53 = .ok (.iconst 3, 1) := by decide +kernel
theorem dX9_enter_54 : decode cX9_enter 54 = .ok (.iadd, 1) := by decide +kernel
theorem dX9_enter_55 : decode cX9_enter 55 = .ok (.iload_n 3, 1) := by decide +kernel
theorem dX9_enter_56 : decode cX9_enter 56 = .ok (.iastore, 1) := by decide +kernel
theorem dX9_enter_57 : decode cX9_enter 57 = .ok (.aload_n 0, 1) := by decide +kernel
theorem dX9_enter_58 : decode cX9_enter 58 = .ok (.getfield 32, 3) := by decide +kernel
theorem dX9_enter_61 : decode cX9_enter 61 = .ok (.iload 6, 2) := by decide +kernel
theorem dX9_enter_63 : decode cX9_enter 63 = .ok (.iconst 4, 1) := by decide +kernel
theorem dX9_enter_64 : decode cX9_enter 64 = .ok (.iadd, 1) := by decide +kernel
theorem dX9_enter_65 : decode cX9_enter 65 = .ok (.iload 4, 2) := by decide +kernel
theorem dX9_enter_67 : decode cX9_enter 67 = .ok (.iastore, 1) := by decide +kernel
theorem dX9_enter_68 : decode cX9_enter 68 = .ok (.aload_n 0, 1) := by decide +kernel
theorem dX9_enter_69 : decode cX9_enter 69 = .ok (.getfield 32, 3) := by decide +kernel
theorem dX9_enter_72 : decode cX9_enter 72 = .ok (.iload 6, 2) := by decide +kernel
theorem dX9_enter_74 : decode cX9_enter 74 = .ok (.iconst 5, 1) := by decide +kernel
theorem dX9_enter_75 : decode cX9_enter 75 = .ok (.iadd, 1) := by decide +kernel
theorem dX9_enter_76 : decode cX9_enter 76 = .ok (.iload 5, 2) := by decide +kernel
theorem dX9_enter_78 : decode cX9_enter 78 = .ok (.iastore, 1) := by decide +kernel
theorem dX9_enter_79 : decode cX9_enter 79 = .ok (.aload_n 0, 1) := by decide +kernel
theorem dX9_enter_80 : decode cX9_enter 80 = .ok (.dup, 1) := by decide +kernel
theorem dX9_enter_81 : decode cX9_enter 81 = .ok (.getfield 214, 3) := by decide +kernel
theorem dX9_enter_84 : decode cX9_enter 84 = .ok (.iconst 1, 1) := by decide +kernel
theorem dX9_enter_85 : decode cX9_enter 85 = .ok (.iadd, 1) := by decide +kernel
theorem dX9_enter_86 : decode cX9_enter 86 = .ok (.putfield 214, 3) := by decide +kernel
theorem dX9_enter_89 : decode cX9_enter 89 = .ok (.return_, 1) := by decide +kernel
theorem eX9_enter_0 {a : Option Nat} {l1 l2 l3 l4 l5 l6 : Option VV} {S : MM} : rn xX9_enter (0, [some (.inr (.inl a)), l1, l2, l3, l4, l5, l6], [], S) = rn xX9_enter (1, [some (.inr (.inl a)), l1, l2, l3, l4, l5, l6], [.inr (.inl a)], S) := rn_step dX9_enter_0 rfl rfl
theorem eX9_enter_1 {l0 l1 l2 l3 l4 l5 l6 : Option VV} {S : MM} : rn xX9_enter (1, [l0, l1, l2, l3, l4, l5, l6], [vR 593], S) = rn xX9_enter (4, [l0, l1, l2, l3, l4, l5, l6], [vI (S 593 13)], S) := q_getI dX9_enter_1 rfl ⟨⟨by decide, by decide⟩, by decide⟩ kd593
theorem eX9_enter_4 {a : Int} {l0 l1 l2 l3 l4 l5 l6 : Option VV} (h : -2147483648 ≤ a ∧ a ≤ 2147483647) {S : MM} : rn xX9_enter (4, [l0, l1, l2, l3, l4, l5, l6], [vI a], S) = if a = 0 then rn xX9_enter (7, [l0, l1, l2, l3, l4, l5, l6], [], S) else rn xX9_enter (89, [l0, l1, l2, l3, l4, l5, l6], [], S) := q_if_ne dX9_enter_4 (by decide) rfl h
theorem eX9_enter_7 {l0 l1 l2 l3 l4 l5 l6 : Option VV} {S : MM} : rn xX9_enter (7, [l0, l1, l2, l3, l4, l5, l6], [], S) = rn xX9_enter (9, [l0, l1, l2, l3, l4, l5, l6], [vI 6], S) := rn_step dX9_enter_7 rfl rfl
theorem eX9_enter_9 {a : Option Nat} {l1 l2 l3 l4 l5 l6 : Option VV} {v0 : VV} {S : MM} : rn xX9_enter (9, [some (.inr (.inl a)), l1, l2, l3, l4, l5, l6], [v0], S) = rn xX9_enter (10, [some (.inr (.inl a)), l1, l2, l3, l4, l5, l6], [.inr (.inl a), v0], S) := rn_step dX9_enter_9 rfl rfl
theorem eX9_enter_10 {l0 l1 l2 l3 l4 l5 l6 : Option VV} {v1 : VV} {S : MM} : rn xX9_enter (10, [l0, l1, l2, l3, l4, l5, l6], [vR 593, v1], S) = rn xX9_enter (13, [l0, l1, l2, l3, l4, l5, l6], [vI (S 593 15), v1], S) := q_getI dX9_enter_10 rfl ⟨⟨by decide, by decide⟩, by decide⟩ kd593
theorem eX9_enter_13 {a b : Int} {l0 l1 l2 l3 l4 l5 l6 : Option VV} {S : MM} : rn xX9_enter (13, [l0, l1, l2, l3, l4, l5, l6], [vI b, vI a], S) = rn xX9_enter (14, [l0, l1, l2, l3, l4, l5, l6], [vI (a * b)], S) := rn_step dX9_enter_13 rfl rfl
theorem eX9_enter_14 {a : Int} {w : Int} {l0 l1 l2 l3 l4 l6 : Option VV} {S : MM} : rn xX9_enter (14, [l0, l1, l2, l3, l4, some (vI w), l6], [vI a], S) = rn xX9_enter (16, [l0, l1, l2, l3, l4, some (vI w), some (vI a)], [], S) := rn_step dX9_enter_14 rfl rfl
theorem eX9_enter_16 {a : Option Nat} {l1 l2 l3 l4 l5 l6 : Option VV} {S : MM} : rn xX9_enter (16, [some (.inr (.inl a)), l1, l2, l3, l4, l5, l6], [], S) = rn xX9_enter (17, [some (.inr (.inl a)), l1, l2, l3, l4, l5, l6], [.inr (.inl a)], S) := rn_step dX9_enter_16 rfl rfl
theorem eX9_enter_17 {l0 l1 l2 l3 l4 l5 l6 : Option VV} {S : MM} : rn xX9_enter (17, [l0, l1, l2, l3, l4, l5, l6], [vR 593], S) = rn xX9_enter (20, [l0, l1, l2, l3, l4, l5, l6], [vR 601], S) := q_getR dX9_enter_17 rfl ⟨⟨by decide, by decide⟩, by decide⟩ (fun _ => by decide +kernel) kd593
theorem eX9_enter_20 {a : Int} {l0 l1 l2 l3 l4 l5 : Option VV} {v0 : VV} {S : MM} : rn xX9_enter (20, [l0, l1, l2, l3, l4, l5, some (vI a)], [v0], S) = rn xX9_enter (22, [l0, l1, l2, l3, l4, l5, some (vI a)], [vI a, v0], S) := rn_step dX9_enter_20 rfl rfl
theorem eX9_enter_22 {a : Int} {l0 l2 l3 l4 l5 l6 : Option VV} {v0 v1 : VV} {S : MM} : rn xX9_enter (22, [l0, some (vI a), l2, l3, l4, l5, l6], [v0, v1], S) = rn xX9_enter (23, [l0, some (vI a), l2, l3, l4, l5, l6], [vI a, v0, v1], S) := rn_step dX9_enter_22 rfl rfl
theorem eX9_enter_23 {i : Nat} {j z : Int} {l0 l1 l2 l3 l4 l5 l6 : Option VV} (h : kd i = 10) (h0 : 0 ≤ j) (h1 : j < alen i) {S : MM} : rn xX9_enter (23, [l0, l1, l2, l3, l4, l5, l6], [vI z, vI j, vR i], S) = rn xX9_enter (24, [l0, l1, l2, l3, l4, l5, l6], [], updM S i j.toNat z) := q_iast dX9_enter_23 h h0 h1
theorem eX9_enter_24 {a : Option Nat} {l1 l2 l3 l4 l5 l6 : Option VV} {S : MM} : rn xX9_enter (24, [some (.inr (.inl a)), l1, l2, l3, l4, l5, l6], [], S) = rn xX9_enter (25, [some (.inr (.inl a)), l1, l2, l3, l4, l5, l6], [.inr (.inl a)], S) := rn_step dX9_enter_24 rfl rfl
theorem eX9_enter_25 {l0 l1 l2 l3 l4 l5 l6 : Option VV} {S : MM} : rn xX9_enter (25, [l0, l1, l2, l3, l4, l5, l6], [vR 593], S) = rn xX9_enter (28, [l0, l1, l2, l3, l4, l5, l6], [vR 601], S) := q_getR dX9_enter_25 rfl ⟨⟨by decide, by decide⟩, by decide⟩ (fun _ => by decide +kernel) kd593
theorem eX9_enter_28 {a : Int} {l0 l1 l2 l3 l4 l5 : Option VV} {v0 : VV} {S : MM} : rn xX9_enter (28, [l0, l1, l2, l3, l4, l5, some (vI a)], [v0], S) = rn xX9_enter (30, [l0, l1, l2, l3, l4, l5, some (vI a)], [vI a, v0], S) := rn_step dX9_enter_28 rfl rfl
theorem eX9_enter_30 {l0 l1 l2 l3 l4 l5 l6 : Option VV} {v0 v1 : VV} {S : MM} : rn xX9_enter (30, [l0, l1, l2, l3, l4, l5, l6], [v0, v1], S) = rn xX9_enter (31, [l0, l1, l2, l3, l4, l5, l6], [vI 1, v0, v1], S) := rn_step dX9_enter_30 rfl rfl
theorem eX9_enter_31 {a b : Int} {l0 l1 l2 l3 l4 l5 l6 : Option VV} {v2 : VV} {S : MM} : rn xX9_enter (31, [l0, l1, l2, l3, l4, l5, l6], [vI b, vI a, v2], S) = rn xX9_enter (32, [l0, l1, l2, l3, l4, l5, l6], [vI (a + b), v2], S) := rn_step dX9_enter_31 rfl rfl
theorem eX9_enter_32 {a : Option Nat} {l1 l2 l3 l4 l5 l6 : Option VV} {v0 v1 : VV} {S : MM} : rn xX9_enter (32, [some (.inr (.inl a)), l1, l2, l3, l4, l5, l6], [v0, v1], S) = rn xX9_enter (33, [some (.inr (.inl a)), l1, l2, l3, l4, l5, l6], [.inr (.inl a), v0, v1], S) := rn_step dX9_enter_32 rfl rfl
theorem eX9_enter_33 {l0 l1 l2 l3 l4 l5 l6 : Option VV} {v1 v2 : VV} {S : MM} : rn xX9_enter (33, [l0, l1, l2, l3, l4, l5, l6], [vR 593, v1, v2], S) = rn xX9_enter (36, [l0, l1, l2, l3, l4, l5, l6], [vI (S 593 14), v1, v2], S) := q_getI dX9_enter_33 rfl ⟨⟨by decide, by decide⟩, by decide⟩ kd593
theorem eX9_enter_36 {i : Nat} {j z : Int} {l0 l1 l2 l3 l4 l5 l6 : Option VV} (h : kd i = 10) (h0 : 0 ≤ j) (h1 : j < alen i) {S : MM} : rn xX9_enter (36, [l0, l1, l2, l3, l4, l5, l6], [vI z, vI j, vR i], S) = rn xX9_enter (37, [l0, l1, l2, l3, l4, l5, l6], [], updM S i j.toNat z) := q_iast dX9_enter_36 h h0 h1
theorem eX9_enter_37 {a : Option Nat} {l1 l2 l3 l4 l5 l6 : Option VV} {S : MM} : rn xX9_enter (37, [some (.inr (.inl a)), l1, l2, l3, l4, l5, l6], [], S) = rn xX9_enter (38, [some (.inr (.inl a)), l1, l2, l3, l4, l5, l6], [.inr (.inl a)], S) := rn_step dX9_enter_37 rfl rfl
theorem eX9_enter_38 {l0 l1 l2 l3 l4 l5 l6 : Option VV} {S : MM} : rn xX9_enter (38, [l0, l1, l2, l3, l4, l5, l6], [vR 593], S) = rn xX9_enter (41, [l0, l1, l2, l3, l4, l5, l6], [vR 601], S) := q_getR dX9_enter_38 rfl ⟨⟨by decide, by decide⟩, by decide⟩ (fun _ => by decide +kernel) kd593
theorem eX9_enter_41 {a : Int} {l0 l1 l2 l3 l4 l5 : Option VV} {v0 : VV} {S : MM} : rn xX9_enter (41, [l0, l1, l2, l3, l4, l5, some (vI a)], [v0], S) = rn xX9_enter (43, [l0, l1, l2, l3, l4, l5, some (vI a)], [vI a, v0], S) := rn_step dX9_enter_41 rfl rfl
theorem eX9_enter_43 {l0 l1 l2 l3 l4 l5 l6 : Option VV} {v0 v1 : VV} {S : MM} : rn xX9_enter (43, [l0, l1, l2, l3, l4, l5, l6], [v0, v1], S) = rn xX9_enter (44, [l0, l1, l2, l3, l4, l5, l6], [vI 2, v0, v1], S) := rn_step dX9_enter_43 rfl rfl
theorem eX9_enter_44 {a b : Int} {l0 l1 l2 l3 l4 l5 l6 : Option VV} {v2 : VV} {S : MM} : rn xX9_enter (44, [l0, l1, l2, l3, l4, l5, l6], [vI b, vI a, v2], S) = rn xX9_enter (45, [l0, l1, l2, l3, l4, l5, l6], [vI (a + b), v2], S) := rn_step dX9_enter_44 rfl rfl
theorem eX9_enter_45 {a : Int} {l0 l1 l3 l4 l5 l6 : Option VV} {v0 v1 : VV} {S : MM} : rn xX9_enter (45, [l0, l1, some (vI a), l3, l4, l5, l6], [v0, v1], S) = rn xX9_enter (46, [l0, l1, some (vI a), l3, l4, l5, l6], [vI a, v0, v1], S) := rn_step dX9_enter_45 rfl rfl
theorem eX9_enter_46 {i : Nat} {j z : Int} {l0 l1 l2 l3 l4 l5 l6 : Option VV} (h : kd i = 10) (h0 : 0 ≤ j) (h1 : j < alen i) {S : MM} : rn xX9_enter (46, [l0, l1, l2, l3, l4, l5, l6], [vI z, vI j, vR i], S) = rn xX9_enter (47, [l0, l1, l2, l3, l4, l5, l6], [], updM S i j.toNat z) := q_iast dX9_enter_46 h h0 h1
theorem eX9_enter_47 {a : Option Nat} {l1 l2 l3 l4 l5 l6 : Option VV} {S : MM} : rn xX9_enter (47, [some (.inr (.inl a)), l1, l2, l3, l4, l5, l6], [], S) = rn xX9_enter (48, [some (.inr (.inl a)), l1, l2, l3, l4, l5, l6], [.inr (.inl a)], S) := rn_step dX9_enter_47 rfl rfl
theorem eX9_enter_48 {l0 l1 l2 l3 l4 l5 l6 : Option VV} {S : MM} : rn xX9_enter (48, [l0, l1, l2, l3, l4, l5, l6], [vR 593], S) = rn xX9_enter (51, [l0, l1, l2, l3, l4, l5, l6], [vR 601], S) := q_getR dX9_enter_48 rfl ⟨⟨by decide, by decide⟩, by decide⟩ (fun _ => by decide +kernel) kd593
theorem eX9_enter_51 {a : Int} {l0 l1 l2 l3 l4 l5 : Option VV} {v0 : VV} {S : MM} : rn xX9_enter (51, [l0, l1, l2, l3, l4, l5, some (vI a)], [v0], S) = rn xX9_enter (53, [l0, l1, l2, l3, l4, l5, some (vI a)], [vI a, v0], S) := rn_step dX9_enter_51 rfl rfl
theorem eX9_enter_53 {l0 l1 l2 l3 l4 l5 l6 : Option VV} {v0 v1 : VV} {S : MM} : rn xX9_enter (53, [l0, l1, l2, l3, l4, l5, l6], [v0, v1], S) = rn xX9_enter (54, [l0, l1, l2, l3, l4, l5, l6], [vI 3, v0, v1], S) := rn_step dX9_enter_53 rfl rfl
theorem eX9_enter_54 {a b : Int} {l0 l1 l2 l3 l4 l5 l6 : Option VV} {v2 : VV} {S : MM} : rn xX9_enter (54, [l0, l1, l2, l3, l4, l5, l6], [vI b, vI a, v2], S) = rn xX9_enter (55, [l0, l1, l2, l3, l4, l5, l6], [vI (a + b), v2], S) := rn_step dX9_enter_54 rfl rfl
theorem eX9_enter_55 {a : Int} {l0 l1 l2 l4 l5 l6 : Option VV} {v0 v1 : VV} {S : MM} : rn xX9_enter (55, [l0, l1, l2, some (vI a), l4, l5, l6], [v0, v1], S) = rn xX9_enter (56, [l0, l1, l2, some (vI a), l4, l5, l6], [vI a, v0, v1], S) := rn_step dX9_enter_55 rfl rfl
theorem eX9_enter_56 {i : Nat} {j z : Int} {l0 l1 l2 l3 l4 l5 l6 : Option VV} (h : kd i = 10) (h0 : 0 ≤ j) (h1 : j < alen i) {S : MM} : rn xX9_enter (56, [l0, l1, l2, l3, l4, l5, l6], [vI z, vI j, vR i], S) = rn xX9_enter (57, [l0, l1, l2, l3, l4, l5, l6], [], updM S i j.toNat z) := q_iast dX9_enter_56 h h0 h1
theorem eX9_enter_57 {a : Option Nat} {l1 l2 l3 l4 l5 l6 : Option VV} {S : MM} : rn xX9_enter (57, [some (.inr (.inl a)), l1, l2, l3, l4, l5, l6], [], S) = rn xX9_enter (58, [some (.inr (.inl a)), l1, l2, l3, l4, l5, l6], [.inr (.inl a)], S) := rn_step dX9_enter_57 rfl rfl
theorem eX9_enter_58 {l0 l1 l2 l3 l4 l5 l6 : Option VV} {S : MM} : rn xX9_enter (58, [l0, l1, l2, l3, l4, l5, l6], [vR 593], S) = rn xX9_enter (61, [l0, l1, l2, l3, l4, l5, l6], [vR 601], S) := q_getR dX9_enter_58 rfl ⟨⟨by decide, by decide⟩, by decide⟩ (fun _ => by decide +kernel) kd593
theorem eX9_enter_61 {a : Int} {l0 l1 l2 l3 l4 l5 : Option VV} {v0 : VV} {S : MM} : rn xX9_enter (61, [l0, l1, l2, l3, l4, l5, some (vI a)], [v0], S) = rn xX9_enter (63, [l0, l1, l2, l3, l4, l5, some (vI a)], [vI a, v0], S) := rn_step dX9_enter_61 rfl rfl
theorem eX9_enter_63 {l0 l1 l2 l3 l4 l5 l6 : Option VV} {v0 v1 : VV} {S : MM} : rn xX9_enter (63, [l0, l1, l2, l3, l4, l5, l6], [v0, v1], S) = rn xX9_enter (64, [l0, l1, l2, l3, l4, l5, l6], [vI 4, v0, v1], S) := rn_step dX9_enter_63 rfl rfl
theorem eX9_enter_64 {a b : Int} {l0 l1 l2 l3 l4 l5 l6 : Option VV} {v2 : VV} {S : MM} : rn xX9_enter (64, [l0, l1, l2, l3, l4, l5, l6], [vI b, vI a, v2], S) = rn xX9_enter (65, [l0, l1, l2, l3, l4, l5, l6], [vI (a + b), v2], S) := rn_step dX9_enter_64 rfl rfl
theorem eX9_enter_65 {a : Int} {l0 l1 l2 l3 l5 l6 : Option VV} {v0 v1 : VV} {S : MM} : rn xX9_enter (65, [l0, l1, l2, l3, some (vI a), l5, l6], [v0, v1], S) = rn xX9_enter (67, [l0, l1, l2, l3, some (vI a), l5, l6], [vI a, v0, v1], S) := rn_step dX9_enter_65 rfl rfl
theorem eX9_enter_67 {i : Nat} {j z : Int} {l0 l1 l2 l3 l4 l5 l6 : Option VV} (h : kd i = 10) (h0 : 0 ≤ j) (h1 : j < alen i) {S : MM} : rn xX9_enter (67, [l0, l1, l2, l3, l4, l5, l6], [vI z, vI j, vR i], S) = rn xX9_enter (68, [l0, l1, l2, l3, l4, l5, l6], [], updM S i j.toNat z) := q_iast dX9_enter_67 h h0 h1
theorem eX9_enter_68 {a : Option Nat} {l1 l2 l3 l4 l5 l6 : Option VV} {S : MM} : rn xX9_enter (68, [some (.inr (.inl a)), l1, l2, l3, l4, l5, l6], [], S) = rn xX9_enter (69, [some (.inr (.inl a)), l1, l2, l3, l4, l5, l6], [.inr (.inl a)], S) := rn_step dX9_enter_68 rfl rfl
theorem eX9_enter_69 {l0 l1 l2 l3 l4 l5 l6 : Option VV} {S : MM} : rn xX9_enter (69, [l0, l1, l2, l3, l4, l5, l6], [vR 593], S) = rn xX9_enter (72, [l0, l1, l2, l3, l4, l5, l6], [vR 601], S) := q_getR dX9_enter_69 rfl ⟨⟨by decide, by decide⟩, by decide⟩ (fun _ => by decide +kernel) kd593
theorem eX9_enter_72 {a : Int} {l0 l1 l2 l3 l4 l5 : Option VV} {v0 : VV} {S : MM} : rn xX9_enter (72, [l0, l1, l2, l3, l4, l5, some (vI a)], [v0], S) = rn xX9_enter (74, [l0, l1, l2, l3, l4, l5, some (vI a)], [vI a, v0], S) := rn_step dX9_enter_72 rfl rfl
theorem eX9_enter_74 {l0 l1 l2 l3 l4 l5 l6 : Option VV} {v0 v1 : VV} {S : MM} : rn xX9_enter (74, [l0, l1, l2, l3, l4, l5, l6], [v0, v1], S) = rn xX9_enter (75, [l0, l1, l2, l3, l4, l5, l6], [vI 5, v0, v1], S) := rn_step dX9_enter_74 rfl rfl
theorem eX9_enter_75 {a b : Int} {l0 l1 l2 l3 l4 l5 l6 : Option VV} {v2 : VV} {S : MM} : rn xX9_enter (75, [l0, l1, l2, l3, l4, l5, l6], [vI b, vI a, v2], S) = rn xX9_enter (76, [l0, l1, l2, l3, l4, l5, l6], [vI (a + b), v2], S) := rn_step dX9_enter_75 rfl rfl
theorem eX9_enter_76 {a : Int} {l0 l1 l2 l3 l4 l6 : Option VV} {v0 v1 : VV} {S : MM} : rn xX9_enter (76, [l0, l1, l2, l3, l4, some (vI a), l6], [v0, v1], S) = rn xX9_enter (78, [l0, l1, l2, l3, l4, some (vI a), l6], [vI a, v0, v1], S) := rn_step dX9_enter_76 rfl rfl
theorem eX9_enter_78 {i : Nat} {j z : Int} {l0 l1 l2 l3 l4 l5 l6 : Option VV} (h : kd i = 10) (h0 : 0 ≤ j) (h1 : j < alen i) {S : MM} : rn xX9_enter (78, [l0, l1, l2, l3, l4, l5, l6], [vI z, vI j, vR i], S) = rn xX9_enter (79, [l0, l1, l2, l3, l4, l5, l6], [], updM S i j.toNat z) := q_iast dX9_enter_78 h h0 h1
theorem eX9_enter_79 {a : Option Nat} {l1 l2 l3 l4 l5 l6 : Option VV} {S : MM} : rn xX9_enter (79, [some (.inr (.inl a)), l1, l2, l3, l4, l5, l6], [], S) = rn xX9_enter (80, [some (.inr (.inl a)), l1, l2, l3, l4, l5, l6], [.inr (.inl a)], S) := rn_step dX9_enter_79 rfl rfl
theorem eX9_enter_80 {a : Option Nat} {l0 l1 l2 l3 l4 l5 l6 : Option VV} {S : MM} : rn xX9_enter (80, [l0, l1, l2, l3, l4, l5, l6], [.inr (.inl a)], S) = rn xX9_enter (81, [l0, l1, l2, l3, l4, l5, l6], [.inr (.inl a), .inr (.inl a)], S) := rn_step dX9_enter_80 rfl rfl
theorem eX9_enter_81 {l0 l1 l2 l3 l4 l5 l6 : Option VV} {v1 : VV} {S : MM} : rn xX9_enter (81, [l0, l1, l2, l3, l4, l5, l6], [vR 593, v1], S) = rn xX9_enter (84, [l0, l1, l2, l3, l4, l5, l6], [vI (S 593 15), v1], S) := q_getI dX9_enter_81 rfl ⟨⟨by decide, by decide⟩, by decide⟩ kd593
theorem eX9_enter_84 {l0 l1 l2 l3 l4 l5 l6 : Option VV} {v0 v1 : VV} {S : MM} : rn xX9_enter (84, [l0, l1, l2, l3, l4, l5, l6], [v0, v1], S) = rn xX9_enter (85, [l0, l1, l2, l3, l4, l5, l6], [vI 1, v0, v1], S) := rn_step dX9_enter_84 rfl rfl
theorem eX9_enter_85 {a b : Int} {l0 l1 l2 l3 l4 l5 l6 : Option VV} {v2 : VV} {S : MM} : rn xX9_enter (85, [l0, l1, l2, l3, l4, l5, l6], [vI b, vI a, v2], S) = rn xX9_enter (86, [l0, l1, l2, l3, l4, l5, l6], [vI (a + b), v2], S) := rn_step dX9_enter_85 rfl rfl
theorem eX9_enter_86 {z : Int} {l0 l1 l2 l3 l4 l5 l6 : Option VV} {S : MM} : rn xX9_enter (86, [l0, l1, l2, l3, l4, l5, l6], [vI z, vR 593], S) = rn xX9_enter (89, [l0, l1, l2, l3, l4, l5, l6], [], updM S 593 15 z) := q_put dX9_enter_86 rfl ⟨by decide, by decide⟩ rfl kd593
theorem eX9_enter_89 {l0 l1 l2 l3 l4 l5 l6 : Option VV} {S : MM} : rn xX9_enter (89, [l0, l1, l2, l3, l4, l5, l6], [], S) = some (none, S) := q_retV dX9_enter_89 rfl
noncomputable def qlX9_takeStones : List CE := [(0, 220, 9, 1, fX9_takeKey), (0, 223, 9, 2, fX9_takesIf), (0, 211, 9, 3, fX9_takeDigit), (0, 226, 9, 6, fX9_enter)]
noncomputable def xX9_takeStones : XX := (cX9_takeStones, fcF fcl9, mcF qlX9_takeStones, 0)
noncomputable def fX9_takeStones : FN := fnX xX9_takeStones 5
set_option maxRecDepth 100000 in
theorem cwX9_takeStones : Cond.code yX9_takeStones cX9_takeStones 5 none ∈ lw_g := lw_gm 1235 (by decide +kernel) (by decide +kernel)
set_option maxRecDepth 100000 in
theorem conX9_takeStones : Con yX9_takeStones cX9_takeStones 5 none { frames := 3, cells := 0, slots := 0, locals := 66 } fX9_takeStones := con_of (X := xX9_takeStones) (own := "LeapStonesModel") (ql := qlX9_takeStones) (by decide) rfl FOK9 rfl (List.forall_mem_cons.mpr ⟨call_V conX9_takeKey cwX9_takeKey (lw_gl _ [1220, 1222, 67, 84] (by decide +kernel) (by decide +kernel)) (by decide) rfl ⟨by decide, by decide, by decide +kernel⟩ ⟨rfl, rfl⟩ ⟨by decide, by decide⟩ ⟨Nat.le_refl _, Nat.le_refl _⟩, List.forall_mem_cons.mpr ⟨call_V conX9_takesIf cwX9_takesIf (lw_gl _ [1208, 1210, 64, 84] (by decide +kernel) (by decide +kernel)) (by decide) rfl ⟨by decide, by decide, by decide +kernel⟩ ⟨rfl, rfl⟩ ⟨by decide, by decide⟩ ⟨Nat.le_refl _, Nat.le_refl _⟩, List.forall_mem_cons.mpr ⟨call_V conX9_takeDigit cwX9_takeDigit (lw_gl _ [1212, 1214, 65, 84] (by decide +kernel) (by decide +kernel)) (by decide) rfl ⟨by decide, by decide, by decide +kernel⟩ ⟨rfl, rfl⟩ ⟨by decide, by decide⟩ ⟨Nat.le_refl _, Nat.le_refl _⟩, List.forall_mem_cons.mpr ⟨call_V conX9_enter cwX9_enter (lw_gl _ [1224, 1226, 68, 84] (by decide +kernel) (by decide +kernel)) (by decide) rfl ⟨by decide, by decide, by decide +kernel⟩ ⟨rfl, rfl⟩ ⟨by decide, by decide⟩ ⟨Nat.le_refl _, Nat.le_refl _⟩, fun _ h => absurd h List.not_mem_nil⟩⟩⟩⟩) (Or.inl ⟨rfl, rfl⟩)
theorem uX9_takeStones {i : Nat} {a0 : Int} {S : MM} : fX9_takeStones [vR i, vI a0] S = rn xX9_takeStones (0, [some (vR i), some (vI a0), none, none, none], [], S) := rfl
theorem dX9_takeStones_0 : decode cX9_takeStones 0 = .ok (.aload_n 0, 1) := by decide +kernel
theorem dX9_takeStones_1 : decode cX9_takeStones 1 = .ok (.invokevirtual 220, 3) := by decide +kernel
theorem dX9_takeStones_4 : decode cX9_takeStones 4 = .ok (.istore_n 2, 1) := by decide +kernel
theorem dX9_takeStones_5 : decode cX9_takeStones 5 = .ok (.aload_n 0, 1) := by decide +kernel
theorem dX9_takeStones_6 : decode cX9_takeStones 6 = .ok (.bipush 45, 2) := by decide +kernel
theorem dX9_takeStones_8 : decode cX9_takeStones 8 = .ok (.invokevirtual 223, 3) := by decide +kernel
theorem dX9_takeStones_11 : decode cX9_takeStones 11 = .ok (.ifCond .eq 10, 3) := by decide +kernel
theorem dX9_takeStones_14 : decode cX9_takeStones 14 = .ok (.aload_n 0, 1) := by decide +kernel
theorem dX9_takeStones_15 : decode cX9_takeStones 15 = .ok (.invokevirtual 220, 3) := by decide +kernel
theorem dX9_takeStones_18 : decode cX9_takeStones 18 = .ok (.goto 4, 3) := by decide +kernel
theorem dX9_takeStones_21 : decode cX9_takeStones 21 = .ok (.iload_n 2, 1) := by decide +kernel
theorem dX9_takeStones_22 : decode cX9_takeStones 22 = .ok (.istore_n 3, 1) := by decide +kernel
theorem dX9_takeStones_23 : decode cX9_takeStones 23 = .ok (.aload_n 0, 1) := by decide +kernel
theorem dX9_takeStones_24 : decode cX9_takeStones 24 = .ok (.bipush 42, 2) := by decide +kernel
theorem dX9_takeStones_26 : decode cX9_takeStones 26 = .ok (.invokevirtual 223, 3) := by decide +kernel
theorem dX9_takeStones_29 : decode cX9_takeStones 29 = .ok (.ifCond .eq 14, 3) := by decide +kernel
theorem dX9_takeStones_32 : decode cX9_takeStones 32 = .ok (.aload_n 0, 1) := by decide +kernel
theorem dX9_takeStones_33 : decode cX9_takeStones 33 = .ok (.bipush 49, 2) := by decide +kernel
theorem dX9_takeStones_35 : decode cX9_takeStones 35 = .ok (.bipush 57, 2) := by decide +kernel
theorem dX9_takeStones_37 : decode cX9_takeStones 37 = .ok (.invokevirtual 211, 3) := by decide +kernel
theorem dX9_takeStones_40 : decode cX9_takeStones 40 = .ok (.goto 4, 3) := by decide +kernel
theorem dX9_takeStones_43 : decode cX9_takeStones 43 = .ok (.iconst 1, 1) := by decide +kernel
theorem dX9_takeStones_44 : decode cX9_takeStones 44 = .ok (.istore 4, 2) := by decide +kernel
theorem dX9_takeStones_46 : decode cX9_takeStones 46 = .ok (.aload_n 0, 1) := by decide +kernel
theorem dX9_takeStones_47 : decode cX9_takeStones 47 = .ok (.bipush 115, 2) := by decide +kernel
theorem dX9_takeStones_49 : decode cX9_takeStones 49 = .ok (.iload_n 1, 1) := by decide +kernel
theorem dX9_takeStones_50 : decode cX9_takeStones 50 = .ok (.iload_n 2, 1) := by decide +kernel
theorem dX9_takeStones_51 : decode cX9_takeStones 51 = .ok (.iload_n 3, 1) := by decide +kernel
theorem dX9_takeStones_52 : decode cX9_takeStones 52 = .ok (.iload 4, 2) := by decide +kernel
theorem dX9_takeStones_54 : decode cX9_takeStones 54 = .ok (.invokevirtual 226, 3) := by decide +kernel
theorem dX9_takeStones_57 : decode cX9_takeStones 57 = .ok (.return_, 1) := by decide +kernel
theorem eX9_takeStones_0 {a : Option Nat} {l1 l2 l3 l4 : Option VV} {S : MM} : rn xX9_takeStones (0, [some (.inr (.inl a)), l1, l2, l3, l4], [], S) = rn xX9_takeStones (1, [some (.inr (.inl a)), l1, l2, l3, l4], [.inr (.inl a)], S) := rn_step dX9_takeStones_0 rfl rfl
theorem eX9_takeStones_1 {l0 l1 l2 l3 l4 : Option VV} {S : MM} : rn xX9_takeStones (1, [l0, l1, l2, l3, l4], [vR 593], S) = (fX9_takeKey [vR 593] S).bind (fun q => rn xX9_takeStones (4, [l0, l1, l2, l3, l4], q.1.toList ++ [], q.2)) := q_callV (n := 0) (as := []) (rest := []) dX9_takeStones_1 rfl rfl rfl rfl kd593
theorem eX9_takeStones_4 {a : Int} {w : Int} {l0 l2 l3 l4 : Option VV} {S : MM} : rn xX9_takeStones (4, [l0, some (vI w), l2, l3, l4], [vI a], S) = rn xX9_takeStones (5, [l0, some (vI w), some (vI a), l3, l4], [], S) := rn_step dX9_takeStones_4 rfl rfl
theorem eX9_takeStones_5 {a : Option Nat} {l1 l2 l3 l4 : Option VV} {S : MM} : rn xX9_takeStones (5, [some (.inr (.inl a)), l1, l2, l3, l4], [], S) = rn xX9_takeStones (6, [some (.inr (.inl a)), l1, l2, l3, l4], [.inr (.inl a)], S) := rn_step dX9_takeStones_5 rfl rfl
theorem eX9_takeStones_6 {l0 l1 l2 l3 l4 : Option VV} {v0 : VV} {S : MM} : rn xX9_takeStones (6, [l0, l1, l2, l3, l4], [v0], S) = rn xX9_takeStones (8, [l0, l1, l2, l3, l4], [vI 45, v0], S) := rn_step dX9_takeStones_6 rfl rfl
theorem eX9_takeStones_8 {a0 : Int} {l0 l1 l2 l3 l4 : Option VV} {S : MM} : rn xX9_takeStones (8, [l0, l1, l2, l3, l4], [vI a0, vR 593], S) = (fX9_takesIf [vR 593, vI a0] S).bind (fun q => rn xX9_takeStones (11, [l0, l1, l2, l3, l4], q.1.toList ++ [], q.2)) := q_callV (n := 1) (as := [vI a0]) (rest := []) dX9_takeStones_8 rfl rfl rfl rfl kd593
theorem eX9_takeStones_11 {a : Int} {l0 l1 l2 l3 l4 : Option VV} (h : -2147483648 ≤ a ∧ a ≤ 2147483647) {S : MM} : rn xX9_takeStones (11, [l0, l1, l2, l3, l4], [vI a], S) = if a = 0 then rn xX9_takeStones (21, [l0, l1, l2, l3, l4], [], S) else rn xX9_takeStones (14, [l0, l1, l2, l3, l4], [], S) := q_if_eq dX9_takeStones_11 (by decide) rfl h
theorem eX9_takeStones_14 {a : Option Nat} {l1 l2 l3 l4 : Option VV} {S : MM} : rn xX9_takeStones (14, [some (.inr (.inl a)), l1, l2, l3, l4], [], S) = rn xX9_takeStones (15, [some (.inr (.inl a)), l1, l2, l3, l4], [.inr (.inl a)], S) := rn_step dX9_takeStones_14 rfl rfl
theorem eX9_takeStones_15 {l0 l1 l2 l3 l4 : Option VV} {S : MM} : rn xX9_takeStones (15, [l0, l1, l2, l3, l4], [vR 593], S) = (fX9_takeKey [vR 593] S).bind (fun q => rn xX9_takeStones (18, [l0, l1, l2, l3, l4], q.1.toList ++ [], q.2)) := q_callV (n := 0) (as := []) (rest := []) dX9_takeStones_15 rfl rfl rfl rfl kd593
theorem eX9_takeStones_18 {l0 l1 l2 l3 l4 : Option VV} {v0 : VV} {S : MM} : rn xX9_takeStones (18, [l0, l1, l2, l3, l4], [v0], S) = rn xX9_takeStones (22, [l0, l1, l2, l3, l4], [v0], S) := rn_step dX9_takeStones_18 rfl rfl
theorem eX9_takeStones_21 {a : Int} {l0 l1 l3 l4 : Option VV} {S : MM} : rn xX9_takeStones (21, [l0, l1, some (vI a), l3, l4], [], S) = rn xX9_takeStones (22, [l0, l1, some (vI a), l3, l4], [vI a], S) := rn_step dX9_takeStones_21 rfl rfl
theorem eX9_takeStones_22 {a : Int} {w : Int} {l0 l1 l3 l4 : Option VV} {S : MM} : rn xX9_takeStones (22, [l0, l1, some (vI w), l3, l4], [vI a], S) = rn xX9_takeStones (23, [l0, l1, some (vI w), some (vI a), l4], [], S) := rn_step dX9_takeStones_22 rfl rfl
theorem eX9_takeStones_23 {a : Option Nat} {l1 l2 l3 l4 : Option VV} {S : MM} : rn xX9_takeStones (23, [some (.inr (.inl a)), l1, l2, l3, l4], [], S) = rn xX9_takeStones (24, [some (.inr (.inl a)), l1, l2, l3, l4], [.inr (.inl a)], S) := rn_step dX9_takeStones_23 rfl rfl
theorem eX9_takeStones_24 {l0 l1 l2 l3 l4 : Option VV} {v0 : VV} {S : MM} : rn xX9_takeStones (24, [l0, l1, l2, l3, l4], [v0], S) = rn xX9_takeStones (26, [l0, l1, l2, l3, l4], [vI 42, v0], S) := rn_step dX9_takeStones_24 rfl rfl
theorem eX9_takeStones_26 {a0 : Int} {l0 l1 l2 l3 l4 : Option VV} {S : MM} : rn xX9_takeStones (26, [l0, l1, l2, l3, l4], [vI a0, vR 593], S) = (fX9_takesIf [vR 593, vI a0] S).bind (fun q => rn xX9_takeStones (29, [l0, l1, l2, l3, l4], q.1.toList ++ [], q.2)) := q_callV (n := 1) (as := [vI a0]) (rest := []) dX9_takeStones_26 rfl rfl rfl rfl kd593
theorem eX9_takeStones_29 {a : Int} {l0 l1 l2 l3 l4 : Option VV} (h : -2147483648 ≤ a ∧ a ≤ 2147483647) {S : MM} : rn xX9_takeStones (29, [l0, l1, l2, l3, l4], [vI a], S) = if a = 0 then rn xX9_takeStones (43, [l0, l1, l2, l3, l4], [], S) else rn xX9_takeStones (32, [l0, l1, l2, l3, l4], [], S) := q_if_eq dX9_takeStones_29 (by decide) rfl h
theorem eX9_takeStones_32 {a : Option Nat} {l1 l2 l3 l4 : Option VV} {S : MM} : rn xX9_takeStones (32, [some (.inr (.inl a)), l1, l2, l3, l4], [], S) = rn xX9_takeStones (33, [some (.inr (.inl a)), l1, l2, l3, l4], [.inr (.inl a)], S) := rn_step dX9_takeStones_32 rfl rfl
theorem eX9_takeStones_33 {l0 l1 l2 l3 l4 : Option VV} {v0 : VV} {S : MM} : rn xX9_takeStones (33, [l0, l1, l2, l3, l4], [v0], S) = rn xX9_takeStones (35, [l0, l1, l2, l3, l4], [vI 49, v0], S) := rn_step dX9_takeStones_33 rfl rfl
theorem eX9_takeStones_35 {l0 l1 l2 l3 l4 : Option VV} {v0 v1 : VV} {S : MM} : rn xX9_takeStones (35, [l0, l1, l2, l3, l4], [v0, v1], S) = rn xX9_takeStones (37, [l0, l1, l2, l3, l4], [vI 57, v0, v1], S) := rn_step dX9_takeStones_35 rfl rfl
theorem eX9_takeStones_37 {a0 : Int} {a1 : Int} {l0 l1 l2 l3 l4 : Option VV} {S : MM} : rn xX9_takeStones (37, [l0, l1, l2, l3, l4], [vI a1, vI a0, vR 593], S) = (fX9_takeDigit [vR 593, vI a0, vI a1] S).bind (fun q => rn xX9_takeStones (40, [l0, l1, l2, l3, l4], q.1.toList ++ [], q.2)) := q_callV (n := 2) (as := [vI a0, vI a1]) (rest := []) dX9_takeStones_37 rfl rfl rfl rfl kd593
theorem eX9_takeStones_40 {l0 l1 l2 l3 l4 : Option VV} {v0 : VV} {S : MM} : rn xX9_takeStones (40, [l0, l1, l2, l3, l4], [v0], S) = rn xX9_takeStones (44, [l0, l1, l2, l3, l4], [v0], S) := rn_step dX9_takeStones_40 rfl rfl
theorem eX9_takeStones_43 {l0 l1 l2 l3 l4 : Option VV} {S : MM} : rn xX9_takeStones (43, [l0, l1, l2, l3, l4], [], S) = rn xX9_takeStones (44, [l0, l1, l2, l3, l4], [vI 1], S) := rn_step dX9_takeStones_43 rfl rfl
theorem eX9_takeStones_44 {a : Int} {w : Int} {l0 l1 l2 l4 : Option VV} {S : MM} : rn xX9_takeStones (44, [l0, l1, l2, some (vI w), l4], [vI a], S) = rn xX9_takeStones (46, [l0, l1, l2, some (vI w), some (vI a)], [], S) := rn_step dX9_takeStones_44 rfl rfl
theorem eX9_takeStones_46 {a : Option Nat} {l1 l2 l3 l4 : Option VV} {S : MM} : rn xX9_takeStones (46, [some (.inr (.inl a)), l1, l2, l3, l4], [], S) = rn xX9_takeStones (47, [some (.inr (.inl a)), l1, l2, l3, l4], [.inr (.inl a)], S) := rn_step dX9_takeStones_46 rfl rfl
theorem eX9_takeStones_47 {l0 l1 l2 l3 l4 : Option VV} {v0 : VV} {S : MM} : rn xX9_takeStones (47, [l0, l1, l2, l3, l4], [v0], S) = rn xX9_takeStones (49, [l0, l1, l2, l3, l4], [vI 115, v0], S) := rn_step dX9_takeStones_47 rfl rfl
theorem eX9_takeStones_49 {a : Int} {l0 l2 l3 l4 : Option VV} {v0 v1 : VV} {S : MM} : rn xX9_takeStones (49, [l0, some (vI a), l2, l3, l4], [v0, v1], S) = rn xX9_takeStones (50, [l0, some (vI a), l2, l3, l4], [vI a, v0, v1], S) := rn_step dX9_takeStones_49 rfl rfl
theorem eX9_takeStones_50 {a : Int} {l0 l1 l3 l4 : Option VV} {v0 v1 v2 : VV} {S : MM} : rn xX9_takeStones (50, [l0, l1, some (vI a), l3, l4], [v0, v1, v2], S) = rn xX9_takeStones (51, [l0, l1, some (vI a), l3, l4], [vI a, v0, v1, v2], S) := rn_step dX9_takeStones_50 rfl rfl
theorem eX9_takeStones_51 {a : Int} {l0 l1 l2 l4 : Option VV} {v0 v1 v2 v3 : VV} {S : MM} : rn xX9_takeStones (51, [l0, l1, l2, some (vI a), l4], [v0, v1, v2, v3], S) = rn xX9_takeStones (52, [l0, l1, l2, some (vI a), l4], [vI a, v0, v1, v2, v3], S) := rn_step dX9_takeStones_51 rfl rfl
theorem eX9_takeStones_52 {a : Int} {l0 l1 l2 l3 : Option VV} {v0 v1 v2 v3 v4 : VV} {S : MM} : rn xX9_takeStones (52, [l0, l1, l2, l3, some (vI a)], [v0, v1, v2, v3, v4], S) = rn xX9_takeStones (54, [l0, l1, l2, l3, some (vI a)], [vI a, v0, v1, v2, v3, v4], S) := rn_step dX9_takeStones_52 rfl rfl
theorem eX9_takeStones_54 {a0 : Int} {a1 : Int} {a2 : Int} {a3 : Int} {a4 : Int} {l0 l1 l2 l3 l4 : Option VV} {S : MM} : rn xX9_takeStones (54, [l0, l1, l2, l3, l4], [vI a4, vI a3, vI a2, vI a1, vI a0, vR 593], S) = (fX9_enter [vR 593, vI a0, vI a1, vI a2, vI a3, vI a4] S).bind (fun q => rn xX9_takeStones (57, [l0, l1, l2, l3, l4], q.1.toList ++ [], q.2)) := q_callV (n := 5) (as := [vI a0, vI a1, vI a2, vI a3, vI a4]) (rest := []) dX9_takeStones_54 rfl rfl rfl rfl kd593
theorem eX9_takeStones_57 {l0 l1 l2 l3 l4 : Option VV} {S : MM} : rn xX9_takeStones (57, [l0, l1, l2, l3, l4], [], S) = some (none, S) := q_retV dX9_takeStones_57 rfl
noncomputable def qlX9_takeLaying : List CE := [(0, 211, 9, 3, fX9_takeDigit), (0, 230, 9, 2, fX9_takeSign), (0, 233, 9, 2, fX9_takeStones), (0, 223, 9, 2, fX9_takesIf)]
noncomputable def xX9_takeLaying : XX := (cX9_takeLaying, fcF fcl9, mcF qlX9_takeLaying, 0)
noncomputable def fX9_takeLaying : FN := fnX xX9_takeLaying 2
set_option maxRecDepth 100000 in
theorem cwX9_takeLaying : Cond.code yX9_takeLaying cX9_takeLaying 2 none ∈ lw_g := lw_gm 1231 (by decide +kernel) (by decide +kernel)
set_option maxRecDepth 100000 in
theorem conX9_takeLaying : Con yX9_takeLaying cX9_takeLaying 2 none { frames := 4, cells := 0, slots := 0, locals := 90 } fX9_takeLaying := con_of (X := xX9_takeLaying) (own := "LeapStonesModel") (ql := qlX9_takeLaying) (by decide) rfl FOK9 rfl (List.forall_mem_cons.mpr ⟨call_V conX9_takeDigit cwX9_takeDigit (lw_gl _ [1212, 1214, 65, 84] (by decide +kernel) (by decide +kernel)) (by decide) rfl ⟨by decide, by decide, by decide +kernel⟩ ⟨rfl, rfl⟩ ⟨by decide, by decide⟩ ⟨Nat.le_refl _, Nat.le_refl _⟩, List.forall_mem_cons.mpr ⟨call_V conX9_takeSign cwX9_takeSign (lw_gl _ [1216, 1218, 66, 84] (by decide +kernel) (by decide +kernel)) (by decide) rfl ⟨by decide, by decide, by decide +kernel⟩ ⟨rfl, rfl⟩ ⟨by decide, by decide⟩ ⟨Nat.le_refl _, Nat.le_refl _⟩, List.forall_mem_cons.mpr ⟨call_V conX9_takeStones cwX9_takeStones (lw_gl _ [1232, 1234, 70, 84] (by decide +kernel) (by decide +kernel)) (by decide) rfl ⟨by decide, by decide, by decide +kernel⟩ ⟨rfl, rfl⟩ ⟨by decide, by decide⟩ ⟨Nat.le_refl _, Nat.le_refl _⟩, List.forall_mem_cons.mpr ⟨call_V conX9_takesIf cwX9_takesIf (lw_gl _ [1208, 1210, 64, 84] (by decide +kernel) (by decide +kernel)) (by decide) rfl ⟨by decide, by decide, by decide +kernel⟩ ⟨rfl, rfl⟩ ⟨by decide, by decide⟩ ⟨Nat.le_refl _, Nat.le_refl _⟩, fun _ h => absurd h List.not_mem_nil⟩⟩⟩⟩) (Or.inl ⟨rfl, rfl⟩)
theorem uX9_takeLaying {i : Nat} {S : MM} : fX9_takeLaying [vR i] S = rn xX9_takeLaying (0, [some (vR i), none], [], S) := rfl
theorem dX9_takeLaying_0 : decode cX9_takeLaying 0 = .ok (.aload_n 0, 1) := by decide +kernel
theorem dX9_takeLaying_1 : decode cX9_takeLaying 1 = .ok (.bipush 48, 2) := by decide +kernel
theorem dX9_takeLaying_3 : decode cX9_takeLaying 3 = .ok (.bipush 50, 2) := by decide +kernel
theorem dX9_takeLaying_5 : decode cX9_takeLaying 5 = .ok (.invokevirtual 211, 3) := by decide +kernel
theorem dX9_takeLaying_8 : decode cX9_takeLaying 8 = .ok (.istore_n 1, 1) := by decide +kernel
theorem dX9_takeLaying_9 : decode cX9_takeLaying 9 = .ok (.aload_n 0, 1) := by decide +kernel
theorem dX9_takeLaying_10 : decode cX9_takeLaying 10 = .ok (.bipush 58, 2) := by decide +kernel
theorem dX9_takeLaying_12 : decode cX9_takeLaying 12 = .ok (.invokevirtual 230, 3) := by decide +kernel
theorem dX9_takeLaying_15 : decode cX9_takeLaying 15 = .ok (.aload_n 0, 1) := by decide +kernel
theorem dX9_takeLaying_16 : decode cX9_takeLaying 16 = .ok (.iload_n 1, 1) := by decide +kernel
theorem dX9_takeLaying_17 : decode cX9_takeLaying 17 = .ok (.invokevirtual 233, 3) := by decide +kernel
theorem dX9_takeLaying_20 : decode cX9_takeLaying 20 = .ok (.aload_n 0, 1) := by decide +kernel
theorem dX9_takeLaying_21 : decode cX9_takeLaying 21 = .ok (.bipush 44, 2) := by decide +kernel
theorem dX9_takeLaying_23 : decode cX9_takeLaying 23 = .ok (.invokevirtual 223, 3) := by decide +kernel
theorem dX9_takeLaying_26 : decode cX9_takeLaying 26 = .ok (.ifCond .eq 11, 3) := by decide +kernel
theorem dX9_takeLaying_29 : decode cX9_takeLaying 29 = .ok (.aload_n 0, 1) := by decide +kernel
theorem dX9_takeLaying_30 : decode cX9_takeLaying 30 = .ok (.iload_n 1, 1) := by decide +kernel
theorem dX9_takeLaying_31 : decode cX9_takeLaying 31 = .ok (.invokevirtual 233, 3) := by decide +kernel
theorem dX9_takeLaying_34 : decode cX9_takeLaying 34 = .ok (.goto (-14), 3) := by decide +kernel
theorem dX9_takeLaying_37 : decode cX9_takeLaying 37 = .ok (.return_, 1) := by decide +kernel
theorem eX9_takeLaying_0 {a : Option Nat} {l1 : Option VV} {S : MM} : rn xX9_takeLaying (0, [some (.inr (.inl a)), l1], [], S) = rn xX9_takeLaying (1, [some (.inr (.inl a)), l1], [.inr (.inl a)], S) := rn_step dX9_takeLaying_0 rfl rfl
theorem eX9_takeLaying_1 {l0 l1 : Option VV} {v0 : VV} {S : MM} : rn xX9_takeLaying (1, [l0, l1], [v0], S) = rn xX9_takeLaying (3, [l0, l1], [vI 48, v0], S) := rn_step dX9_takeLaying_1 rfl rfl
theorem eX9_takeLaying_3 {l0 l1 : Option VV} {v0 v1 : VV} {S : MM} : rn xX9_takeLaying (3, [l0, l1], [v0, v1], S) = rn xX9_takeLaying (5, [l0, l1], [vI 50, v0, v1], S) := rn_step dX9_takeLaying_3 rfl rfl
theorem eX9_takeLaying_5 {a0 : Int} {a1 : Int} {l0 l1 : Option VV} {S : MM} : rn xX9_takeLaying (5, [l0, l1], [vI a1, vI a0, vR 593], S) = (fX9_takeDigit [vR 593, vI a0, vI a1] S).bind (fun q => rn xX9_takeLaying (8, [l0, l1], q.1.toList ++ [], q.2)) := q_callV (n := 2) (as := [vI a0, vI a1]) (rest := []) dX9_takeLaying_5 rfl rfl rfl rfl kd593
theorem eX9_takeLaying_8 {a : Int} {w : Option Nat} {l1 : Option VV} {S : MM} : rn xX9_takeLaying (8, [some (.inr (.inl w)), l1], [vI a], S) = rn xX9_takeLaying (9, [some (.inr (.inl w)), some (vI a)], [], S) := rn_step dX9_takeLaying_8 rfl rfl
theorem eX9_takeLaying_9 {a : Option Nat} {l1 : Option VV} {S : MM} : rn xX9_takeLaying (9, [some (.inr (.inl a)), l1], [], S) = rn xX9_takeLaying (10, [some (.inr (.inl a)), l1], [.inr (.inl a)], S) := rn_step dX9_takeLaying_9 rfl rfl
theorem eX9_takeLaying_10 {l0 l1 : Option VV} {v0 : VV} {S : MM} : rn xX9_takeLaying (10, [l0, l1], [v0], S) = rn xX9_takeLaying (12, [l0, l1], [vI 58, v0], S) := rn_step dX9_takeLaying_10 rfl rfl
theorem eX9_takeLaying_12 {a0 : Int} {l0 l1 : Option VV} {S : MM} : rn xX9_takeLaying (12, [l0, l1], [vI a0, vR 593], S) = (fX9_takeSign [vR 593, vI a0] S).bind (fun q => rn xX9_takeLaying (15, [l0, l1], q.1.toList ++ [], q.2)) := q_callV (n := 1) (as := [vI a0]) (rest := []) dX9_takeLaying_12 rfl rfl rfl rfl kd593
theorem eX9_takeLaying_15 {a : Option Nat} {l1 : Option VV} {S : MM} : rn xX9_takeLaying (15, [some (.inr (.inl a)), l1], [], S) = rn xX9_takeLaying (16, [some (.inr (.inl a)), l1], [.inr (.inl a)], S) := rn_step dX9_takeLaying_15 rfl rfl
theorem eX9_takeLaying_16 {a : Int} {l0 : Option VV} {v0 : VV} {S : MM} : rn xX9_takeLaying (16, [l0, some (vI a)], [v0], S) = rn xX9_takeLaying (17, [l0, some (vI a)], [vI a, v0], S) := rn_step dX9_takeLaying_16 rfl rfl
theorem eX9_takeLaying_17 {a0 : Int} {l0 l1 : Option VV} {S : MM} : rn xX9_takeLaying (17, [l0, l1], [vI a0, vR 593], S) = (fX9_takeStones [vR 593, vI a0] S).bind (fun q => rn xX9_takeLaying (20, [l0, l1], q.1.toList ++ [], q.2)) := q_callV (n := 1) (as := [vI a0]) (rest := []) dX9_takeLaying_17 rfl rfl rfl rfl kd593
theorem eX9_takeLaying_20 {a : Option Nat} {l1 : Option VV} {S : MM} : rn xX9_takeLaying (20, [some (.inr (.inl a)), l1], [], S) = rn xX9_takeLaying (21, [some (.inr (.inl a)), l1], [.inr (.inl a)], S) := rn_step dX9_takeLaying_20 rfl rfl
theorem eX9_takeLaying_21 {l0 l1 : Option VV} {v0 : VV} {S : MM} : rn xX9_takeLaying (21, [l0, l1], [v0], S) = rn xX9_takeLaying (23, [l0, l1], [vI 44, v0], S) := rn_step dX9_takeLaying_21 rfl rfl
theorem eX9_takeLaying_23 {a0 : Int} {l0 l1 : Option VV} {S : MM} : rn xX9_takeLaying (23, [l0, l1], [vI a0, vR 593], S) = (fX9_takesIf [vR 593, vI a0] S).bind (fun q => rn xX9_takeLaying (26, [l0, l1], q.1.toList ++ [], q.2)) := q_callV (n := 1) (as := [vI a0]) (rest := []) dX9_takeLaying_23 rfl rfl rfl rfl kd593
theorem eX9_takeLaying_26 {a : Int} {l0 l1 : Option VV} (h : -2147483648 ≤ a ∧ a ≤ 2147483647) {S : MM} : rn xX9_takeLaying (26, [l0, l1], [vI a], S) = if a = 0 then rn xX9_takeLaying (37, [l0, l1], [], S) else rn xX9_takeLaying (29, [l0, l1], [], S) := q_if_eq dX9_takeLaying_26 (by decide) rfl h
theorem eX9_takeLaying_29 {a : Option Nat} {l1 : Option VV} {S : MM} : rn xX9_takeLaying (29, [some (.inr (.inl a)), l1], [], S) = rn xX9_takeLaying (30, [some (.inr (.inl a)), l1], [.inr (.inl a)], S) := rn_step dX9_takeLaying_29 rfl rfl
theorem eX9_takeLaying_30 {a : Int} {l0 : Option VV} {v0 : VV} {S : MM} : rn xX9_takeLaying (30, [l0, some (vI a)], [v0], S) = rn xX9_takeLaying (31, [l0, some (vI a)], [vI a, v0], S) := rn_step dX9_takeLaying_30 rfl rfl
theorem eX9_takeLaying_31 {a0 : Int} {l0 l1 : Option VV} {S : MM} : rn xX9_takeLaying (31, [l0, l1], [vI a0, vR 593], S) = (fX9_takeStones [vR 593, vI a0] S).bind (fun q => rn xX9_takeLaying (34, [l0, l1], q.1.toList ++ [], q.2)) := q_callV (n := 1) (as := [vI a0]) (rest := []) dX9_takeLaying_31 rfl rfl rfl rfl kd593
theorem eX9_takeLaying_34 {l0 l1 : Option VV} {S : MM} : rn xX9_takeLaying (34, [l0, l1], [], S) = rn xX9_takeLaying (20, [l0, l1], [], S) := rn_step dX9_takeLaying_34 rfl rfl
theorem eX9_takeLaying_37 {l0 l1 : Option VV} {S : MM} : rn xX9_takeLaying (37, [l0, l1], [], S) = some (none, S) := q_retV dX9_takeLaying_37 rfl
noncomputable def qlX9_takeFlood : List CE := [(0, 223, 9, 2, fX9_takesIf), (0, 211, 9, 3, fX9_takeDigit), (0, 230, 9, 2, fX9_takeSign), (0, 220, 9, 1, fX9_takeKey), (0, 226, 9, 6, fX9_enter)]
noncomputable def xX9_takeFlood : XX := (cX9_takeFlood, fcF fcl9, mcF qlX9_takeFlood, 0)
noncomputable def fX9_takeFlood : FN := fnX xX9_takeFlood 4
set_option maxRecDepth 100000 in
theorem cwX9_takeFlood : Cond.code yX9_takeFlood cX9_takeFlood 4 none ∈ lw_g := lw_gm 1207 (by decide +kernel) (by decide +kernel)
set_option maxRecDepth 100000 in
theorem conX9_takeFlood : Con yX9_takeFlood cX9_takeFlood 4 none { frames := 3, cells := 0, slots := 0, locals := 66 } fX9_takeFlood := con_of (X := xX9_takeFlood) (own := "LeapStonesModel") (ql := qlX9_takeFlood) (by decide) rfl FOK9 rfl (List.forall_mem_cons.mpr ⟨call_V conX9_takesIf cwX9_takesIf (lw_gl _ [1208, 1210, 64, 84] (by decide +kernel) (by decide +kernel)) (by decide) rfl ⟨by decide, by decide, by decide +kernel⟩ ⟨rfl, rfl⟩ ⟨by decide, by decide⟩ ⟨Nat.le_refl _, Nat.le_refl _⟩, List.forall_mem_cons.mpr ⟨call_V conX9_takeDigit cwX9_takeDigit (lw_gl _ [1212, 1214, 65, 84] (by decide +kernel) (by decide +kernel)) (by decide) rfl ⟨by decide, by decide, by decide +kernel⟩ ⟨rfl, rfl⟩ ⟨by decide, by decide⟩ ⟨Nat.le_refl _, Nat.le_refl _⟩, List.forall_mem_cons.mpr ⟨call_V conX9_takeSign cwX9_takeSign (lw_gl _ [1216, 1218, 66, 84] (by decide +kernel) (by decide +kernel)) (by decide) rfl ⟨by decide, by decide, by decide +kernel⟩ ⟨rfl, rfl⟩ ⟨by decide, by decide⟩ ⟨Nat.le_refl _, Nat.le_refl _⟩, List.forall_mem_cons.mpr ⟨call_V conX9_takeKey cwX9_takeKey (lw_gl _ [1220, 1222, 67, 84] (by decide +kernel) (by decide +kernel)) (by decide) rfl ⟨by decide, by decide, by decide +kernel⟩ ⟨rfl, rfl⟩ ⟨by decide, by decide⟩ ⟨Nat.le_refl _, Nat.le_refl _⟩, List.forall_mem_cons.mpr ⟨call_V conX9_enter cwX9_enter (lw_gl _ [1224, 1226, 68, 84] (by decide +kernel) (by decide +kernel)) (by decide) rfl ⟨by decide, by decide, by decide +kernel⟩ ⟨rfl, rfl⟩ ⟨by decide, by decide⟩ ⟨Nat.le_refl _, Nat.le_refl _⟩, fun _ h => absurd h List.not_mem_nil⟩⟩⟩⟩⟩) (Or.inl ⟨rfl, rfl⟩)
theorem uX9_takeFlood {i : Nat} {S : MM} : fX9_takeFlood [vR i] S = rn xX9_takeFlood (0, [some (vR i), none, none, none], [], S) := rfl
theorem dX9_takeFlood_0 : decode cX9_takeFlood 0 = .ok (.aload_n 0, 1) := by decide +kernel
theorem dX9_takeFlood_1 : decode cX9_takeFlood 1 = .ok (.bipush 42, 2) := by decide +kernel
theorem dX9_takeFlood_3 : decode cX9_takeFlood 3 = .ok (.invokevirtual 223, 3) := by decide +kernel
theorem dX9_takeFlood_6 : decode cX9_takeFlood 6 = .ok (.ifCond .eq 8, 3) := by decide +kernel
theorem dX9_takeFlood_9 : decode cX9_takeFlood 9 = .ok (.bipush (-6), 2) := by decide +kernel
theorem dX9_takeFlood_11 : decode cX9_takeFlood 11 = .ok (.goto 11, 3) := by decide +kernel
theorem dX9_takeFlood_14 : decode cX9_takeFlood 14 = .ok (.aload_n 0, 1) := by decide +kernel
theorem dX9_takeFlood_15 : decode cX9_takeFlood 15 = .ok (.bipush 48, 2) := by decide +kernel
theorem dX9_takeFlood_17 : decode cX9_takeFlood 17 = .ok (.bipush 50, 2) := by decide +kernel
theorem dX9_takeFlood_19 : decode cX9_takeFlood 19 = .ok (.invokevirtual 211, 3) := by decide +kernel
theorem dX9_takeFlood_22 : decode cX9_takeFlood 22 = .ok (.istore_n 1, 1) := by decide +kernel
theorem dX9_takeFlood_23 : decode cX9_takeFlood 23 = .ok (.aload_n 0, 1) := by decide +kernel
theorem dX9_takeFlood_24 : decode cX9_takeFlood 24 = .ok (.bipush 58, 2) := by decide +kernel
theorem dX9_takeFlood_26 : decode cX9_takeFlood 26 = .ok (.invokevirtual 230, 3) := by decide +kernel
theorem dX9_takeFlood_29 : decode cX9_takeFlood 29 = .ok (.aload_n 0, 1) := by decide +kernel
theorem dX9_takeFlood_30 : decode cX9_takeFlood 30 = .ok (.invokevirtual 220, 3) := by decide +kernel
theorem dX9_takeFlood_33 : decode cX9_takeFlood 33 = .ok (.istore_n 2, 1) := by decide +kernel
theorem dX9_takeFlood_34 : decode cX9_takeFlood 34 = .ok (.aload_n 0, 1) := by decide +kernel
theorem dX9_takeFlood_35 : decode cX9_takeFlood 35 = .ok (.bipush 45, 2) := by decide +kernel
theorem dX9_takeFlood_37 : decode cX9_takeFlood 37 = .ok (.invokevirtual 230, 3) := by decide +kernel
theorem dX9_takeFlood_40 : decode cX9_takeFlood 40 = .ok (.aload_n 0, 1) := by decide +kernel
theorem dX9_takeFlood_41 : decode cX9_takeFlood 41 = .ok (.invokevirtual 220, 3) := by decide +kernel
theorem dX9_takeFlood_44 : decode cX9_takeFlood 44 = .ok (.istore_n 3, 1) := by decide +kernel
theorem dX9_takeFlood_45 : decode cX9_takeFlood 45 = .ok (.aload_n 0, 1) := by decide +kernel
theorem dX9_takeFlood_46 : decode cX9_takeFlood 46 = .ok (.bipush 102, 2) := by decide +kernel
theorem dX9_takeFlood_48 : decode cX9_takeFlood 48 = .ok (.iload_n 1, 1) := by decide +kernel
theorem dX9_takeFlood_49 : decode cX9_takeFlood 49 = .ok (.iload_n 2, 1) := by decide +kernel
theorem dX9_takeFlood_50 : decode cX9_takeFlood 50 = .ok (.iload_n 3, 1) := by decide +kernel
theorem dX9_takeFlood_51 : decode cX9_takeFlood 51 = .ok (.iconst 0, 1) := by decide +kernel
theorem dX9_takeFlood_52 : decode cX9_takeFlood 52 = .ok (.invokevirtual 226, 3) := by decide +kernel
theorem dX9_takeFlood_55 : decode cX9_takeFlood 55 = .ok (.return_, 1) := by decide +kernel
theorem eX9_takeFlood_0 {a : Option Nat} {l1 l2 l3 : Option VV} {S : MM} : rn xX9_takeFlood (0, [some (.inr (.inl a)), l1, l2, l3], [], S) = rn xX9_takeFlood (1, [some (.inr (.inl a)), l1, l2, l3], [.inr (.inl a)], S) := rn_step dX9_takeFlood_0 rfl rfl
theorem eX9_takeFlood_1 {l0 l1 l2 l3 : Option VV} {v0 : VV} {S : MM} : rn xX9_takeFlood (1, [l0, l1, l2, l3], [v0], S) = rn xX9_takeFlood (3, [l0, l1, l2, l3], [vI 42, v0], S) := rn_step dX9_takeFlood_1 rfl rfl
theorem eX9_takeFlood_3 {a0 : Int} {l0 l1 l2 l3 : Option VV} {S : MM} : rn xX9_takeFlood (3, [l0, l1, l2, l3], [vI a0, vR 593], S) = (fX9_takesIf [vR 593, vI a0] S).bind (fun q => rn xX9_takeFlood (6, [l0, l1, l2, l3], q.1.toList ++ [], q.2)) := q_callV (n := 1) (as := [vI a0]) (rest := []) dX9_takeFlood_3 rfl rfl rfl rfl kd593
theorem eX9_takeFlood_6 {a : Int} {l0 l1 l2 l3 : Option VV} (h : -2147483648 ≤ a ∧ a ≤ 2147483647) {S : MM} : rn xX9_takeFlood (6, [l0, l1, l2, l3], [vI a], S) = if a = 0 then rn xX9_takeFlood (14, [l0, l1, l2, l3], [], S) else rn xX9_takeFlood (9, [l0, l1, l2, l3], [], S) := q_if_eq dX9_takeFlood_6 (by decide) rfl h
theorem eX9_takeFlood_9 {l0 l1 l2 l3 : Option VV} {S : MM} : rn xX9_takeFlood (9, [l0, l1, l2, l3], [], S) = rn xX9_takeFlood (11, [l0, l1, l2, l3], [vI (-6)], S) := rn_step dX9_takeFlood_9 rfl rfl
theorem eX9_takeFlood_11 {l0 l1 l2 l3 : Option VV} {v0 : VV} {S : MM} : rn xX9_takeFlood (11, [l0, l1, l2, l3], [v0], S) = rn xX9_takeFlood (22, [l0, l1, l2, l3], [v0], S) := rn_step dX9_takeFlood_11 rfl rfl
theorem eX9_takeFlood_14 {a : Option Nat} {l1 l2 l3 : Option VV} {S : MM} : rn xX9_takeFlood (14, [some (.inr (.inl a)), l1, l2, l3], [], S) = rn xX9_takeFlood (15, [some (.inr (.inl a)), l1, l2, l3], [.inr (.inl a)], S) := rn_step dX9_takeFlood_14 rfl rfl
theorem eX9_takeFlood_15 {l0 l1 l2 l3 : Option VV} {v0 : VV} {S : MM} : rn xX9_takeFlood (15, [l0, l1, l2, l3], [v0], S) = rn xX9_takeFlood (17, [l0, l1, l2, l3], [vI 48, v0], S) := rn_step dX9_takeFlood_15 rfl rfl
theorem eX9_takeFlood_17 {l0 l1 l2 l3 : Option VV} {v0 v1 : VV} {S : MM} : rn xX9_takeFlood (17, [l0, l1, l2, l3], [v0, v1], S) = rn xX9_takeFlood (19, [l0, l1, l2, l3], [vI 50, v0, v1], S) := rn_step dX9_takeFlood_17 rfl rfl
theorem eX9_takeFlood_19 {a0 : Int} {a1 : Int} {l0 l1 l2 l3 : Option VV} {S : MM} : rn xX9_takeFlood (19, [l0, l1, l2, l3], [vI a1, vI a0, vR 593], S) = (fX9_takeDigit [vR 593, vI a0, vI a1] S).bind (fun q => rn xX9_takeFlood (22, [l0, l1, l2, l3], q.1.toList ++ [], q.2)) := q_callV (n := 2) (as := [vI a0, vI a1]) (rest := []) dX9_takeFlood_19 rfl rfl rfl rfl kd593
theorem eX9_takeFlood_22 {a : Int} {w : Option Nat} {l1 l2 l3 : Option VV} {S : MM} : rn xX9_takeFlood (22, [some (.inr (.inl w)), l1, l2, l3], [vI a], S) = rn xX9_takeFlood (23, [some (.inr (.inl w)), some (vI a), l2, l3], [], S) := rn_step dX9_takeFlood_22 rfl rfl
theorem eX9_takeFlood_23 {a : Option Nat} {l1 l2 l3 : Option VV} {S : MM} : rn xX9_takeFlood (23, [some (.inr (.inl a)), l1, l2, l3], [], S) = rn xX9_takeFlood (24, [some (.inr (.inl a)), l1, l2, l3], [.inr (.inl a)], S) := rn_step dX9_takeFlood_23 rfl rfl
theorem eX9_takeFlood_24 {l0 l1 l2 l3 : Option VV} {v0 : VV} {S : MM} : rn xX9_takeFlood (24, [l0, l1, l2, l3], [v0], S) = rn xX9_takeFlood (26, [l0, l1, l2, l3], [vI 58, v0], S) := rn_step dX9_takeFlood_24 rfl rfl
theorem eX9_takeFlood_26 {a0 : Int} {l0 l1 l2 l3 : Option VV} {S : MM} : rn xX9_takeFlood (26, [l0, l1, l2, l3], [vI a0, vR 593], S) = (fX9_takeSign [vR 593, vI a0] S).bind (fun q => rn xX9_takeFlood (29, [l0, l1, l2, l3], q.1.toList ++ [], q.2)) := q_callV (n := 1) (as := [vI a0]) (rest := []) dX9_takeFlood_26 rfl rfl rfl rfl kd593
theorem eX9_takeFlood_29 {a : Option Nat} {l1 l2 l3 : Option VV} {S : MM} : rn xX9_takeFlood (29, [some (.inr (.inl a)), l1, l2, l3], [], S) = rn xX9_takeFlood (30, [some (.inr (.inl a)), l1, l2, l3], [.inr (.inl a)], S) := rn_step dX9_takeFlood_29 rfl rfl
theorem eX9_takeFlood_30 {l0 l1 l2 l3 : Option VV} {S : MM} : rn xX9_takeFlood (30, [l0, l1, l2, l3], [vR 593], S) = (fX9_takeKey [vR 593] S).bind (fun q => rn xX9_takeFlood (33, [l0, l1, l2, l3], q.1.toList ++ [], q.2)) := q_callV (n := 0) (as := []) (rest := []) dX9_takeFlood_30 rfl rfl rfl rfl kd593
theorem eX9_takeFlood_33 {a : Int} {w : Int} {l0 l2 l3 : Option VV} {S : MM} : rn xX9_takeFlood (33, [l0, some (vI w), l2, l3], [vI a], S) = rn xX9_takeFlood (34, [l0, some (vI w), some (vI a), l3], [], S) := rn_step dX9_takeFlood_33 rfl rfl
theorem eX9_takeFlood_34 {a : Option Nat} {l1 l2 l3 : Option VV} {S : MM} : rn xX9_takeFlood (34, [some (.inr (.inl a)), l1, l2, l3], [], S) = rn xX9_takeFlood (35, [some (.inr (.inl a)), l1, l2, l3], [.inr (.inl a)], S) := rn_step dX9_takeFlood_34 rfl rfl
theorem eX9_takeFlood_35 {l0 l1 l2 l3 : Option VV} {v0 : VV} {S : MM} : rn xX9_takeFlood (35, [l0, l1, l2, l3], [v0], S) = rn xX9_takeFlood (37, [l0, l1, l2, l3], [vI 45, v0], S) := rn_step dX9_takeFlood_35 rfl rfl
theorem eX9_takeFlood_37 {a0 : Int} {l0 l1 l2 l3 : Option VV} {S : MM} : rn xX9_takeFlood (37, [l0, l1, l2, l3], [vI a0, vR 593], S) = (fX9_takeSign [vR 593, vI a0] S).bind (fun q => rn xX9_takeFlood (40, [l0, l1, l2, l3], q.1.toList ++ [], q.2)) := q_callV (n := 1) (as := [vI a0]) (rest := []) dX9_takeFlood_37 rfl rfl rfl rfl kd593
theorem eX9_takeFlood_40 {a : Option Nat} {l1 l2 l3 : Option VV} {S : MM} : rn xX9_takeFlood (40, [some (.inr (.inl a)), l1, l2, l3], [], S) = rn xX9_takeFlood (41, [some (.inr (.inl a)), l1, l2, l3], [.inr (.inl a)], S) := rn_step dX9_takeFlood_40 rfl rfl
theorem eX9_takeFlood_41 {l0 l1 l2 l3 : Option VV} {S : MM} : rn xX9_takeFlood (41, [l0, l1, l2, l3], [vR 593], S) = (fX9_takeKey [vR 593] S).bind (fun q => rn xX9_takeFlood (44, [l0, l1, l2, l3], q.1.toList ++ [], q.2)) := q_callV (n := 0) (as := []) (rest := []) dX9_takeFlood_41 rfl rfl rfl rfl kd593
theorem eX9_takeFlood_44 {a : Int} {w : Int} {l0 l1 l3 : Option VV} {S : MM} : rn xX9_takeFlood (44, [l0, l1, some (vI w), l3], [vI a], S) = rn xX9_takeFlood (45, [l0, l1, some (vI w), some (vI a)], [], S) := rn_step dX9_takeFlood_44 rfl rfl
theorem eX9_takeFlood_45 {a : Option Nat} {l1 l2 l3 : Option VV} {S : MM} : rn xX9_takeFlood (45, [some (.inr (.inl a)), l1, l2, l3], [], S) = rn xX9_takeFlood (46, [some (.inr (.inl a)), l1, l2, l3], [.inr (.inl a)], S) := rn_step dX9_takeFlood_45 rfl rfl
theorem eX9_takeFlood_46 {l0 l1 l2 l3 : Option VV} {v0 : VV} {S : MM} : rn xX9_takeFlood (46, [l0, l1, l2, l3], [v0], S) = rn xX9_takeFlood (48, [l0, l1, l2, l3], [vI 102, v0], S) := rn_step dX9_takeFlood_46 rfl rfl
theorem eX9_takeFlood_48 {a : Int} {l0 l2 l3 : Option VV} {v0 v1 : VV} {S : MM} : rn xX9_takeFlood (48, [l0, some (vI a), l2, l3], [v0, v1], S) = rn xX9_takeFlood (49, [l0, some (vI a), l2, l3], [vI a, v0, v1], S) := rn_step dX9_takeFlood_48 rfl rfl
theorem eX9_takeFlood_49 {a : Int} {l0 l1 l3 : Option VV} {v0 v1 v2 : VV} {S : MM} : rn xX9_takeFlood (49, [l0, l1, some (vI a), l3], [v0, v1, v2], S) = rn xX9_takeFlood (50, [l0, l1, some (vI a), l3], [vI a, v0, v1, v2], S) := rn_step dX9_takeFlood_49 rfl rfl
theorem eX9_takeFlood_50 {a : Int} {l0 l1 l2 : Option VV} {v0 v1 v2 v3 : VV} {S : MM} : rn xX9_takeFlood (50, [l0, l1, l2, some (vI a)], [v0, v1, v2, v3], S) = rn xX9_takeFlood (51, [l0, l1, l2, some (vI a)], [vI a, v0, v1, v2, v3], S) := rn_step dX9_takeFlood_50 rfl rfl
theorem eX9_takeFlood_51 {l0 l1 l2 l3 : Option VV} {v0 v1 v2 v3 v4 : VV} {S : MM} : rn xX9_takeFlood (51, [l0, l1, l2, l3], [v0, v1, v2, v3, v4], S) = rn xX9_takeFlood (52, [l0, l1, l2, l3], [vI 0, v0, v1, v2, v3, v4], S) := rn_step dX9_takeFlood_51 rfl rfl
theorem eX9_takeFlood_52 {a0 : Int} {a1 : Int} {a2 : Int} {a3 : Int} {a4 : Int} {l0 l1 l2 l3 : Option VV} {S : MM} : rn xX9_takeFlood (52, [l0, l1, l2, l3], [vI a4, vI a3, vI a2, vI a1, vI a0, vR 593], S) = (fX9_enter [vR 593, vI a0, vI a1, vI a2, vI a3, vI a4] S).bind (fun q => rn xX9_takeFlood (55, [l0, l1, l2, l3], q.1.toList ++ [], q.2)) := q_callV (n := 5) (as := [vI a0, vI a1, vI a2, vI a3, vI a4]) (rest := []) dX9_takeFlood_52 rfl rfl rfl rfl kd593
theorem eX9_takeFlood_55 {l0 l1 l2 l3 : Option VV} {S : MM} : rn xX9_takeFlood (55, [l0, l1, l2, l3], [], S) = some (none, S) := q_retV dX9_takeFlood_55 rfl
noncomputable def qlX9_takeOrder : List CE := [(0, 208, 9, 1, fX9_next), (0, 236, 9, 1, fX9_takeFlood), (0, 226, 9, 6, fX9_enter), (0, 239, 9, 1, fX9_takeLaying)]
noncomputable def xX9_takeOrder : XX := (cX9_takeOrder, fcF fcl9, mcF qlX9_takeOrder, 0)
noncomputable def fX9_takeOrder : FN := fnX xX9_takeOrder 2
set_option maxRecDepth 100000 in
theorem cwX9_takeOrder : Cond.code yX9_takeOrder cX9_takeOrder 2 none ∈ lw_g := lw_gm 1199 (by decide +kernel) (by decide +kernel)
set_option maxRecDepth 100000 in
theorem conX9_takeOrder : Con yX9_takeOrder cX9_takeOrder 2 none { frames := 5, cells := 0, slots := 0, locals := 111 } fX9_takeOrder := con_of (X := xX9_takeOrder) (own := "LeapStonesModel") (ql := qlX9_takeOrder) (by decide) rfl FOK9 rfl (List.forall_mem_cons.mpr ⟨call_V conX9_next cwX9_next (lw_gl _ [1200, 1202, 62, 84] (by decide +kernel) (by decide +kernel)) (by decide) rfl ⟨by decide, by decide, by decide +kernel⟩ ⟨rfl, rfl⟩ ⟨by decide, by decide⟩ ⟨Nat.le_refl _, Nat.le_refl _⟩, List.forall_mem_cons.mpr ⟨call_V conX9_takeFlood cwX9_takeFlood (lw_gl _ [1204, 1206, 63, 84] (by decide +kernel) (by decide +kernel)) (by decide) rfl ⟨by decide, by decide, by decide +kernel⟩ ⟨rfl, rfl⟩ ⟨by decide, by decide⟩ ⟨Nat.le_refl _, Nat.le_refl _⟩, List.forall_mem_cons.mpr ⟨call_V conX9_enter cwX9_enter (lw_gl _ [1224, 1226, 68, 84] (by decide +kernel) (by decide +kernel)) (by decide) rfl ⟨by decide, by decide, by decide +kernel⟩ ⟨rfl, rfl⟩ ⟨by decide, by decide⟩ ⟨Nat.le_refl _, Nat.le_refl _⟩, List.forall_mem_cons.mpr ⟨call_V conX9_takeLaying cwX9_takeLaying (lw_gl _ [1228, 1230, 69, 84] (by decide +kernel) (by decide +kernel)) (by decide) rfl ⟨by decide, by decide, by decide +kernel⟩ ⟨rfl, rfl⟩ ⟨by decide, by decide⟩ ⟨Nat.le_refl _, Nat.le_refl _⟩, fun _ h => absurd h List.not_mem_nil⟩⟩⟩⟩) (Or.inl ⟨rfl, rfl⟩)
theorem uX9_takeOrder {i : Nat} {S : MM} : fX9_takeOrder [vR i] S = rn xX9_takeOrder (0, [some (vR i), none], [], S) := rfl
theorem dX9_takeOrder_0 : decode cX9_takeOrder 0 = .ok (.aload_n 0, 1) := by decide +kernel
theorem dX9_takeOrder_1 : decode cX9_takeOrder 1 = .ok (.invokevirtual 208, 3) := by decide +kernel
theorem dX9_takeOrder_4 : decode cX9_takeOrder 4 = .ok (.istore_n 1, 1) := by decide +kernel
theorem dX9_takeOrder_5 : decode cX9_takeOrder 5 = .ok (.iload_n 1, 1) := by decide +kernel
theorem dX9_takeOrder_6 : decode cX9_takeOrder 6 = .ok (.bipush 102, 2) := by decide +kernel
theorem dX9_takeOrder_8 : decode cX9_takeOrder 8 = .ok (.if_icmp .ne 20, 3) := by decide +kernel
theorem dX9_takeOrder_11 : decode cX9_takeOrder 11 = .ok (.aload_n 0, 1) := by decide +kernel
theorem dX9_takeOrder_12 : decode cX9_takeOrder 12 = .ok (.dup, 1) := by decide +kernel
theorem dX9_takeOrder_13 : decode cX9_takeOrder 13 = .ok (.getfield 201, 3) := by decide +kernel
theorem dX9_takeOrder_16 : decode cX9_takeOrder 16 = .ok (.iconst 1, 1) := by decide +kernel
theorem dX9_takeOrder_17 : decode cX9_takeOrder 17 = .ok (.iadd, 1) := by decide +kernel
theorem dX9_takeOrder_18 : decode cX9_takeOrder 18 = .ok (.putfield 201, 3) := by decide +kernel
theorem dX9_takeOrder_21 : decode cX9_takeOrder 21 = .ok (.aload_n 0, 1) := by decide +kernel
theorem dX9_takeOrder_22 : decode cX9_takeOrder 22 = .ok (.invokevirtual 236, 3) := by decide +kernel
theorem dX9_takeOrder_25 : decode cX9_takeOrder 25 = .ok (.goto 47, 3) := by decide +kernel
theorem dX9_takeOrder_28 : decode cX9_takeOrder 28 = .ok (.iload_n 1, 1) := by decide +kernel
theorem dX9_takeOrder_29 : decode cX9_takeOrder 29 = .ok (.bipush 100, 2) := by decide +kernel
theorem dX9_takeOrder_31 : decode cX9_takeOrder 31 = .ok (.if_icmp .eq 15, 3) := by decide +kernel
theorem dX9_takeOrder_34 : decode cX9_takeOrder 34 = .ok (.iload_n 1, 1) := by decide +kernel
theorem dX9_takeOrder_35 : decode cX9_takeOrder 35 = .ok (.bipush 103, 2) := by decide +kernel
theorem dX9_takeOrder_37 : decode cX9_takeOrder 37 = .ok (.if_icmp .eq 9, 3) := by decide +kernel
theorem dX9_takeOrder_40 : decode cX9_takeOrder 40 = .ok (.iload_n 1, 1) := by decide +kernel
theorem dX9_takeOrder_41 : decode cX9_takeOrder 41 = .ok (.bipush 108, 2) := by decide +kernel
theorem dX9_takeOrder_43 : decode cX9_takeOrder 43 = .ok (.if_icmp .ne 25, 3) := by decide +kernel
theorem dX9_takeOrder_46 : decode cX9_takeOrder 46 = .ok (.aload_n 0, 1) := by decide +kernel
theorem dX9_takeOrder_47 : decode cX9_takeOrder 47 = .ok (.dup, 1) := by decide +kernel
theorem dX9_takeOrder_48 : decode cX9_takeOrder 48 = .ok (.getfield 201, 3) := by decide +kernel
theorem dX9_takeOrder_51 : decode cX9_takeOrder 51 = .ok (.iconst 1, 1) := by decide +kernel
theorem dX9_takeOrder_52 : decode cX9_takeOrder 52 = .ok (.iadd, 1) := by decide +kernel
theorem dX9_takeOrder_53 : decode cX9_takeOrder 53 = .ok (.putfield 201, 3) := by decide +kernel
theorem dX9_takeOrder_56 : decode cX9_takeOrder 56 = .ok (.aload_n 0, 1) := by decide +kernel
theorem dX9_takeOrder_57 : decode cX9_takeOrder 57 = .ok (.iload_n 1, 1) := by decide +kernel
theorem dX9_takeOrder_58 : decode cX9_takeOrder 58 = .ok (.iconst 0, 1) := by decide +kernel
theorem dX9_takeOrder_59 : decode cX9_takeOrder 59 = .ok (.iconst 0, 1) := by decide +kernel
theorem dX9_takeOrder_60 : decode cX9_takeOrder 60 = .ok (.iconst 0, 1) := by decide +kernel
theorem dX9_takeOrder_61 : decode cX9_takeOrder 61 = .ok (.iconst 0, 1) := by decide +kernel
theorem dX9_takeOrder_62 : decode cX9_takeOrder 62 = .ok (.invokevirtual 226, 3) := by decide +kernel
theorem dX9_takeOrder_65 : decode cX9_takeOrder 65 = .ok (.goto 7, 3) := by decide +kernel
theorem dX9_takeOrder_68 : decode cX9_takeOrder 68 = .ok (.aload_n 0, 1) := by decide +kernel
theorem dX9_takeOrder_69 : decode cX9_takeOrder 69 = .ok (.invokevirtual 239, 3) := by decide +kernel
theorem dX9_takeOrder_72 : decode cX9_takeOrder 72 = .ok (.aload_n 0, 1) := by decide +kernel
theorem dX9_takeOrder_73 : decode cX9_takeOrder 73 = .ok (.dup, 1) := by decide +kernel
theorem dX9_takeOrder_74 : decode cX9_takeOrder 74 = .ok (.getfield 217, 3) := by decide +kernel
theorem dX9_takeOrder_77 : decode cX9_takeOrder 77 = .ok (.iconst 1, 1) := by decide +kernel
theorem dX9_takeOrder_78 : decode cX9_takeOrder 78 = .ok (.iadd, 1) := by decide +kernel
theorem dX9_takeOrder_79 : decode cX9_takeOrder 79 = .ok (.putfield 217, 3) := by decide +kernel
theorem dX9_takeOrder_82 : decode cX9_takeOrder 82 = .ok (.return_, 1) := by decide +kernel
theorem eX9_takeOrder_0 {a : Option Nat} {l1 : Option VV} {S : MM} : rn xX9_takeOrder (0, [some (.inr (.inl a)), l1], [], S) = rn xX9_takeOrder (1, [some (.inr (.inl a)), l1], [.inr (.inl a)], S) := rn_step dX9_takeOrder_0 rfl rfl
theorem eX9_takeOrder_1 {l0 l1 : Option VV} {S : MM} : rn xX9_takeOrder (1, [l0, l1], [vR 593], S) = (fX9_next [vR 593] S).bind (fun q => rn xX9_takeOrder (4, [l0, l1], q.1.toList ++ [], q.2)) := q_callV (n := 0) (as := []) (rest := []) dX9_takeOrder_1 rfl rfl rfl rfl kd593
theorem eX9_takeOrder_4 {a : Int} {w : Option Nat} {l1 : Option VV} {S : MM} : rn xX9_takeOrder (4, [some (.inr (.inl w)), l1], [vI a], S) = rn xX9_takeOrder (5, [some (.inr (.inl w)), some (vI a)], [], S) := rn_step dX9_takeOrder_4 rfl rfl
theorem eX9_takeOrder_5 {a : Int} {l0 : Option VV} {S : MM} : rn xX9_takeOrder (5, [l0, some (vI a)], [], S) = rn xX9_takeOrder (6, [l0, some (vI a)], [vI a], S) := rn_step dX9_takeOrder_5 rfl rfl
theorem eX9_takeOrder_6 {l0 l1 : Option VV} {v0 : VV} {S : MM} : rn xX9_takeOrder (6, [l0, l1], [v0], S) = rn xX9_takeOrder (8, [l0, l1], [vI 102, v0], S) := rn_step dX9_takeOrder_6 rfl rfl
theorem eX9_takeOrder_8 {a b : Int} {l0 l1 : Option VV} (h : -2147483648 ≤ a ∧ a ≤ 2147483647) (h1 : -2147483648 ≤ b ∧ b ≤ 2147483647) {S : MM} : rn xX9_takeOrder (8, [l0, l1], [vI b, vI a], S) = if a = b then rn xX9_takeOrder (11, [l0, l1], [], S) else rn xX9_takeOrder (28, [l0, l1], [], S) := q_icmp_ne dX9_takeOrder_8 (by decide) rfl h h1
theorem eX9_takeOrder_11 {a : Option Nat} {l1 : Option VV} {S : MM} : rn xX9_takeOrder (11, [some (.inr (.inl a)), l1], [], S) = rn xX9_takeOrder (12, [some (.inr (.inl a)), l1], [.inr (.inl a)], S) := rn_step dX9_takeOrder_11 rfl rfl
theorem eX9_takeOrder_12 {a : Option Nat} {l0 l1 : Option VV} {S : MM} : rn xX9_takeOrder (12, [l0, l1], [.inr (.inl a)], S) = rn xX9_takeOrder (13, [l0, l1], [.inr (.inl a), .inr (.inl a)], S) := rn_step dX9_takeOrder_12 rfl rfl
theorem eX9_takeOrder_13 {l0 l1 : Option VV} {v1 : VV} {S : MM} : rn xX9_takeOrder (13, [l0, l1], [vR 593, v1], S) = rn xX9_takeOrder (16, [l0, l1], [vI (S 593 12), v1], S) := q_getI dX9_takeOrder_13 rfl ⟨⟨by decide, by decide⟩, by decide⟩ kd593
theorem eX9_takeOrder_16 {l0 l1 : Option VV} {v0 v1 : VV} {S : MM} : rn xX9_takeOrder (16, [l0, l1], [v0, v1], S) = rn xX9_takeOrder (17, [l0, l1], [vI 1, v0, v1], S) := rn_step dX9_takeOrder_16 rfl rfl
theorem eX9_takeOrder_17 {a b : Int} {l0 l1 : Option VV} {v2 : VV} {S : MM} : rn xX9_takeOrder (17, [l0, l1], [vI b, vI a, v2], S) = rn xX9_takeOrder (18, [l0, l1], [vI (a + b), v2], S) := rn_step dX9_takeOrder_17 rfl rfl
theorem eX9_takeOrder_18 {z : Int} {l0 l1 : Option VV} {S : MM} : rn xX9_takeOrder (18, [l0, l1], [vI z, vR 593], S) = rn xX9_takeOrder (21, [l0, l1], [], updM S 593 12 z) := q_put dX9_takeOrder_18 rfl ⟨by decide, by decide⟩ rfl kd593
theorem eX9_takeOrder_21 {a : Option Nat} {l1 : Option VV} {S : MM} : rn xX9_takeOrder (21, [some (.inr (.inl a)), l1], [], S) = rn xX9_takeOrder (22, [some (.inr (.inl a)), l1], [.inr (.inl a)], S) := rn_step dX9_takeOrder_21 rfl rfl
theorem eX9_takeOrder_22 {l0 l1 : Option VV} {S : MM} : rn xX9_takeOrder (22, [l0, l1], [vR 593], S) = (fX9_takeFlood [vR 593] S).bind (fun q => rn xX9_takeOrder (25, [l0, l1], q.1.toList ++ [], q.2)) := q_callV (n := 0) (as := []) (rest := []) dX9_takeOrder_22 rfl rfl rfl rfl kd593
theorem eX9_takeOrder_25 {l0 l1 : Option VV} {S : MM} : rn xX9_takeOrder (25, [l0, l1], [], S) = rn xX9_takeOrder (72, [l0, l1], [], S) := rn_step dX9_takeOrder_25 rfl rfl
theorem eX9_takeOrder_28 {a : Int} {l0 : Option VV} {S : MM} : rn xX9_takeOrder (28, [l0, some (vI a)], [], S) = rn xX9_takeOrder (29, [l0, some (vI a)], [vI a], S) := rn_step dX9_takeOrder_28 rfl rfl
theorem eX9_takeOrder_29 {l0 l1 : Option VV} {v0 : VV} {S : MM} : rn xX9_takeOrder (29, [l0, l1], [v0], S) = rn xX9_takeOrder (31, [l0, l1], [vI 100, v0], S) := rn_step dX9_takeOrder_29 rfl rfl
theorem eX9_takeOrder_31 {a b : Int} {l0 l1 : Option VV} (h : -2147483648 ≤ a ∧ a ≤ 2147483647) (h1 : -2147483648 ≤ b ∧ b ≤ 2147483647) {S : MM} : rn xX9_takeOrder (31, [l0, l1], [vI b, vI a], S) = if a = b then rn xX9_takeOrder (46, [l0, l1], [], S) else rn xX9_takeOrder (34, [l0, l1], [], S) := q_icmp_eq dX9_takeOrder_31 (by decide) rfl h h1
theorem eX9_takeOrder_34 {a : Int} {l0 : Option VV} {S : MM} : rn xX9_takeOrder (34, [l0, some (vI a)], [], S) = rn xX9_takeOrder (35, [l0, some (vI a)], [vI a], S) := rn_step dX9_takeOrder_34 rfl rfl
theorem eX9_takeOrder_35 {l0 l1 : Option VV} {v0 : VV} {S : MM} : rn xX9_takeOrder (35, [l0, l1], [v0], S) = rn xX9_takeOrder (37, [l0, l1], [vI 103, v0], S) := rn_step dX9_takeOrder_35 rfl rfl
theorem eX9_takeOrder_37 {a b : Int} {l0 l1 : Option VV} (h : -2147483648 ≤ a ∧ a ≤ 2147483647) (h1 : -2147483648 ≤ b ∧ b ≤ 2147483647) {S : MM} : rn xX9_takeOrder (37, [l0, l1], [vI b, vI a], S) = if a = b then rn xX9_takeOrder (46, [l0, l1], [], S) else rn xX9_takeOrder (40, [l0, l1], [], S) := q_icmp_eq dX9_takeOrder_37 (by decide) rfl h h1
theorem eX9_takeOrder_40 {a : Int} {l0 : Option VV} {S : MM} : rn xX9_takeOrder (40, [l0, some (vI a)], [], S) = rn xX9_takeOrder (41, [l0, some (vI a)], [vI a], S) := rn_step dX9_takeOrder_40 rfl rfl
theorem eX9_takeOrder_41 {l0 l1 : Option VV} {v0 : VV} {S : MM} : rn xX9_takeOrder (41, [l0, l1], [v0], S) = rn xX9_takeOrder (43, [l0, l1], [vI 108, v0], S) := rn_step dX9_takeOrder_41 rfl rfl
theorem eX9_takeOrder_43 {a b : Int} {l0 l1 : Option VV} (h : -2147483648 ≤ a ∧ a ≤ 2147483647) (h1 : -2147483648 ≤ b ∧ b ≤ 2147483647) {S : MM} : rn xX9_takeOrder (43, [l0, l1], [vI b, vI a], S) = if a = b then rn xX9_takeOrder (46, [l0, l1], [], S) else rn xX9_takeOrder (68, [l0, l1], [], S) := q_icmp_ne dX9_takeOrder_43 (by decide) rfl h h1
theorem eX9_takeOrder_46 {a : Option Nat} {l1 : Option VV} {S : MM} : rn xX9_takeOrder (46, [some (.inr (.inl a)), l1], [], S) = rn xX9_takeOrder (47, [some (.inr (.inl a)), l1], [.inr (.inl a)], S) := rn_step dX9_takeOrder_46 rfl rfl
theorem eX9_takeOrder_47 {a : Option Nat} {l0 l1 : Option VV} {S : MM} : rn xX9_takeOrder (47, [l0, l1], [.inr (.inl a)], S) = rn xX9_takeOrder (48, [l0, l1], [.inr (.inl a), .inr (.inl a)], S) := rn_step dX9_takeOrder_47 rfl rfl
theorem eX9_takeOrder_48 {l0 l1 : Option VV} {v1 : VV} {S : MM} : rn xX9_takeOrder (48, [l0, l1], [vR 593, v1], S) = rn xX9_takeOrder (51, [l0, l1], [vI (S 593 12), v1], S) := q_getI dX9_takeOrder_48 rfl ⟨⟨by decide, by decide⟩, by decide⟩ kd593
theorem eX9_takeOrder_51 {l0 l1 : Option VV} {v0 v1 : VV} {S : MM} : rn xX9_takeOrder (51, [l0, l1], [v0, v1], S) = rn xX9_takeOrder (52, [l0, l1], [vI 1, v0, v1], S) := rn_step dX9_takeOrder_51 rfl rfl
theorem eX9_takeOrder_52 {a b : Int} {l0 l1 : Option VV} {v2 : VV} {S : MM} : rn xX9_takeOrder (52, [l0, l1], [vI b, vI a, v2], S) = rn xX9_takeOrder (53, [l0, l1], [vI (a + b), v2], S) := rn_step dX9_takeOrder_52 rfl rfl
theorem eX9_takeOrder_53 {z : Int} {l0 l1 : Option VV} {S : MM} : rn xX9_takeOrder (53, [l0, l1], [vI z, vR 593], S) = rn xX9_takeOrder (56, [l0, l1], [], updM S 593 12 z) := q_put dX9_takeOrder_53 rfl ⟨by decide, by decide⟩ rfl kd593
theorem eX9_takeOrder_56 {a : Option Nat} {l1 : Option VV} {S : MM} : rn xX9_takeOrder (56, [some (.inr (.inl a)), l1], [], S) = rn xX9_takeOrder (57, [some (.inr (.inl a)), l1], [.inr (.inl a)], S) := rn_step dX9_takeOrder_56 rfl rfl
theorem eX9_takeOrder_57 {a : Int} {l0 : Option VV} {v0 : VV} {S : MM} : rn xX9_takeOrder (57, [l0, some (vI a)], [v0], S) = rn xX9_takeOrder (58, [l0, some (vI a)], [vI a, v0], S) := rn_step dX9_takeOrder_57 rfl rfl
theorem eX9_takeOrder_58 {l0 l1 : Option VV} {v0 v1 : VV} {S : MM} : rn xX9_takeOrder (58, [l0, l1], [v0, v1], S) = rn xX9_takeOrder (59, [l0, l1], [vI 0, v0, v1], S) := rn_step dX9_takeOrder_58 rfl rfl
theorem eX9_takeOrder_59 {l0 l1 : Option VV} {v0 v1 v2 : VV} {S : MM} : rn xX9_takeOrder (59, [l0, l1], [v0, v1, v2], S) = rn xX9_takeOrder (60, [l0, l1], [vI 0, v0, v1, v2], S) := rn_step dX9_takeOrder_59 rfl rfl
theorem eX9_takeOrder_60 {l0 l1 : Option VV} {v0 v1 v2 v3 : VV} {S : MM} : rn xX9_takeOrder (60, [l0, l1], [v0, v1, v2, v3], S) = rn xX9_takeOrder (61, [l0, l1], [vI 0, v0, v1, v2, v3], S) := rn_step dX9_takeOrder_60 rfl rfl
theorem eX9_takeOrder_61 {l0 l1 : Option VV} {v0 v1 v2 v3 v4 : VV} {S : MM} : rn xX9_takeOrder (61, [l0, l1], [v0, v1, v2, v3, v4], S) = rn xX9_takeOrder (62, [l0, l1], [vI 0, v0, v1, v2, v3, v4], S) := rn_step dX9_takeOrder_61 rfl rfl
theorem eX9_takeOrder_62 {a0 : Int} {a1 : Int} {a2 : Int} {a3 : Int} {a4 : Int} {l0 l1 : Option VV} {S : MM} : rn xX9_takeOrder (62, [l0, l1], [vI a4, vI a3, vI a2, vI a1, vI a0, vR 593], S) = (fX9_enter [vR 593, vI a0, vI a1, vI a2, vI a3, vI a4] S).bind (fun q => rn xX9_takeOrder (65, [l0, l1], q.1.toList ++ [], q.2)) := q_callV (n := 5) (as := [vI a0, vI a1, vI a2, vI a3, vI a4]) (rest := []) dX9_takeOrder_62 rfl rfl rfl rfl kd593
theorem eX9_takeOrder_65 {l0 l1 : Option VV} {S : MM} : rn xX9_takeOrder (65, [l0, l1], [], S) = rn xX9_takeOrder (72, [l0, l1], [], S) := rn_step dX9_takeOrder_65 rfl rfl
theorem eX9_takeOrder_68 {a : Option Nat} {l1 : Option VV} {S : MM} : rn xX9_takeOrder (68, [some (.inr (.inl a)), l1], [], S) = rn xX9_takeOrder (69, [some (.inr (.inl a)), l1], [.inr (.inl a)], S) := rn_step dX9_takeOrder_68 rfl rfl
theorem eX9_takeOrder_69 {l0 l1 : Option VV} {S : MM} : rn xX9_takeOrder (69, [l0, l1], [vR 593], S) = (fX9_takeLaying [vR 593] S).bind (fun q => rn xX9_takeOrder (72, [l0, l1], q.1.toList ++ [], q.2)) := q_callV (n := 0) (as := []) (rest := []) dX9_takeOrder_69 rfl rfl rfl rfl kd593
theorem eX9_takeOrder_72 {a : Option Nat} {l1 : Option VV} {S : MM} : rn xX9_takeOrder (72, [some (.inr (.inl a)), l1], [], S) = rn xX9_takeOrder (73, [some (.inr (.inl a)), l1], [.inr (.inl a)], S) := rn_step dX9_takeOrder_72 rfl rfl
theorem eX9_takeOrder_73 {a : Option Nat} {l0 l1 : Option VV} {S : MM} : rn xX9_takeOrder (73, [l0, l1], [.inr (.inl a)], S) = rn xX9_takeOrder (74, [l0, l1], [.inr (.inl a), .inr (.inl a)], S) := rn_step dX9_takeOrder_73 rfl rfl
theorem eX9_takeOrder_74 {l0 l1 : Option VV} {v1 : VV} {S : MM} : rn xX9_takeOrder (74, [l0, l1], [vR 593, v1], S) = rn xX9_takeOrder (77, [l0, l1], [vI (S 593 14), v1], S) := q_getI dX9_takeOrder_74 rfl ⟨⟨by decide, by decide⟩, by decide⟩ kd593
theorem eX9_takeOrder_77 {l0 l1 : Option VV} {v0 v1 : VV} {S : MM} : rn xX9_takeOrder (77, [l0, l1], [v0, v1], S) = rn xX9_takeOrder (78, [l0, l1], [vI 1, v0, v1], S) := rn_step dX9_takeOrder_77 rfl rfl
theorem eX9_takeOrder_78 {a b : Int} {l0 l1 : Option VV} {v2 : VV} {S : MM} : rn xX9_takeOrder (78, [l0, l1], [vI b, vI a, v2], S) = rn xX9_takeOrder (79, [l0, l1], [vI (a + b), v2], S) := rn_step dX9_takeOrder_78 rfl rfl
theorem eX9_takeOrder_79 {z : Int} {l0 l1 : Option VV} {S : MM} : rn xX9_takeOrder (79, [l0, l1], [vI z, vR 593], S) = rn xX9_takeOrder (82, [l0, l1], [], updM S 593 14 z) := q_put dX9_takeOrder_79 rfl ⟨by decide, by decide⟩ rfl kd593
theorem eX9_takeOrder_82 {l0 l1 : Option VV} {S : MM} : rn xX9_takeOrder (82, [l0, l1], [], S) = some (none, S) := q_retV dX9_takeOrder_82 rfl
noncomputable def qlX9_fault : List CE := [(0, 242, 9, 1, fX9_takeOrder), (0, 230, 9, 2, fX9_takeSign)]
noncomputable def xX9_fault : XX := (cX9_fault, fcF fcl9, mcF qlX9_fault, 1)
noncomputable def fX9_fault : FN := fnX xX9_fault 1
set_option maxRecDepth 100000 in
theorem cwX9_fault : Cond.code yX9_fault cX9_fault 1 (some .int) ∈ lw_g := lw_gm 1195 (by decide +kernel) (by decide +kernel)
set_option maxRecDepth 100000 in
theorem conX9_fault : Con yX9_fault cX9_fault 1 (some .int) { frames := 6, cells := 0, slots := 0, locals := 132 } fX9_fault := con_of (X := xX9_fault) (own := "LeapStonesModel") (ql := qlX9_fault) (by decide) rfl FOK9 rfl (List.forall_mem_cons.mpr ⟨call_V conX9_takeOrder cwX9_takeOrder (lw_gl _ [1196, 1198, 61, 84] (by decide +kernel) (by decide +kernel)) (by decide) rfl ⟨by decide, by decide, by decide +kernel⟩ ⟨rfl, rfl⟩ ⟨by decide, by decide⟩ ⟨Nat.le_refl _, Nat.le_refl _⟩, List.forall_mem_cons.mpr ⟨call_V conX9_takeSign cwX9_takeSign (lw_gl _ [1216, 1218, 66, 84] (by decide +kernel) (by decide +kernel)) (by decide) rfl ⟨by decide, by decide, by decide +kernel⟩ ⟨rfl, rfl⟩ ⟨by decide, by decide⟩ ⟨Nat.le_refl _, Nat.le_refl _⟩, fun _ h => absurd h List.not_mem_nil⟩⟩) (Or.inr (Or.inl ⟨rfl, rfl⟩))
theorem uX9_fault {i : Nat} {S : MM} : fX9_fault [vR i] S = rn xX9_fault (0, [some (vR i)], [], S) := rfl
theorem dX9_fault_0 : decode cX9_fault 0 = .ok (.aload_n 0, 1) := by decide +kernel
theorem dX9_fault_1 : decode cX9_fault 1 = .ok (.iconst 0, 1) := by decide +kernel
theorem dX9_fault_2 : decode cX9_fault 2 = .ok (.putfield 201, 3) := by decide +kernel
theorem dX9_fault_5 : decode cX9_fault 5 = .ok (.aload_n 0, 1) := by decide +kernel
theorem dX9_fault_6 : decode cX9_fault 6 = .ok (.iconst 0, 1) := by decide +kernel
theorem dX9_fault_7 : decode cX9_fault 7 = .ok (.putfield 204, 3) := by decide +kernel
theorem dX9_fault_10 : decode cX9_fault 10 = .ok (.aload_n 0, 1) := by decide +kernel
theorem dX9_fault_11 : decode cX9_fault 11 = .ok (.iconst 0, 1) := by decide +kernel
theorem dX9_fault_12 : decode cX9_fault 12 = .ok (.putfield 217, 3) := by decide +kernel
theorem dX9_fault_15 : decode cX9_fault 15 = .ok (.aload_n 0, 1) := by decide +kernel
theorem dX9_fault_16 : decode cX9_fault 16 = .ok (.iconst 0, 1) := by decide +kernel
theorem dX9_fault_17 : decode cX9_fault 17 = .ok (.putfield 214, 3) := by decide +kernel
theorem dX9_fault_20 : decode cX9_fault 20 = .ok (.aload_n 0, 1) := by decide +kernel
theorem dX9_fault_21 : decode cX9_fault 21 = .ok (.invokevirtual 242, 3) := by decide +kernel
theorem dX9_fault_24 : decode cX9_fault 24 = .ok (.aload_n 0, 1) := by decide +kernel
theorem dX9_fault_25 : decode cX9_fault 25 = .ok (.getfield 204, 3) := by decide +kernel
theorem dX9_fault_28 : decode cX9_fault 28 = .ok (.ifCond .ne 34, 3) := by decide +kernel
theorem dX9_fault_31 : decode cX9_fault 31 = .ok (.aload_n 0, 1) := by decide +kernel
theorem dX9_fault_32 : decode cX9_fault 32 = .ok (.getfield 201, 3) := by decide +kernel
theorem dX9_fault_35 : decode cX9_fault 35 = .ok (.aload_n 0, 1) := by decide +kernel
theorem dX9_fault_36 : decode cX9_fault 36 = .ok (.getfield 184, 3) := by decide +kernel
theorem dX9_fault_39 : decode cX9_fault 39 = .ok (.if_icmp .ge 23, 3) := by decide +kernel
theorem dX9_fault_42 : decode cX9_fault 42 = .ok (.aload_n 0, 1) := by decide +kernel
theorem dX9_fault_43 : decode cX9_fault 43 = .ok (.bipush 59, 2) := by decide +kernel
theorem dX9_fault_45 : decode cX9_fault 45 = .ok (.invokevirtual 230, 3) := by decide +kernel
theorem dX9_fault_48 : decode cX9_fault 48 = .ok (.aload_n 0, 1) := by decide +kernel
theorem dX9_fault_49 : decode cX9_fault 49 = .ok (.getfield 204, 3) := by decide +kernel
theorem dX9_fault_52 : decode cX9_fault 52 = .ok (.ifCond .ne (-28), 3) := by decide +kernel
theorem dX9_fault_55 : decode cX9_fault 55 = .ok (.aload_n 0, 1) := by decide +kernel
theorem dX9_fault_56 : decode cX9_fault 56 = .ok (.invokevirtual 242, 3) := by decide +kernel
theorem dX9_fault_59 : decode cX9_fault 59 = .ok (.goto (-35), 3) := by decide +kernel
theorem dX9_fault_62 : decode cX9_fault 62 = .ok (.aload_n 0, 1) := by decide +kernel
theorem dX9_fault_63 : decode cX9_fault 63 = .ok (.getfield 204, 3) := by decide +kernel
theorem dX9_fault_66 : decode cX9_fault 66 = .ok (.ifCond .eq 10, 3) := by decide +kernel
theorem dX9_fault_69 : decode cX9_fault 69 = .ok (.aload_n 0, 1) := by decide +kernel
theorem dX9_fault_70 : decode cX9_fault 70 = .ok (.getfield 201, 3) := by decide +kernel
theorem dX9_fault_73 : decode cX9_fault 73 = .ok (.goto 5, 3) := by decide +kernel
theorem dX9_fault_76 : decode cX9_fault 76 = .ok (.bipush (-6), 2) := by decide +kernel
theorem dX9_fault_78 : decode cX9_fault 78 = .ok (.ireturn, 1) := by decide +kernel
theorem eX9_fault_0 {a : Option Nat} {S : MM} : rn xX9_fault (0, [some (.inr (.inl a))], [], S) = rn xX9_fault (1, [some (.inr (.inl a))], [.inr (.inl a)], S) := rn_step dX9_fault_0 rfl rfl
theorem eX9_fault_1 {l0 : Option VV} {v0 : VV} {S : MM} : rn xX9_fault (1, [l0], [v0], S) = rn xX9_fault (2, [l0], [vI 0, v0], S) := rn_step dX9_fault_1 rfl rfl
theorem eX9_fault_2 {z : Int} {l0 : Option VV} {S : MM} : rn xX9_fault (2, [l0], [vI z, vR 593], S) = rn xX9_fault (5, [l0], [], updM S 593 12 z) := q_put dX9_fault_2 rfl ⟨by decide, by decide⟩ rfl kd593
theorem eX9_fault_5 {a : Option Nat} {S : MM} : rn xX9_fault (5, [some (.inr (.inl a))], [], S) = rn xX9_fault (6, [some (.inr (.inl a))], [.inr (.inl a)], S) := rn_step dX9_fault_5 rfl rfl
theorem eX9_fault_6 {l0 : Option VV} {v0 : VV} {S : MM} : rn xX9_fault (6, [l0], [v0], S) = rn xX9_fault (7, [l0], [vI 0, v0], S) := rn_step dX9_fault_6 rfl rfl
theorem eX9_fault_7 {z : Int} {l0 : Option VV} (hz : z = 0 ∨ z = 1) {S : MM} : rn xX9_fault (7, [l0], [vI z, vR 593], S) = rn xX9_fault (10, [l0], [], updM S 593 13 z) := q_put dX9_fault_7 rfl ⟨by decide, by decide⟩ (fit1 hz) kd593
theorem eX9_fault_10 {a : Option Nat} {S : MM} : rn xX9_fault (10, [some (.inr (.inl a))], [], S) = rn xX9_fault (11, [some (.inr (.inl a))], [.inr (.inl a)], S) := rn_step dX9_fault_10 rfl rfl
theorem eX9_fault_11 {l0 : Option VV} {v0 : VV} {S : MM} : rn xX9_fault (11, [l0], [v0], S) = rn xX9_fault (12, [l0], [vI 0, v0], S) := rn_step dX9_fault_11 rfl rfl
theorem eX9_fault_12 {z : Int} {l0 : Option VV} {S : MM} : rn xX9_fault (12, [l0], [vI z, vR 593], S) = rn xX9_fault (15, [l0], [], updM S 593 14 z) := q_put dX9_fault_12 rfl ⟨by decide, by decide⟩ rfl kd593
theorem eX9_fault_15 {a : Option Nat} {S : MM} : rn xX9_fault (15, [some (.inr (.inl a))], [], S) = rn xX9_fault (16, [some (.inr (.inl a))], [.inr (.inl a)], S) := rn_step dX9_fault_15 rfl rfl
theorem eX9_fault_16 {l0 : Option VV} {v0 : VV} {S : MM} : rn xX9_fault (16, [l0], [v0], S) = rn xX9_fault (17, [l0], [vI 0, v0], S) := rn_step dX9_fault_16 rfl rfl
theorem eX9_fault_17 {z : Int} {l0 : Option VV} {S : MM} : rn xX9_fault (17, [l0], [vI z, vR 593], S) = rn xX9_fault (20, [l0], [], updM S 593 15 z) := q_put dX9_fault_17 rfl ⟨by decide, by decide⟩ rfl kd593
theorem eX9_fault_20 {a : Option Nat} {S : MM} : rn xX9_fault (20, [some (.inr (.inl a))], [], S) = rn xX9_fault (21, [some (.inr (.inl a))], [.inr (.inl a)], S) := rn_step dX9_fault_20 rfl rfl
theorem eX9_fault_21 {l0 : Option VV} {S : MM} : rn xX9_fault (21, [l0], [vR 593], S) = (fX9_takeOrder [vR 593] S).bind (fun q => rn xX9_fault (24, [l0], q.1.toList ++ [], q.2)) := q_callV (n := 0) (as := []) (rest := []) dX9_fault_21 rfl rfl rfl rfl kd593
theorem eX9_fault_24 {a : Option Nat} {S : MM} : rn xX9_fault (24, [some (.inr (.inl a))], [], S) = rn xX9_fault (25, [some (.inr (.inl a))], [.inr (.inl a)], S) := rn_step dX9_fault_24 rfl rfl
theorem eX9_fault_25 {l0 : Option VV} {S : MM} : rn xX9_fault (25, [l0], [vR 593], S) = rn xX9_fault (28, [l0], [vI (S 593 13)], S) := q_getI dX9_fault_25 rfl ⟨⟨by decide, by decide⟩, by decide⟩ kd593
theorem eX9_fault_28 {a : Int} {l0 : Option VV} (h : -2147483648 ≤ a ∧ a ≤ 2147483647) {S : MM} : rn xX9_fault (28, [l0], [vI a], S) = if a = 0 then rn xX9_fault (31, [l0], [], S) else rn xX9_fault (62, [l0], [], S) := q_if_ne dX9_fault_28 (by decide) rfl h
theorem eX9_fault_31 {a : Option Nat} {S : MM} : rn xX9_fault (31, [some (.inr (.inl a))], [], S) = rn xX9_fault (32, [some (.inr (.inl a))], [.inr (.inl a)], S) := rn_step dX9_fault_31 rfl rfl
theorem eX9_fault_32 {l0 : Option VV} {S : MM} : rn xX9_fault (32, [l0], [vR 593], S) = rn xX9_fault (35, [l0], [vI (S 593 12)], S) := q_getI dX9_fault_32 rfl ⟨⟨by decide, by decide⟩, by decide⟩ kd593
theorem eX9_fault_35 {a : Option Nat} {v0 : VV} {S : MM} : rn xX9_fault (35, [some (.inr (.inl a))], [v0], S) = rn xX9_fault (36, [some (.inr (.inl a))], [.inr (.inl a), v0], S) := rn_step dX9_fault_35 rfl rfl
theorem eX9_fault_36 {l0 : Option VV} {v1 : VV} {S : MM} : rn xX9_fault (36, [l0], [vR 593, v1], S) = rn xX9_fault (39, [l0], [vI (S 593 11), v1], S) := q_getI dX9_fault_36 rfl ⟨⟨by decide, by decide⟩, by decide⟩ kd593
theorem eX9_fault_39 {a b : Int} {l0 : Option VV} (h : -2147483648 ≤ a ∧ a ≤ 2147483647) (h1 : -2147483648 ≤ b ∧ b ≤ 2147483647) {S : MM} : rn xX9_fault (39, [l0], [vI b, vI a], S) = if a < b then rn xX9_fault (42, [l0], [], S) else rn xX9_fault (62, [l0], [], S) := q_icmp_ge dX9_fault_39 (by decide) rfl h h1
theorem eX9_fault_42 {a : Option Nat} {S : MM} : rn xX9_fault (42, [some (.inr (.inl a))], [], S) = rn xX9_fault (43, [some (.inr (.inl a))], [.inr (.inl a)], S) := rn_step dX9_fault_42 rfl rfl
theorem eX9_fault_43 {l0 : Option VV} {v0 : VV} {S : MM} : rn xX9_fault (43, [l0], [v0], S) = rn xX9_fault (45, [l0], [vI 59, v0], S) := rn_step dX9_fault_43 rfl rfl
theorem eX9_fault_45 {a0 : Int} {l0 : Option VV} {S : MM} : rn xX9_fault (45, [l0], [vI a0, vR 593], S) = (fX9_takeSign [vR 593, vI a0] S).bind (fun q => rn xX9_fault (48, [l0], q.1.toList ++ [], q.2)) := q_callV (n := 1) (as := [vI a0]) (rest := []) dX9_fault_45 rfl rfl rfl rfl kd593
theorem eX9_fault_48 {a : Option Nat} {S : MM} : rn xX9_fault (48, [some (.inr (.inl a))], [], S) = rn xX9_fault (49, [some (.inr (.inl a))], [.inr (.inl a)], S) := rn_step dX9_fault_48 rfl rfl
theorem eX9_fault_49 {l0 : Option VV} {S : MM} : rn xX9_fault (49, [l0], [vR 593], S) = rn xX9_fault (52, [l0], [vI (S 593 13)], S) := q_getI dX9_fault_49 rfl ⟨⟨by decide, by decide⟩, by decide⟩ kd593
theorem eX9_fault_52 {a : Int} {l0 : Option VV} (h : -2147483648 ≤ a ∧ a ≤ 2147483647) {S : MM} : rn xX9_fault (52, [l0], [vI a], S) = if a = 0 then rn xX9_fault (55, [l0], [], S) else rn xX9_fault (24, [l0], [], S) := q_if_ne dX9_fault_52 (by decide) rfl h
theorem eX9_fault_55 {a : Option Nat} {S : MM} : rn xX9_fault (55, [some (.inr (.inl a))], [], S) = rn xX9_fault (56, [some (.inr (.inl a))], [.inr (.inl a)], S) := rn_step dX9_fault_55 rfl rfl
theorem eX9_fault_56 {l0 : Option VV} {S : MM} : rn xX9_fault (56, [l0], [vR 593], S) = (fX9_takeOrder [vR 593] S).bind (fun q => rn xX9_fault (59, [l0], q.1.toList ++ [], q.2)) := q_callV (n := 0) (as := []) (rest := []) dX9_fault_56 rfl rfl rfl rfl kd593
theorem eX9_fault_59 {l0 : Option VV} {S : MM} : rn xX9_fault (59, [l0], [], S) = rn xX9_fault (24, [l0], [], S) := rn_step dX9_fault_59 rfl rfl
theorem eX9_fault_62 {a : Option Nat} {S : MM} : rn xX9_fault (62, [some (.inr (.inl a))], [], S) = rn xX9_fault (63, [some (.inr (.inl a))], [.inr (.inl a)], S) := rn_step dX9_fault_62 rfl rfl
theorem eX9_fault_63 {l0 : Option VV} {S : MM} : rn xX9_fault (63, [l0], [vR 593], S) = rn xX9_fault (66, [l0], [vI (S 593 13)], S) := q_getI dX9_fault_63 rfl ⟨⟨by decide, by decide⟩, by decide⟩ kd593
theorem eX9_fault_66 {a : Int} {l0 : Option VV} (h : -2147483648 ≤ a ∧ a ≤ 2147483647) {S : MM} : rn xX9_fault (66, [l0], [vI a], S) = if a = 0 then rn xX9_fault (76, [l0], [], S) else rn xX9_fault (69, [l0], [], S) := q_if_eq dX9_fault_66 (by decide) rfl h
theorem eX9_fault_69 {a : Option Nat} {S : MM} : rn xX9_fault (69, [some (.inr (.inl a))], [], S) = rn xX9_fault (70, [some (.inr (.inl a))], [.inr (.inl a)], S) := rn_step dX9_fault_69 rfl rfl
theorem eX9_fault_70 {l0 : Option VV} {S : MM} : rn xX9_fault (70, [l0], [vR 593], S) = rn xX9_fault (73, [l0], [vI (S 593 12)], S) := q_getI dX9_fault_70 rfl ⟨⟨by decide, by decide⟩, by decide⟩ kd593
theorem eX9_fault_73 {l0 : Option VV} {v0 : VV} {S : MM} : rn xX9_fault (73, [l0], [v0], S) = rn xX9_fault (78, [l0], [v0], S) := rn_step dX9_fault_73 rfl rfl
theorem eX9_fault_76 {l0 : Option VV} {S : MM} : rn xX9_fault (76, [l0], [], S) = rn xX9_fault (78, [l0], [vI (-6)], S) := rn_step dX9_fault_76 rfl rfl
theorem eX9_fault_78 {z : Int} {l0 : Option VV} {S : MM} : rn xX9_fault (78, [l0], [vI z], S) = some (some (vI z), S) := q_retI dX9_fault_78 rfl
noncomputable def qlX9_carryStones : List CE := [(0, 132, 9, 4, fX9_tryStone), (0, 136, 9, 4, fX9_lay)]
noncomputable def xX9_carryStones : XX := (cX9_carryStones, fcF fcl9, mcF qlX9_carryStones, 1)
noncomputable def fX9_carryStones : FN := fnX xX9_carryStones 4
set_option maxRecDepth 100000 in
theorem cwX9_carryStones : Cond.code yX9_carryStones cX9_carryStones 4 (some .int) ∈ lw_g := lw_gm 1248 (by decide +kernel) (by decide +kernel)
set_option maxRecDepth 100000 in
theorem conX9_carryStones : Con yX9_carryStones cX9_carryStones 4 (some .int) { frames := 3, cells := 0, slots := 0, locals := 68 } fX9_carryStones := con_of (X := xX9_carryStones) (own := "LeapStonesModel") (ql := qlX9_carryStones) (by decide) rfl FOK9 rfl (List.forall_mem_cons.mpr ⟨call_V conX9_tryStone cwX9_tryStone (lw_gl _ [1050, 1052, 41, 84] (by decide +kernel) (by decide +kernel)) (by decide) rfl ⟨by decide, by decide, by decide +kernel⟩ ⟨rfl, rfl⟩ ⟨by decide, by decide⟩ ⟨Nat.le_refl _, Nat.le_refl _⟩, List.forall_mem_cons.mpr ⟨call_V conX9_lay cwX9_lay (lw_gl _ [1064, 1066, 43, 84] (by decide +kernel) (by decide +kernel)) (by decide) rfl ⟨by decide, by decide, by decide +kernel⟩ ⟨rfl, rfl⟩ ⟨by decide, by decide⟩ ⟨Nat.le_refl _, Nat.le_refl _⟩, fun _ h => absurd h List.not_mem_nil⟩⟩) (Or.inr (Or.inl ⟨rfl, rfl⟩))
theorem uX9_carryStones {i : Nat} {a0 : Int} {S : MM} : fX9_carryStones [vR i, vI a0] S = rn xX9_carryStones (0, [some (vR i), some (vI a0), none, none], [], S) := rfl
theorem dX9_carryStones_0 : decode cX9_carryStones 0 = .ok (.iconst 0, 1) := by decide +kernel
theorem dX9_carryStones_1 : decode cX9_carryStones 1 = .ok (.istore_n 2, 1) := by decide +kernel
theorem dX9_carryStones_2 : decode cX9_carryStones 2 = .ok (.aload_n 0, 1) := by decide +kernel
theorem dX9_carryStones_3 : decode cX9_carryStones 3 = .ok (.getfield 32, 3) := by decide +kernel
theorem dX9_carryStones_6 : decode cX9_carryStones 6 = .ok (.iload_n 1, 1) := by decide +kernel
theorem dX9_carryStones_7 : decode cX9_carryStones 7 = .ok (.iconst 3, 1) := by decide +kernel
theorem dX9_carryStones_8 : decode cX9_carryStones 8 = .ok (.iadd, 1) := by decide +kernel
theorem dX9_carryStones_9 : decode cX9_carryStones 9 = .ok (.iaload, 1) := by decide +kernel
theorem dX9_carryStones_10 : decode cX9_carryStones 10 = .ok (.istore_n 3, 1) := by decide +kernel
theorem dX9_carryStones_11 : decode cX9_carryStones 11 = .ok (.iload_n 3, 1) := by decide +kernel
theorem dX9_carryStones_12 : decode cX9_carryStones 12 = .ok (.aload_n 0, 1) := by decide +kernel
theorem dX9_carryStones_13 : decode cX9_carryStones 13 = .ok (.getfield 32, 3) := by decide +kernel
theorem dX9_carryStones_16 : decode cX9_carryStones 16 = .ok (.iload_n 1, 1) := by decide +kernel
theorem dX9_carryStones_17 : decode cX9_carryStones 17 = .ok (.iconst 4, 1) := by decide +kernel
theorem dX9_carryStones_18 : decode cX9_carryStones 18 = .ok (.iadd, 1) := by decide +kernel
theorem dX9_carryStones_19 : decode cX9_carryStones 19 = .ok (.iaload, 1) := by decide +kernel
theorem dX9_carryStones_20 : decode cX9_carryStones 20 = .ok (.if_icmp .gt 60, 3) := by decide +kernel
theorem dX9_carryStones_23 : decode cX9_carryStones 23 = .ok (.iload_n 2, 1) := by decide +kernel
theorem dX9_carryStones_24 : decode cX9_carryStones 24 = .ok (.ifCond .lt 56, 3) := by decide +kernel
theorem dX9_carryStones_27 : decode cX9_carryStones 27 = .ok (.aload_n 0, 1) := by decide +kernel
theorem dX9_carryStones_28 : decode cX9_carryStones 28 = .ok (.aload_n 0, 1) := by decide +kernel
theorem dX9_carryStones_29 : decode cX9_carryStones 29 = .ok (.getfield 32, 3) := by decide +kernel
theorem dX9_carryStones_32 : decode cX9_carryStones 32 = .ok (.iload_n 1, 1) := by decide +kernel
theorem dX9_carryStones_33 : decode cX9_carryStones 33 = .ok (.iconst 2, 1) := by decide +kernel
theorem dX9_carryStones_34 : decode cX9_carryStones 34 = .ok (.iadd, 1) := by decide +kernel
theorem dX9_carryStones_35 : decode cX9_carryStones 35 = .ok (.iaload, 1) := by decide +kernel
theorem dX9_carryStones_36 : decode cX9_carryStones 36 = .ok (.iload_n 3, 1) := by decide +kernel
theorem dX9_carryStones_37 : decode cX9_carryStones 37 = .ok (.aload_n 0, 1) := by decide +kernel
theorem dX9_carryStones_38 : decode cX9_carryStones 38 = .ok (.getfield 32, 3) := by decide +kernel
theorem dX9_carryStones_41 : decode cX9_carryStones 41 = .ok (.iload_n 1, 1) := by decide +kernel
theorem dX9_carryStones_42 : decode cX9_carryStones 42 = .ok (.iconst 5, 1) := by decide +kernel
theorem dX9_carryStones_43 : decode cX9_carryStones 43 = .ok (.iadd, 1) := by decide +kernel
theorem dX9_carryStones_44 : decode cX9_carryStones 44 = .ok (.iaload, 1) := by decide +kernel
theorem dX9_carryStones_45 : decode cX9_carryStones 45 = .ok (.invokevirtual 132, 3) := by decide +kernel
theorem dX9_carryStones_48 : decode cX9_carryStones 48 = .ok (.istore_n 2, 1) := by decide +kernel
theorem dX9_carryStones_49 : decode cX9_carryStones 49 = .ok (.iload_n 2, 1) := by decide +kernel
theorem dX9_carryStones_50 : decode cX9_carryStones 50 = .ok (.ifCond .lt 24, 3) := by decide +kernel
theorem dX9_carryStones_53 : decode cX9_carryStones 53 = .ok (.aload_n 0, 1) := by decide +kernel
theorem dX9_carryStones_54 : decode cX9_carryStones 54 = .ok (.aload_n 0, 1) := by decide +kernel
theorem dX9_carryStones_55 : decode cX9_carryStones 55 = .ok (.getfield 32, 3) := by decide +kernel
theorem dX9_carryStones_58 : decode cX9_carryStones 58 = .ok (.iload_n 1, 1) := by decide +kernel
theorem dX9_carryStones_59 : decode cX9_carryStones 59 = .ok (.iconst 2, 1) := by decide +kernel
theorem dX9_carryStones_60 : decode cX9_carryStones 60 = .ok (.iadd, 1) := by decide +kernel
theorem dX9_carryStones_61 : decode cX9_carryStones 61 = .ok (.iaload, 1) := by decide +kernel
theorem dX9_carryStones_62 : decode cX9_carryStones 62 = .ok (.iload_n 3, 1) := by decide +kernel
theorem dX9_carryStones_63 : decode cX9_carryStones 63 = .ok (.aload_n 0, 1) := by decide +kernel
theorem dX9_carryStones_64 : decode cX9_carryStones 64 = .ok (.getfield 32, 3) := by decide +kernel
theorem dX9_carryStones_67 : decode cX9_carryStones 67 = .ok (.iload_n 1, 1) := by decide +kernel
theorem dX9_carryStones_68 : decode cX9_carryStones 68 = .ok (.iconst 5, 1) := by decide +kernel
theorem dX9_carryStones_69 : decode cX9_carryStones 69 = .ok (.iadd, 1) := by decide +kernel
theorem dX9_carryStones_70 : decode cX9_carryStones 70 = .ok (.iaload, 1) := by decide +kernel
theorem dX9_carryStones_71 : decode cX9_carryStones 71 = .ok (.invokevirtual 136, 3) := by decide +kernel
theorem dX9_carryStones_74 : decode cX9_carryStones 74 = .ok (.iinc 3 1, 3) := by decide +kernel
theorem dX9_carryStones_77 : decode cX9_carryStones 77 = .ok (.goto (-66), 3) := by decide +kernel
theorem dX9_carryStones_80 : decode cX9_carryStones 80 = .ok (.iload_n 2, 1) := by decide +kernel
theorem dX9_carryStones_81 : decode cX9_carryStones 81 = .ok (.ireturn, 1) := by decide +kernel
theorem eX9_carryStones_0 {l0 l1 l2 l3 : Option VV} {S : MM} : rn xX9_carryStones (0, [l0, l1, l2, l3], [], S) = rn xX9_carryStones (1, [l0, l1, l2, l3], [vI 0], S) := rn_step dX9_carryStones_0 rfl rfl
theorem eX9_carryStones_1 {a : Int} {w : Int} {l0 l2 l3 : Option VV} {S : MM} : rn xX9_carryStones (1, [l0, some (vI w), l2, l3], [vI a], S) = rn xX9_carryStones (2, [l0, some (vI w), some (vI a), l3], [], S) := rn_step dX9_carryStones_1 rfl rfl
theorem eX9_carryStones_2 {a : Option Nat} {l1 l2 l3 : Option VV} {S : MM} : rn xX9_carryStones (2, [some (.inr (.inl a)), l1, l2, l3], [], S) = rn xX9_carryStones (3, [some (.inr (.inl a)), l1, l2, l3], [.inr (.inl a)], S) := rn_step dX9_carryStones_2 rfl rfl
theorem eX9_carryStones_3 {l0 l1 l2 l3 : Option VV} {S : MM} : rn xX9_carryStones (3, [l0, l1, l2, l3], [vR 593], S) = rn xX9_carryStones (6, [l0, l1, l2, l3], [vR 601], S) := q_getR dX9_carryStones_3 rfl ⟨⟨by decide, by decide⟩, by decide⟩ (fun _ => by decide +kernel) kd593
theorem eX9_carryStones_6 {a : Int} {l0 l2 l3 : Option VV} {v0 : VV} {S : MM} : rn xX9_carryStones (6, [l0, some (vI a), l2, l3], [v0], S) = rn xX9_carryStones (7, [l0, some (vI a), l2, l3], [vI a, v0], S) := rn_step dX9_carryStones_6 rfl rfl
theorem eX9_carryStones_7 {l0 l1 l2 l3 : Option VV} {v0 v1 : VV} {S : MM} : rn xX9_carryStones (7, [l0, l1, l2, l3], [v0, v1], S) = rn xX9_carryStones (8, [l0, l1, l2, l3], [vI 3, v0, v1], S) := rn_step dX9_carryStones_7 rfl rfl
theorem eX9_carryStones_8 {a b : Int} {l0 l1 l2 l3 : Option VV} {v2 : VV} {S : MM} : rn xX9_carryStones (8, [l0, l1, l2, l3], [vI b, vI a, v2], S) = rn xX9_carryStones (9, [l0, l1, l2, l3], [vI (a + b), v2], S) := rn_step dX9_carryStones_8 rfl rfl
theorem eX9_carryStones_9 {i : Nat} {j : Int} {l0 l1 l2 l3 : Option VV} (h : kd i = 10) (h0 : 0 ≤ j) (h1 : j < alen i) {S : MM} : rn xX9_carryStones (9, [l0, l1, l2, l3], [vI j, vR i], S) = rn xX9_carryStones (10, [l0, l1, l2, l3], [vI (S i j.toNat)], S) := q_iald dX9_carryStones_9 h h0 h1
theorem eX9_carryStones_9x {j : Int} {l0 l1 l2 l3 : Option VV} {S : MM} (h0 : 0 ≤ j) (h1 : j < S 604 0) : rn xX9_carryStones (9, [l0, l1, l2, l3], [vI j, vR 602], S) = rn xX9_carryStones (10, [l0, l1, l2, l3], [vI (S 602 j.toNat)], S) := q_ialdX dX9_carryStones_9 h0 h1
theorem eX9_carryStones_9y {j : Int} {l0 l1 l2 l3 : Option VV} {S : MM} (h0 : 0 ≤ j) (h1 : j < S 604 1) : rn xX9_carryStones (9, [l0, l1, l2, l3], [vI j, vR 603], S) = rn xX9_carryStones (10, [l0, l1, l2, l3], [vI (S 603 j.toNat)], S) := q_ialdY dX9_carryStones_9 h0 h1
theorem eX9_carryStones_10 {a : Int} {w : Int} {l0 l1 l3 : Option VV} {S : MM} : rn xX9_carryStones (10, [l0, l1, some (vI w), l3], [vI a], S) = rn xX9_carryStones (11, [l0, l1, some (vI w), some (vI a)], [], S) := rn_step dX9_carryStones_10 rfl rfl
theorem eX9_carryStones_11 {a : Int} {l0 l1 l2 : Option VV} {S : MM} : rn xX9_carryStones (11, [l0, l1, l2, some (vI a)], [], S) = rn xX9_carryStones (12, [l0, l1, l2, some (vI a)], [vI a], S) := rn_step dX9_carryStones_11 rfl rfl
theorem eX9_carryStones_12 {a : Option Nat} {l1 l2 l3 : Option VV} {v0 : VV} {S : MM} : rn xX9_carryStones (12, [some (.inr (.inl a)), l1, l2, l3], [v0], S) = rn xX9_carryStones (13, [some (.inr (.inl a)), l1, l2, l3], [.inr (.inl a), v0], S) := rn_step dX9_carryStones_12 rfl rfl
theorem eX9_carryStones_13 {l0 l1 l2 l3 : Option VV} {v1 : VV} {S : MM} : rn xX9_carryStones (13, [l0, l1, l2, l3], [vR 593, v1], S) = rn xX9_carryStones (16, [l0, l1, l2, l3], [vR 601, v1], S) := q_getR dX9_carryStones_13 rfl ⟨⟨by decide, by decide⟩, by decide⟩ (fun _ => by decide +kernel) kd593
theorem eX9_carryStones_16 {a : Int} {l0 l2 l3 : Option VV} {v0 v1 : VV} {S : MM} : rn xX9_carryStones (16, [l0, some (vI a), l2, l3], [v0, v1], S) = rn xX9_carryStones (17, [l0, some (vI a), l2, l3], [vI a, v0, v1], S) := rn_step dX9_carryStones_16 rfl rfl
theorem eX9_carryStones_17 {l0 l1 l2 l3 : Option VV} {v0 v1 v2 : VV} {S : MM} : rn xX9_carryStones (17, [l0, l1, l2, l3], [v0, v1, v2], S) = rn xX9_carryStones (18, [l0, l1, l2, l3], [vI 4, v0, v1, v2], S) := rn_step dX9_carryStones_17 rfl rfl
theorem eX9_carryStones_18 {a b : Int} {l0 l1 l2 l3 : Option VV} {v2 v3 : VV} {S : MM} : rn xX9_carryStones (18, [l0, l1, l2, l3], [vI b, vI a, v2, v3], S) = rn xX9_carryStones (19, [l0, l1, l2, l3], [vI (a + b), v2, v3], S) := rn_step dX9_carryStones_18 rfl rfl
theorem eX9_carryStones_19 {i : Nat} {j : Int} {l0 l1 l2 l3 : Option VV} {v2 : VV} (h : kd i = 10) (h0 : 0 ≤ j) (h1 : j < alen i) {S : MM} : rn xX9_carryStones (19, [l0, l1, l2, l3], [vI j, vR i, v2], S) = rn xX9_carryStones (20, [l0, l1, l2, l3], [vI (S i j.toNat), v2], S) := q_iald dX9_carryStones_19 h h0 h1
theorem eX9_carryStones_19x {j : Int} {l0 l1 l2 l3 : Option VV} {v2 : VV} {S : MM} (h0 : 0 ≤ j) (h1 : j < S 604 0) : rn xX9_carryStones (19, [l0, l1, l2, l3], [vI j, vR 602, v2], S) = rn xX9_carryStones (20, [l0, l1, l2, l3], [vI (S 602 j.toNat), v2], S) := q_ialdX dX9_carryStones_19 h0 h1
theorem eX9_carryStones_19y {j : Int} {l0 l1 l2 l3 : Option VV} {v2 : VV} {S : MM} (h0 : 0 ≤ j) (h1 : j < S 604 1) : rn xX9_carryStones (19, [l0, l1, l2, l3], [vI j, vR 603, v2], S) = rn xX9_carryStones (20, [l0, l1, l2, l3], [vI (S 603 j.toNat), v2], S) := q_ialdY dX9_carryStones_19 h0 h1
theorem eX9_carryStones_20 {a b : Int} {l0 l1 l2 l3 : Option VV} (h : -2147483648 ≤ a ∧ a ≤ 2147483647) (h1 : -2147483648 ≤ b ∧ b ≤ 2147483647) {S : MM} : rn xX9_carryStones (20, [l0, l1, l2, l3], [vI b, vI a], S) = if b < a then rn xX9_carryStones (80, [l0, l1, l2, l3], [], S) else rn xX9_carryStones (23, [l0, l1, l2, l3], [], S) := q_icmp_gt dX9_carryStones_20 (by decide) rfl h h1
theorem eX9_carryStones_23 {a : Int} {l0 l1 l3 : Option VV} {S : MM} : rn xX9_carryStones (23, [l0, l1, some (vI a), l3], [], S) = rn xX9_carryStones (24, [l0, l1, some (vI a), l3], [vI a], S) := rn_step dX9_carryStones_23 rfl rfl
theorem eX9_carryStones_24 {a : Int} {l0 l1 l2 l3 : Option VV} (h : -2147483648 ≤ a ∧ a ≤ 2147483647) {S : MM} : rn xX9_carryStones (24, [l0, l1, l2, l3], [vI a], S) = if a < 0 then rn xX9_carryStones (80, [l0, l1, l2, l3], [], S) else rn xX9_carryStones (27, [l0, l1, l2, l3], [], S) := q_if_lt dX9_carryStones_24 (by decide) rfl h
theorem eX9_carryStones_27 {a : Option Nat} {l1 l2 l3 : Option VV} {S : MM} : rn xX9_carryStones (27, [some (.inr (.inl a)), l1, l2, l3], [], S) = rn xX9_carryStones (28, [some (.inr (.inl a)), l1, l2, l3], [.inr (.inl a)], S) := rn_step dX9_carryStones_27 rfl rfl
theorem eX9_carryStones_28 {a : Option Nat} {l1 l2 l3 : Option VV} {v0 : VV} {S : MM} : rn xX9_carryStones (28, [some (.inr (.inl a)), l1, l2, l3], [v0], S) = rn xX9_carryStones (29, [some (.inr (.inl a)), l1, l2, l3], [.inr (.inl a), v0], S) := rn_step dX9_carryStones_28 rfl rfl
theorem eX9_carryStones_29 {l0 l1 l2 l3 : Option VV} {v1 : VV} {S : MM} : rn xX9_carryStones (29, [l0, l1, l2, l3], [vR 593, v1], S) = rn xX9_carryStones (32, [l0, l1, l2, l3], [vR 601, v1], S) := q_getR dX9_carryStones_29 rfl ⟨⟨by decide, by decide⟩, by decide⟩ (fun _ => by decide +kernel) kd593
theorem eX9_carryStones_32 {a : Int} {l0 l2 l3 : Option VV} {v0 v1 : VV} {S : MM} : rn xX9_carryStones (32, [l0, some (vI a), l2, l3], [v0, v1], S) = rn xX9_carryStones (33, [l0, some (vI a), l2, l3], [vI a, v0, v1], S) := rn_step dX9_carryStones_32 rfl rfl
theorem eX9_carryStones_33 {l0 l1 l2 l3 : Option VV} {v0 v1 v2 : VV} {S : MM} : rn xX9_carryStones (33, [l0, l1, l2, l3], [v0, v1, v2], S) = rn xX9_carryStones (34, [l0, l1, l2, l3], [vI 2, v0, v1, v2], S) := rn_step dX9_carryStones_33 rfl rfl
theorem eX9_carryStones_34 {a b : Int} {l0 l1 l2 l3 : Option VV} {v2 v3 : VV} {S : MM} : rn xX9_carryStones (34, [l0, l1, l2, l3], [vI b, vI a, v2, v3], S) = rn xX9_carryStones (35, [l0, l1, l2, l3], [vI (a + b), v2, v3], S) := rn_step dX9_carryStones_34 rfl rfl
theorem eX9_carryStones_35 {i : Nat} {j : Int} {l0 l1 l2 l3 : Option VV} {v2 : VV} (h : kd i = 10) (h0 : 0 ≤ j) (h1 : j < alen i) {S : MM} : rn xX9_carryStones (35, [l0, l1, l2, l3], [vI j, vR i, v2], S) = rn xX9_carryStones (36, [l0, l1, l2, l3], [vI (S i j.toNat), v2], S) := q_iald dX9_carryStones_35 h h0 h1
theorem eX9_carryStones_35x {j : Int} {l0 l1 l2 l3 : Option VV} {v2 : VV} {S : MM} (h0 : 0 ≤ j) (h1 : j < S 604 0) : rn xX9_carryStones (35, [l0, l1, l2, l3], [vI j, vR 602, v2], S) = rn xX9_carryStones (36, [l0, l1, l2, l3], [vI (S 602 j.toNat), v2], S) := q_ialdX dX9_carryStones_35 h0 h1
theorem eX9_carryStones_35y {j : Int} {l0 l1 l2 l3 : Option VV} {v2 : VV} {S : MM} (h0 : 0 ≤ j) (h1 : j < S 604 1) : rn xX9_carryStones (35, [l0, l1, l2, l3], [vI j, vR 603, v2], S) = rn xX9_carryStones (36, [l0, l1, l2, l3], [vI (S 603 j.toNat), v2], S) := q_ialdY dX9_carryStones_35 h0 h1
theorem eX9_carryStones_36 {a : Int} {l0 l1 l2 : Option VV} {v0 v1 : VV} {S : MM} : rn xX9_carryStones (36, [l0, l1, l2, some (vI a)], [v0, v1], S) = rn xX9_carryStones (37, [l0, l1, l2, some (vI a)], [vI a, v0, v1], S) := rn_step dX9_carryStones_36 rfl rfl
theorem eX9_carryStones_37 {a : Option Nat} {l1 l2 l3 : Option VV} {v0 v1 v2 : VV} {S : MM} : rn xX9_carryStones (37, [some (.inr (.inl a)), l1, l2, l3], [v0, v1, v2], S) = rn xX9_carryStones (38, [some (.inr (.inl a)), l1, l2, l3], [.inr (.inl a), v0, v1, v2], S) := rn_step dX9_carryStones_37 rfl rfl
theorem eX9_carryStones_38 {l0 l1 l2 l3 : Option VV} {v1 v2 v3 : VV} {S : MM} : rn xX9_carryStones (38, [l0, l1, l2, l3], [vR 593, v1, v2, v3], S) = rn xX9_carryStones (41, [l0, l1, l2, l3], [vR 601, v1, v2, v3], S) := q_getR dX9_carryStones_38 rfl ⟨⟨by decide, by decide⟩, by decide⟩ (fun _ => by decide +kernel) kd593
theorem eX9_carryStones_41 {a : Int} {l0 l2 l3 : Option VV} {v0 v1 v2 v3 : VV} {S : MM} : rn xX9_carryStones (41, [l0, some (vI a), l2, l3], [v0, v1, v2, v3], S) = rn xX9_carryStones (42, [l0, some (vI a), l2, l3], [vI a, v0, v1, v2, v3], S) := rn_step dX9_carryStones_41 rfl rfl
theorem eX9_carryStones_42 {l0 l1 l2 l3 : Option VV} {v0 v1 v2 v3 v4 : VV} {S : MM} : rn xX9_carryStones (42, [l0, l1, l2, l3], [v0, v1, v2, v3, v4], S) = rn xX9_carryStones (43, [l0, l1, l2, l3], [vI 5, v0, v1, v2, v3, v4], S) := rn_step dX9_carryStones_42 rfl rfl
theorem eX9_carryStones_43 {a b : Int} {l0 l1 l2 l3 : Option VV} {v2 v3 v4 v5 : VV} {S : MM} : rn xX9_carryStones (43, [l0, l1, l2, l3], [vI b, vI a, v2, v3, v4, v5], S) = rn xX9_carryStones (44, [l0, l1, l2, l3], [vI (a + b), v2, v3, v4, v5], S) := rn_step dX9_carryStones_43 rfl rfl
theorem eX9_carryStones_44 {i : Nat} {j : Int} {l0 l1 l2 l3 : Option VV} {v2 v3 v4 : VV} (h : kd i = 10) (h0 : 0 ≤ j) (h1 : j < alen i) {S : MM} : rn xX9_carryStones (44, [l0, l1, l2, l3], [vI j, vR i, v2, v3, v4], S) = rn xX9_carryStones (45, [l0, l1, l2, l3], [vI (S i j.toNat), v2, v3, v4], S) := q_iald dX9_carryStones_44 h h0 h1
theorem eX9_carryStones_44x {j : Int} {l0 l1 l2 l3 : Option VV} {v2 v3 v4 : VV} {S : MM} (h0 : 0 ≤ j) (h1 : j < S 604 0) : rn xX9_carryStones (44, [l0, l1, l2, l3], [vI j, vR 602, v2, v3, v4], S) = rn xX9_carryStones (45, [l0, l1, l2, l3], [vI (S 602 j.toNat), v2, v3, v4], S) := q_ialdX dX9_carryStones_44 h0 h1
theorem eX9_carryStones_44y {j : Int} {l0 l1 l2 l3 : Option VV} {v2 v3 v4 : VV} {S : MM} (h0 : 0 ≤ j) (h1 : j < S 604 1) : rn xX9_carryStones (44, [l0, l1, l2, l3], [vI j, vR 603, v2, v3, v4], S) = rn xX9_carryStones (45, [l0, l1, l2, l3], [vI (S 603 j.toNat), v2, v3, v4], S) := q_ialdY dX9_carryStones_44 h0 h1
theorem eX9_carryStones_45 {a0 : Int} {a1 : Int} {a2 : Int} {l0 l1 l2 l3 : Option VV} {S : MM} : rn xX9_carryStones (45, [l0, l1, l2, l3], [vI a2, vI a1, vI a0, vR 593], S) = (fX9_tryStone [vR 593, vI a0, vI a1, vI a2] S).bind (fun q => rn xX9_carryStones (48, [l0, l1, l2, l3], q.1.toList ++ [], q.2)) := q_callV (n := 3) (as := [vI a0, vI a1, vI a2]) (rest := []) dX9_carryStones_45 rfl rfl rfl rfl kd593
theorem eX9_carryStones_48 {a : Int} {w : Int} {l0 l2 l3 : Option VV} {S : MM} : rn xX9_carryStones (48, [l0, some (vI w), l2, l3], [vI a], S) = rn xX9_carryStones (49, [l0, some (vI w), some (vI a), l3], [], S) := rn_step dX9_carryStones_48 rfl rfl
theorem eX9_carryStones_49 {a : Int} {l0 l1 l3 : Option VV} {S : MM} : rn xX9_carryStones (49, [l0, l1, some (vI a), l3], [], S) = rn xX9_carryStones (50, [l0, l1, some (vI a), l3], [vI a], S) := rn_step dX9_carryStones_49 rfl rfl
theorem eX9_carryStones_50 {a : Int} {l0 l1 l2 l3 : Option VV} (h : -2147483648 ≤ a ∧ a ≤ 2147483647) {S : MM} : rn xX9_carryStones (50, [l0, l1, l2, l3], [vI a], S) = if a < 0 then rn xX9_carryStones (74, [l0, l1, l2, l3], [], S) else rn xX9_carryStones (53, [l0, l1, l2, l3], [], S) := q_if_lt dX9_carryStones_50 (by decide) rfl h
theorem eX9_carryStones_53 {a : Option Nat} {l1 l2 l3 : Option VV} {S : MM} : rn xX9_carryStones (53, [some (.inr (.inl a)), l1, l2, l3], [], S) = rn xX9_carryStones (54, [some (.inr (.inl a)), l1, l2, l3], [.inr (.inl a)], S) := rn_step dX9_carryStones_53 rfl rfl
theorem eX9_carryStones_54 {a : Option Nat} {l1 l2 l3 : Option VV} {v0 : VV} {S : MM} : rn xX9_carryStones (54, [some (.inr (.inl a)), l1, l2, l3], [v0], S) = rn xX9_carryStones (55, [some (.inr (.inl a)), l1, l2, l3], [.inr (.inl a), v0], S) := rn_step dX9_carryStones_54 rfl rfl
theorem eX9_carryStones_55 {l0 l1 l2 l3 : Option VV} {v1 : VV} {S : MM} : rn xX9_carryStones (55, [l0, l1, l2, l3], [vR 593, v1], S) = rn xX9_carryStones (58, [l0, l1, l2, l3], [vR 601, v1], S) := q_getR dX9_carryStones_55 rfl ⟨⟨by decide, by decide⟩, by decide⟩ (fun _ => by decide +kernel) kd593
theorem eX9_carryStones_58 {a : Int} {l0 l2 l3 : Option VV} {v0 v1 : VV} {S : MM} : rn xX9_carryStones (58, [l0, some (vI a), l2, l3], [v0, v1], S) = rn xX9_carryStones (59, [l0, some (vI a), l2, l3], [vI a, v0, v1], S) := rn_step dX9_carryStones_58 rfl rfl
theorem eX9_carryStones_59 {l0 l1 l2 l3 : Option VV} {v0 v1 v2 : VV} {S : MM} : rn xX9_carryStones (59, [l0, l1, l2, l3], [v0, v1, v2], S) = rn xX9_carryStones (60, [l0, l1, l2, l3], [vI 2, v0, v1, v2], S) := rn_step dX9_carryStones_59 rfl rfl
theorem eX9_carryStones_60 {a b : Int} {l0 l1 l2 l3 : Option VV} {v2 v3 : VV} {S : MM} : rn xX9_carryStones (60, [l0, l1, l2, l3], [vI b, vI a, v2, v3], S) = rn xX9_carryStones (61, [l0, l1, l2, l3], [vI (a + b), v2, v3], S) := rn_step dX9_carryStones_60 rfl rfl
theorem eX9_carryStones_61 {i : Nat} {j : Int} {l0 l1 l2 l3 : Option VV} {v2 : VV} (h : kd i = 10) (h0 : 0 ≤ j) (h1 : j < alen i) {S : MM} : rn xX9_carryStones (61, [l0, l1, l2, l3], [vI j, vR i, v2], S) = rn xX9_carryStones (62, [l0, l1, l2, l3], [vI (S i j.toNat), v2], S) := q_iald dX9_carryStones_61 h h0 h1
theorem eX9_carryStones_61x {j : Int} {l0 l1 l2 l3 : Option VV} {v2 : VV} {S : MM} (h0 : 0 ≤ j) (h1 : j < S 604 0) : rn xX9_carryStones (61, [l0, l1, l2, l3], [vI j, vR 602, v2], S) = rn xX9_carryStones (62, [l0, l1, l2, l3], [vI (S 602 j.toNat), v2], S) := q_ialdX dX9_carryStones_61 h0 h1
theorem eX9_carryStones_61y {j : Int} {l0 l1 l2 l3 : Option VV} {v2 : VV} {S : MM} (h0 : 0 ≤ j) (h1 : j < S 604 1) : rn xX9_carryStones (61, [l0, l1, l2, l3], [vI j, vR 603, v2], S) = rn xX9_carryStones (62, [l0, l1, l2, l3], [vI (S 603 j.toNat), v2], S) := q_ialdY dX9_carryStones_61 h0 h1
theorem eX9_carryStones_62 {a : Int} {l0 l1 l2 : Option VV} {v0 v1 : VV} {S : MM} : rn xX9_carryStones (62, [l0, l1, l2, some (vI a)], [v0, v1], S) = rn xX9_carryStones (63, [l0, l1, l2, some (vI a)], [vI a, v0, v1], S) := rn_step dX9_carryStones_62 rfl rfl
theorem eX9_carryStones_63 {a : Option Nat} {l1 l2 l3 : Option VV} {v0 v1 v2 : VV} {S : MM} : rn xX9_carryStones (63, [some (.inr (.inl a)), l1, l2, l3], [v0, v1, v2], S) = rn xX9_carryStones (64, [some (.inr (.inl a)), l1, l2, l3], [.inr (.inl a), v0, v1, v2], S) := rn_step dX9_carryStones_63 rfl rfl
theorem eX9_carryStones_64 {l0 l1 l2 l3 : Option VV} {v1 v2 v3 : VV} {S : MM} : rn xX9_carryStones (64, [l0, l1, l2, l3], [vR 593, v1, v2, v3], S) = rn xX9_carryStones (67, [l0, l1, l2, l3], [vR 601, v1, v2, v3], S) := q_getR dX9_carryStones_64 rfl ⟨⟨by decide, by decide⟩, by decide⟩ (fun _ => by decide +kernel) kd593
theorem eX9_carryStones_67 {a : Int} {l0 l2 l3 : Option VV} {v0 v1 v2 v3 : VV} {S : MM} : rn xX9_carryStones (67, [l0, some (vI a), l2, l3], [v0, v1, v2, v3], S) = rn xX9_carryStones (68, [l0, some (vI a), l2, l3], [vI a, v0, v1, v2, v3], S) := rn_step dX9_carryStones_67 rfl rfl
theorem eX9_carryStones_68 {l0 l1 l2 l3 : Option VV} {v0 v1 v2 v3 v4 : VV} {S : MM} : rn xX9_carryStones (68, [l0, l1, l2, l3], [v0, v1, v2, v3, v4], S) = rn xX9_carryStones (69, [l0, l1, l2, l3], [vI 5, v0, v1, v2, v3, v4], S) := rn_step dX9_carryStones_68 rfl rfl
theorem eX9_carryStones_69 {a b : Int} {l0 l1 l2 l3 : Option VV} {v2 v3 v4 v5 : VV} {S : MM} : rn xX9_carryStones (69, [l0, l1, l2, l3], [vI b, vI a, v2, v3, v4, v5], S) = rn xX9_carryStones (70, [l0, l1, l2, l3], [vI (a + b), v2, v3, v4, v5], S) := rn_step dX9_carryStones_69 rfl rfl
theorem eX9_carryStones_70 {i : Nat} {j : Int} {l0 l1 l2 l3 : Option VV} {v2 v3 v4 : VV} (h : kd i = 10) (h0 : 0 ≤ j) (h1 : j < alen i) {S : MM} : rn xX9_carryStones (70, [l0, l1, l2, l3], [vI j, vR i, v2, v3, v4], S) = rn xX9_carryStones (71, [l0, l1, l2, l3], [vI (S i j.toNat), v2, v3, v4], S) := q_iald dX9_carryStones_70 h h0 h1
theorem eX9_carryStones_70x {j : Int} {l0 l1 l2 l3 : Option VV} {v2 v3 v4 : VV} {S : MM} (h0 : 0 ≤ j) (h1 : j < S 604 0) : rn xX9_carryStones (70, [l0, l1, l2, l3], [vI j, vR 602, v2, v3, v4], S) = rn xX9_carryStones (71, [l0, l1, l2, l3], [vI (S 602 j.toNat), v2, v3, v4], S) := q_ialdX dX9_carryStones_70 h0 h1
theorem eX9_carryStones_70y {j : Int} {l0 l1 l2 l3 : Option VV} {v2 v3 v4 : VV} {S : MM} (h0 : 0 ≤ j) (h1 : j < S 604 1) : rn xX9_carryStones (70, [l0, l1, l2, l3], [vI j, vR 603, v2, v3, v4], S) = rn xX9_carryStones (71, [l0, l1, l2, l3], [vI (S 603 j.toNat), v2, v3, v4], S) := q_ialdY dX9_carryStones_70 h0 h1
theorem eX9_carryStones_71 {a0 : Int} {a1 : Int} {a2 : Int} {l0 l1 l2 l3 : Option VV} {S : MM} : rn xX9_carryStones (71, [l0, l1, l2, l3], [vI a2, vI a1, vI a0, vR 593], S) = (fX9_lay [vR 593, vI a0, vI a1, vI a2] S).bind (fun q => rn xX9_carryStones (74, [l0, l1, l2, l3], q.1.toList ++ [], q.2)) := q_callV (n := 3) (as := [vI a0, vI a1, vI a2]) (rest := []) dX9_carryStones_71 rfl rfl rfl rfl kd593
theorem eX9_carryStones_74 {a : Int} {w : Int} {l0 l1 : Option VV} {S : MM} : rn xX9_carryStones (74, [l0, l1, some (vI w), some (vI a)], [], S) = rn xX9_carryStones (77, [l0, l1, some (vI w), some (vI (a + 1))], [], S) := rn_step dX9_carryStones_74 rfl rfl
theorem eX9_carryStones_77 {l0 l1 l2 l3 : Option VV} {S : MM} : rn xX9_carryStones (77, [l0, l1, l2, l3], [], S) = rn xX9_carryStones (11, [l0, l1, l2, l3], [], S) := rn_step dX9_carryStones_77 rfl rfl
theorem eX9_carryStones_80 {a : Int} {l0 l1 l3 : Option VV} {S : MM} : rn xX9_carryStones (80, [l0, l1, some (vI a), l3], [], S) = rn xX9_carryStones (81, [l0, l1, some (vI a), l3], [vI a], S) := rn_step dX9_carryStones_80 rfl rfl
theorem eX9_carryStones_81 {z : Int} {l0 l1 l2 l3 : Option VV} {S : MM} : rn xX9_carryStones (81, [l0, l1, l2, l3], [vI z], S) = some (some (vI z), S) := q_retI dX9_carryStones_81 rfl
noncomputable def qlX9_carryBegin : List CE := [(0, 76, 9, 1, fX9_beginRun)]
noncomputable def xX9_carryBegin : XX := (cX9_carryBegin, fcF fcl9, mcF qlX9_carryBegin, 1)
noncomputable def fX9_carryBegin : FN := fnX xX9_carryBegin 1
set_option maxRecDepth 100000 in
theorem cwX9_carryBegin : Cond.code yX9_carryBegin cX9_carryBegin 1 (some .int) ∈ lw_g := lw_gm 1252 (by decide +kernel) (by decide +kernel)
set_option maxRecDepth 100000 in
theorem conX9_carryBegin : Con yX9_carryBegin cX9_carryBegin 1 (some .int) { frames := 4, cells := 0, slots := 0, locals := 85 } fX9_carryBegin := con_of (X := xX9_carryBegin) (own := "LeapStonesModel") (ql := qlX9_carryBegin) (by decide) rfl FOK9 rfl (List.forall_mem_cons.mpr ⟨call_V conX9_beginRun cwX9_beginRun (lw_gl _ [951, 953, 21, 84] (by decide +kernel) (by decide +kernel)) (by decide) rfl ⟨by decide, by decide, by decide +kernel⟩ ⟨rfl, rfl⟩ ⟨by decide, by decide⟩ ⟨Nat.le_refl _, Nat.le_refl _⟩, fun _ h => absurd h List.not_mem_nil⟩) (Or.inr (Or.inl ⟨rfl, rfl⟩))
theorem uX9_carryBegin {i : Nat} {S : MM} : fX9_carryBegin [vR i] S = rn xX9_carryBegin (0, [some (vR i)], [], S) := rfl
theorem dX9_carryBegin_0 : decode cX9_carryBegin 0 = .ok (.aload_n 0, 1) := by decide +kernel
theorem dX9_carryBegin_1 : decode cX9_carryBegin 1 = .ok (.invokevirtual 76, 3) := by decide +kernel
theorem dX9_carryBegin_4 : decode cX9_carryBegin 4 = .ok (.iconst 0, 1) := by decide +kernel
theorem dX9_carryBegin_5 : decode cX9_carryBegin 5 = .ok (.ireturn, 1) := by decide +kernel
theorem eX9_carryBegin_0 {a : Option Nat} {S : MM} : rn xX9_carryBegin (0, [some (.inr (.inl a))], [], S) = rn xX9_carryBegin (1, [some (.inr (.inl a))], [.inr (.inl a)], S) := rn_step dX9_carryBegin_0 rfl rfl
theorem eX9_carryBegin_1 {l0 : Option VV} {S : MM} : rn xX9_carryBegin (1, [l0], [vR 593], S) = (fX9_beginRun [vR 593] S).bind (fun q => rn xX9_carryBegin (4, [l0], q.1.toList ++ [], q.2)) := q_callV (n := 0) (as := []) (rest := []) dX9_carryBegin_1 rfl rfl rfl rfl kd593
theorem eX9_carryBegin_4 {l0 : Option VV} {S : MM} : rn xX9_carryBegin (4, [l0], [], S) = rn xX9_carryBegin (5, [l0], [vI 0], S) := rn_step dX9_carryBegin_4 rfl rfl
theorem eX9_carryBegin_5 {z : Int} {l0 : Option VV} {S : MM} : rn xX9_carryBegin (5, [l0], [vI z], S) = some (some (vI z), S) := q_retI dX9_carryBegin_5 rfl
noncomputable def qlX9_carry : List CE := [(0, 245, 9, 2, fX9_carryStones), (0, 153, 9, 5, fX9_tryFlood), (0, 166, 9, 2, fX9_tryDry), (0, 248, 9, 1, fX9_carryBegin), (0, 116, 9, 2, fX9_tryLeap)]
noncomputable def xX9_carry : XX := (cX9_carry, fcF fcl9, mcF qlX9_carry, 1)
noncomputable def fX9_carry : FN := fnX xX9_carry 3
set_option maxRecDepth 100000 in
theorem cwX9_carry : Cond.code yX9_carry cX9_carry 3 (some .int) ∈ lw_g := lw_gm 1244 (by decide +kernel) (by decide +kernel)
set_option maxRecDepth 100000 in
theorem conX9_carry : Con yX9_carry cX9_carry 3 (some .int) { frames := 6, cells := 0, slots := 0, locals := 137 } fX9_carry := con_of (X := xX9_carry) (own := "LeapStonesModel") (ql := qlX9_carry) (by decide) rfl FOK9 rfl (List.forall_mem_cons.mpr ⟨call_V conX9_carryStones cwX9_carryStones (lw_gl _ [1245, 1247, 72, 84] (by decide +kernel) (by decide +kernel)) (by decide) rfl ⟨by decide, by decide, by decide +kernel⟩ ⟨rfl, rfl⟩ ⟨by decide, by decide⟩ ⟨Nat.le_refl _, Nat.le_refl _⟩, List.forall_mem_cons.mpr ⟨call_V conX9_tryFlood cwX9_tryFlood (lw_gl _ [1072, 1074, 44, 84] (by decide +kernel) (by decide +kernel)) (by decide) rfl ⟨by decide, by decide, by decide +kernel⟩ ⟨rfl, rfl⟩ ⟨by decide, by decide⟩ ⟨Nat.le_refl _, Nat.le_refl _⟩, List.forall_mem_cons.mpr ⟨call_V conX9_tryDry cwX9_tryDry (lw_gl _ [1095, 1097, 48, 84] (by decide +kernel) (by decide +kernel)) (by decide) rfl ⟨by decide, by decide, by decide +kernel⟩ ⟨rfl, rfl⟩ ⟨by decide, by decide⟩ ⟨Nat.le_refl _, Nat.le_refl _⟩, List.forall_mem_cons.mpr ⟨call_V conX9_carryBegin cwX9_carryBegin (lw_gl _ [1249, 1251, 73, 84] (by decide +kernel) (by decide +kernel)) (by decide) rfl ⟨by decide, by decide, by decide +kernel⟩ ⟨rfl, rfl⟩ ⟨by decide, by decide⟩ ⟨Nat.le_refl _, Nat.le_refl _⟩, List.forall_mem_cons.mpr ⟨call_V conX9_tryLeap cwX9_tryLeap (lw_gl _ [991, 993, 30, 84] (by decide +kernel) (by decide +kernel)) (by decide) rfl ⟨by decide, by decide, by decide +kernel⟩ ⟨rfl, rfl⟩ ⟨by decide, by decide⟩ ⟨Nat.le_refl _, Nat.le_refl _⟩, fun _ h => absurd h List.not_mem_nil⟩⟩⟩⟩⟩) (Or.inr (Or.inl ⟨rfl, rfl⟩))
theorem uX9_carry {i : Nat} {a0 : Int} {S : MM} : fX9_carry [vR i, vI a0] S = rn xX9_carry (0, [some (vR i), some (vI a0), none], [], S) := rfl
theorem dX9_carry_0 : decode cX9_carry 0 = .ok (.bipush 6, 2) := by decide +kernel
theorem dX9_carry_2 : decode cX9_carry 2 = .ok (.iload_n 1, 1) := by decide +kernel
theorem dX9_carry_3 : decode cX9_carry 3 = .ok (.imul, 1) := by decide +kernel
theorem dX9_carry_4 : decode cX9_carry 4 = .ok (.istore_n 2, 1) := by decide +kernel
theorem dX9_carry_5 : decode cX9_carry 5 = .ok (.aload_n 0, 1) := by decide +kernel
theorem dX9_carry_6 : decode cX9_carry 6 = .ok (.getfield 32, 3) := by decide +kernel
theorem dX9_carry_9 : decode cX9_carry 9 = .ok (.iload_n 2, 1) := by decide +kernel
theorem dX9_carry_10 : decode cX9_carry 10 = .ok (.iaload, 1) := by decide +kernel
theorem dX9_carry_11 : decode cX9_carry 11 = .ok (.lookupswitch 88 #[(100, 77), (102, 47), (103, 83), (115, 41)], 41) := by decide +kernel
theorem dX9_carry_52 : decode cX9_carry 52 = .ok (.aload_n 0, 1) := by decide +kernel
theorem dX9_carry_53 : decode cX9_carry 53 = .ok (.iload_n 2, 1) := by decide +kernel
theorem dX9_carry_54 : decode cX9_carry 54 = .ok (.invokevirtual 245, 3) := by decide +kernel
theorem dX9_carry_57 : decode cX9_carry 57 = .ok (.ireturn, 1) := by decide +kernel
theorem dX9_carry_58 : decode cX9_carry 58 = .ok (.aload_n 0, 1) := by decide +kernel
theorem dX9_carry_59 : decode cX9_carry 59 = .ok (.aload_n 0, 1) := by decide +kernel
theorem dX9_carry_60 : decode cX9_carry 60 = .ok (.getfield 32, 3) := by decide +kernel
theorem dX9_carry_63 : decode cX9_carry 63 = .ok (.iload_n 2, 1) := by decide +kernel
theorem dX9_carry_64 : decode cX9_carry 64 = .ok (.iconst 2, 1) := by decide +kernel
theorem dX9_carry_65 : decode cX9_carry 65 = .ok (.iadd, 1) := by decide +kernel
theorem dX9_carry_66 : decode cX9_carry 66 = .ok (.iaload, 1) := by decide +kernel
theorem dX9_carry_67 : decode cX9_carry 67 = .ok (.aload_n 0, 1) := by decide +kernel
theorem dX9_carry_68 : decode cX9_carry 68 = .ok (.getfield 32, 3) := by decide +kernel
theorem dX9_carry_71 : decode cX9_carry 71 = .ok (.iload_n 2, 1) := by decide +kernel
theorem dX9_carry_72 : decode cX9_carry 72 = .ok (.iconst 3, 1) := by decide +kernel
theorem dX9_carry_73 : decode cX9_carry 73 = .ok (.iadd, 1) := by decide +kernel
theorem dX9_carry_74 : decode cX9_carry 74 = .ok (.iaload, 1) := by decide +kernel
theorem dX9_carry_75 : decode cX9_carry 75 = .ok (.aload_n 0, 1) := by decide +kernel
theorem dX9_carry_76 : decode cX9_carry 76 = .ok (.getfield 32, 3) := by decide +kernel
theorem dX9_carry_79 : decode cX9_carry 79 = .ok (.iload_n 2, 1) := by decide +kernel
theorem dX9_carry_80 : decode cX9_carry 80 = .ok (.iconst 4, 1) := by decide +kernel
theorem dX9_carry_81 : decode cX9_carry 81 = .ok (.iadd, 1) := by decide +kernel
theorem dX9_carry_82 : decode cX9_carry 82 = .ok (.iaload, 1) := by decide +kernel
theorem dX9_carry_83 : decode cX9_carry 83 = .ok (.iconst 0, 1) := by decide +kernel
theorem dX9_carry_84 : decode cX9_carry 84 = .ok (.invokevirtual 153, 3) := by decide +kernel
theorem dX9_carry_87 : decode cX9_carry 87 = .ok (.ireturn, 1) := by decide +kernel
theorem dX9_carry_88 : decode cX9_carry 88 = .ok (.aload_n 0, 1) := by decide +kernel
theorem dX9_carry_89 : decode cX9_carry 89 = .ok (.iconst 0, 1) := by decide +kernel
theorem dX9_carry_90 : decode cX9_carry 90 = .ok (.invokevirtual 166, 3) := by decide +kernel
theorem dX9_carry_93 : decode cX9_carry 93 = .ok (.ireturn, 1) := by decide +kernel
theorem dX9_carry_94 : decode cX9_carry 94 = .ok (.aload_n 0, 1) := by decide +kernel
theorem dX9_carry_95 : decode cX9_carry 95 = .ok (.invokevirtual 248, 3) := by decide +kernel
theorem dX9_carry_98 : decode cX9_carry 98 = .ok (.ireturn, 1) := by decide +kernel
theorem dX9_carry_99 : decode cX9_carry 99 = .ok (.aload_n 0, 1) := by decide +kernel
theorem dX9_carry_100 : decode cX9_carry 100 = .ok (.iconst 0, 1) := by decide +kernel
theorem dX9_carry_101 : decode cX9_carry 101 = .ok (.invokevirtual 116, 3) := by decide +kernel
theorem dX9_carry_104 : decode cX9_carry 104 = .ok (.ireturn, 1) := by decide +kernel
theorem eX9_carry_0 {l0 l1 l2 : Option VV} {S : MM} : rn xX9_carry (0, [l0, l1, l2], [], S) = rn xX9_carry (2, [l0, l1, l2], [vI 6], S) := rn_step dX9_carry_0 rfl rfl
theorem eX9_carry_2 {a : Int} {l0 l2 : Option VV} {v0 : VV} {S : MM} : rn xX9_carry (2, [l0, some (vI a), l2], [v0], S) = rn xX9_carry (3, [l0, some (vI a), l2], [vI a, v0], S) := rn_step dX9_carry_2 rfl rfl
theorem eX9_carry_3 {a b : Int} {l0 l1 l2 : Option VV} {S : MM} : rn xX9_carry (3, [l0, l1, l2], [vI b, vI a], S) = rn xX9_carry (4, [l0, l1, l2], [vI (a * b)], S) := rn_step dX9_carry_3 rfl rfl
theorem eX9_carry_4 {a : Int} {w : Int} {l0 l2 : Option VV} {S : MM} : rn xX9_carry (4, [l0, some (vI w), l2], [vI a], S) = rn xX9_carry (5, [l0, some (vI w), some (vI a)], [], S) := rn_step dX9_carry_4 rfl rfl
theorem eX9_carry_5 {a : Option Nat} {l1 l2 : Option VV} {S : MM} : rn xX9_carry (5, [some (.inr (.inl a)), l1, l2], [], S) = rn xX9_carry (6, [some (.inr (.inl a)), l1, l2], [.inr (.inl a)], S) := rn_step dX9_carry_5 rfl rfl
theorem eX9_carry_6 {l0 l1 l2 : Option VV} {S : MM} : rn xX9_carry (6, [l0, l1, l2], [vR 593], S) = rn xX9_carry (9, [l0, l1, l2], [vR 601], S) := q_getR dX9_carry_6 rfl ⟨⟨by decide, by decide⟩, by decide⟩ (fun _ => by decide +kernel) kd593
theorem eX9_carry_9 {a : Int} {l0 l1 : Option VV} {v0 : VV} {S : MM} : rn xX9_carry (9, [l0, l1, some (vI a)], [v0], S) = rn xX9_carry (10, [l0, l1, some (vI a)], [vI a, v0], S) := rn_step dX9_carry_9 rfl rfl
theorem eX9_carry_10 {i : Nat} {j : Int} {l0 l1 l2 : Option VV} (h : kd i = 10) (h0 : 0 ≤ j) (h1 : j < alen i) {S : MM} : rn xX9_carry (10, [l0, l1, l2], [vI j, vR i], S) = rn xX9_carry (11, [l0, l1, l2], [vI (S i j.toNat)], S) := q_iald dX9_carry_10 h h0 h1
theorem eX9_carry_10x {j : Int} {l0 l1 l2 : Option VV} {S : MM} (h0 : 0 ≤ j) (h1 : j < S 604 0) : rn xX9_carry (10, [l0, l1, l2], [vI j, vR 602], S) = rn xX9_carry (11, [l0, l1, l2], [vI (S 602 j.toNat)], S) := q_ialdX dX9_carry_10 h0 h1
theorem eX9_carry_10y {j : Int} {l0 l1 l2 : Option VV} {S : MM} (h0 : 0 ≤ j) (h1 : j < S 604 1) : rn xX9_carry (10, [l0, l1, l2], [vI j, vR 603], S) = rn xX9_carry (11, [l0, l1, l2], [vI (S 603 j.toNat)], S) := q_ialdY dX9_carry_10 h0 h1
theorem eX9_carry_11p : srt2 #[(100, 77), (102, 47), (103, 83), (115, 41)] = true := by decide +kernel
theorem eX9_carry_11o0 : Op.lookupswitch.offset (#[(100, 77), (102, 47), (103, 83), (115, 41)] : Array (Int × Int)).toList 88 100 = 77 := by decide +kernel
theorem eX9_carry_11o1 : Op.lookupswitch.offset (#[(100, 77), (102, 47), (103, 83), (115, 41)] : Array (Int × Int)).toList 88 102 = 47 := by decide +kernel
theorem eX9_carry_11o2 : Op.lookupswitch.offset (#[(100, 77), (102, 47), (103, 83), (115, 41)] : Array (Int × Int)).toList 88 103 = 83 := by decide +kernel
theorem eX9_carry_11o3 : Op.lookupswitch.offset (#[(100, 77), (102, 47), (103, 83), (115, 41)] : Array (Int × Int)).toList 88 115 = 41 := by decide +kernel
theorem eX9_carry_11d {a : Int} (c0 : ¬ a = 100) (c1 : ¬ a = 102) (c2 : ¬ a = 103) (c3 : ¬ a = 115) : Op.lookupswitch.offset (#[(100, 77), (102, 47), (103, 83), (115, 41)] : Array (Int × Int)).toList 88 a = 88 := by
  show Op.lookupswitch.offset [(100, 77), (102, 47), (103, 83), (115, 41)] 88 a = 88
  rw [Op.lookupswitch.offset_cons, if_neg (fun q => c0 q.symm), Op.lookupswitch.offset_cons, if_neg (fun q => c1 q.symm), Op.lookupswitch.offset_cons, if_neg (fun q => c2 q.symm), Op.lookupswitch.offset_cons, if_neg (fun q => c3 q.symm)]
  rfl
theorem eX9_carry_11 {a : Int} {l0 l1 l2 : Option VV} (h : -2147483648 ≤ a ∧ a ≤ 2147483647) {S : MM} : rn xX9_carry (11, [l0, l1, l2], [vI a], S) = if a = 100 then rn xX9_carry (88, [l0, l1, l2], [], S) else if a = 102 then rn xX9_carry (58, [l0, l1, l2], [], S) else if a = 103 then rn xX9_carry (94, [l0, l1, l2], [], S) else if a = 115 then rn xX9_carry (52, [l0, l1, l2], [], S) else rn xX9_carry (99, [l0, l1, l2], [], S) := by
  by_cases c0 : a = 100
  · subst c0; rw [if_pos rfl]; exact q_look (X := xX9_carry) (pc := 11) (L := [l0, l1, l2]) (st := []) (S := S) (x := 100) (t := 88) dX9_carry_11 eX9_carry_11p h eX9_carry_11o0 (by decide) rfl
  rw [if_neg c0]
  by_cases c1 : a = 102
  · subst c1; rw [if_pos rfl]; exact q_look (X := xX9_carry) (pc := 11) (L := [l0, l1, l2]) (st := []) (S := S) (x := 102) (t := 58) dX9_carry_11 eX9_carry_11p h eX9_carry_11o1 (by decide) rfl
  rw [if_neg c1]
  by_cases c2 : a = 103
  · subst c2; rw [if_pos rfl]; exact q_look (X := xX9_carry) (pc := 11) (L := [l0, l1, l2]) (st := []) (S := S) (x := 103) (t := 94) dX9_carry_11 eX9_carry_11p h eX9_carry_11o2 (by decide) rfl
  rw [if_neg c2]
  by_cases c3 : a = 115
  · subst c3; rw [if_pos rfl]; exact q_look (X := xX9_carry) (pc := 11) (L := [l0, l1, l2]) (st := []) (S := S) (x := 115) (t := 52) dX9_carry_11 eX9_carry_11p h eX9_carry_11o3 (by decide) rfl
  rw [if_neg c3]
  exact q_look (X := xX9_carry) (pc := 11) (L := [l0, l1, l2]) (st := []) (S := S) (x := a) (t := 99) dX9_carry_11 eX9_carry_11p h (eX9_carry_11d c0 c1 c2 c3) (by decide) rfl
theorem eX9_carry_52 {a : Option Nat} {l1 l2 : Option VV} {S : MM} : rn xX9_carry (52, [some (.inr (.inl a)), l1, l2], [], S) = rn xX9_carry (53, [some (.inr (.inl a)), l1, l2], [.inr (.inl a)], S) := rn_step dX9_carry_52 rfl rfl
theorem eX9_carry_53 {a : Int} {l0 l1 : Option VV} {v0 : VV} {S : MM} : rn xX9_carry (53, [l0, l1, some (vI a)], [v0], S) = rn xX9_carry (54, [l0, l1, some (vI a)], [vI a, v0], S) := rn_step dX9_carry_53 rfl rfl
theorem eX9_carry_54 {a0 : Int} {l0 l1 l2 : Option VV} {S : MM} : rn xX9_carry (54, [l0, l1, l2], [vI a0, vR 593], S) = (fX9_carryStones [vR 593, vI a0] S).bind (fun q => rn xX9_carry (57, [l0, l1, l2], q.1.toList ++ [], q.2)) := q_callV (n := 1) (as := [vI a0]) (rest := []) dX9_carry_54 rfl rfl rfl rfl kd593
theorem eX9_carry_57 {z : Int} {l0 l1 l2 : Option VV} {S : MM} : rn xX9_carry (57, [l0, l1, l2], [vI z], S) = some (some (vI z), S) := q_retI dX9_carry_57 rfl
theorem eX9_carry_58 {a : Option Nat} {l1 l2 : Option VV} {S : MM} : rn xX9_carry (58, [some (.inr (.inl a)), l1, l2], [], S) = rn xX9_carry (59, [some (.inr (.inl a)), l1, l2], [.inr (.inl a)], S) := rn_step dX9_carry_58 rfl rfl
theorem eX9_carry_59 {a : Option Nat} {l1 l2 : Option VV} {v0 : VV} {S : MM} : rn xX9_carry (59, [some (.inr (.inl a)), l1, l2], [v0], S) = rn xX9_carry (60, [some (.inr (.inl a)), l1, l2], [.inr (.inl a), v0], S) := rn_step dX9_carry_59 rfl rfl
theorem eX9_carry_60 {l0 l1 l2 : Option VV} {v1 : VV} {S : MM} : rn xX9_carry (60, [l0, l1, l2], [vR 593, v1], S) = rn xX9_carry (63, [l0, l1, l2], [vR 601, v1], S) := q_getR dX9_carry_60 rfl ⟨⟨by decide, by decide⟩, by decide⟩ (fun _ => by decide +kernel) kd593
theorem eX9_carry_63 {a : Int} {l0 l1 : Option VV} {v0 v1 : VV} {S : MM} : rn xX9_carry (63, [l0, l1, some (vI a)], [v0, v1], S) = rn xX9_carry (64, [l0, l1, some (vI a)], [vI a, v0, v1], S) := rn_step dX9_carry_63 rfl rfl
theorem eX9_carry_64 {l0 l1 l2 : Option VV} {v0 v1 v2 : VV} {S : MM} : rn xX9_carry (64, [l0, l1, l2], [v0, v1, v2], S) = rn xX9_carry (65, [l0, l1, l2], [vI 2, v0, v1, v2], S) := rn_step dX9_carry_64 rfl rfl
theorem eX9_carry_65 {a b : Int} {l0 l1 l2 : Option VV} {v2 v3 : VV} {S : MM} : rn xX9_carry (65, [l0, l1, l2], [vI b, vI a, v2, v3], S) = rn xX9_carry (66, [l0, l1, l2], [vI (a + b), v2, v3], S) := rn_step dX9_carry_65 rfl rfl
theorem eX9_carry_66 {i : Nat} {j : Int} {l0 l1 l2 : Option VV} {v2 : VV} (h : kd i = 10) (h0 : 0 ≤ j) (h1 : j < alen i) {S : MM} : rn xX9_carry (66, [l0, l1, l2], [vI j, vR i, v2], S) = rn xX9_carry (67, [l0, l1, l2], [vI (S i j.toNat), v2], S) := q_iald dX9_carry_66 h h0 h1
theorem eX9_carry_66x {j : Int} {l0 l1 l2 : Option VV} {v2 : VV} {S : MM} (h0 : 0 ≤ j) (h1 : j < S 604 0) : rn xX9_carry (66, [l0, l1, l2], [vI j, vR 602, v2], S) = rn xX9_carry (67, [l0, l1, l2], [vI (S 602 j.toNat), v2], S) := q_ialdX dX9_carry_66 h0 h1
theorem eX9_carry_66y {j : Int} {l0 l1 l2 : Option VV} {v2 : VV} {S : MM} (h0 : 0 ≤ j) (h1 : j < S 604 1) : rn xX9_carry (66, [l0, l1, l2], [vI j, vR 603, v2], S) = rn xX9_carry (67, [l0, l1, l2], [vI (S 603 j.toNat), v2], S) := q_ialdY dX9_carry_66 h0 h1
theorem eX9_carry_67 {a : Option Nat} {l1 l2 : Option VV} {v0 v1 : VV} {S : MM} : rn xX9_carry (67, [some (.inr (.inl a)), l1, l2], [v0, v1], S) = rn xX9_carry (68, [some (.inr (.inl a)), l1, l2], [.inr (.inl a), v0, v1], S) := rn_step dX9_carry_67 rfl rfl
theorem eX9_carry_68 {l0 l1 l2 : Option VV} {v1 v2 : VV} {S : MM} : rn xX9_carry (68, [l0, l1, l2], [vR 593, v1, v2], S) = rn xX9_carry (71, [l0, l1, l2], [vR 601, v1, v2], S) := q_getR dX9_carry_68 rfl ⟨⟨by decide, by decide⟩, by decide⟩ (fun _ => by decide +kernel) kd593
theorem eX9_carry_71 {a : Int} {l0 l1 : Option VV} {v0 v1 v2 : VV} {S : MM} : rn xX9_carry (71, [l0, l1, some (vI a)], [v0, v1, v2], S) = rn xX9_carry (72, [l0, l1, some (vI a)], [vI a, v0, v1, v2], S) := rn_step dX9_carry_71 rfl rfl
theorem eX9_carry_72 {l0 l1 l2 : Option VV} {v0 v1 v2 v3 : VV} {S : MM} : rn xX9_carry (72, [l0, l1, l2], [v0, v1, v2, v3], S) = rn xX9_carry (73, [l0, l1, l2], [vI 3, v0, v1, v2, v3], S) := rn_step dX9_carry_72 rfl rfl
theorem eX9_carry_73 {a b : Int} {l0 l1 l2 : Option VV} {v2 v3 v4 : VV} {S : MM} : rn xX9_carry (73, [l0, l1, l2], [vI b, vI a, v2, v3, v4], S) = rn xX9_carry (74, [l0, l1, l2], [vI (a + b), v2, v3, v4], S) := rn_step dX9_carry_73 rfl rfl
theorem eX9_carry_74 {i : Nat} {j : Int} {l0 l1 l2 : Option VV} {v2 v3 : VV} (h : kd i = 10) (h0 : 0 ≤ j) (h1 : j < alen i) {S : MM} : rn xX9_carry (74, [l0, l1, l2], [vI j, vR i, v2, v3], S) = rn xX9_carry (75, [l0, l1, l2], [vI (S i j.toNat), v2, v3], S) := q_iald dX9_carry_74 h h0 h1
theorem eX9_carry_74x {j : Int} {l0 l1 l2 : Option VV} {v2 v3 : VV} {S : MM} (h0 : 0 ≤ j) (h1 : j < S 604 0) : rn xX9_carry (74, [l0, l1, l2], [vI j, vR 602, v2, v3], S) = rn xX9_carry (75, [l0, l1, l2], [vI (S 602 j.toNat), v2, v3], S) := q_ialdX dX9_carry_74 h0 h1
theorem eX9_carry_74y {j : Int} {l0 l1 l2 : Option VV} {v2 v3 : VV} {S : MM} (h0 : 0 ≤ j) (h1 : j < S 604 1) : rn xX9_carry (74, [l0, l1, l2], [vI j, vR 603, v2, v3], S) = rn xX9_carry (75, [l0, l1, l2], [vI (S 603 j.toNat), v2, v3], S) := q_ialdY dX9_carry_74 h0 h1
theorem eX9_carry_75 {a : Option Nat} {l1 l2 : Option VV} {v0 v1 v2 : VV} {S : MM} : rn xX9_carry (75, [some (.inr (.inl a)), l1, l2], [v0, v1, v2], S) = rn xX9_carry (76, [some (.inr (.inl a)), l1, l2], [.inr (.inl a), v0, v1, v2], S) := rn_step dX9_carry_75 rfl rfl
theorem eX9_carry_76 {l0 l1 l2 : Option VV} {v1 v2 v3 : VV} {S : MM} : rn xX9_carry (76, [l0, l1, l2], [vR 593, v1, v2, v3], S) = rn xX9_carry (79, [l0, l1, l2], [vR 601, v1, v2, v3], S) := q_getR dX9_carry_76 rfl ⟨⟨by decide, by decide⟩, by decide⟩ (fun _ => by decide +kernel) kd593
theorem eX9_carry_79 {a : Int} {l0 l1 : Option VV} {v0 v1 v2 v3 : VV} {S : MM} : rn xX9_carry (79, [l0, l1, some (vI a)], [v0, v1, v2, v3], S) = rn xX9_carry (80, [l0, l1, some (vI a)], [vI a, v0, v1, v2, v3], S) := rn_step dX9_carry_79 rfl rfl
theorem eX9_carry_80 {l0 l1 l2 : Option VV} {v0 v1 v2 v3 v4 : VV} {S : MM} : rn xX9_carry (80, [l0, l1, l2], [v0, v1, v2, v3, v4], S) = rn xX9_carry (81, [l0, l1, l2], [vI 4, v0, v1, v2, v3, v4], S) := rn_step dX9_carry_80 rfl rfl
theorem eX9_carry_81 {a b : Int} {l0 l1 l2 : Option VV} {v2 v3 v4 v5 : VV} {S : MM} : rn xX9_carry (81, [l0, l1, l2], [vI b, vI a, v2, v3, v4, v5], S) = rn xX9_carry (82, [l0, l1, l2], [vI (a + b), v2, v3, v4, v5], S) := rn_step dX9_carry_81 rfl rfl
theorem eX9_carry_82 {i : Nat} {j : Int} {l0 l1 l2 : Option VV} {v2 v3 v4 : VV} (h : kd i = 10) (h0 : 0 ≤ j) (h1 : j < alen i) {S : MM} : rn xX9_carry (82, [l0, l1, l2], [vI j, vR i, v2, v3, v4], S) = rn xX9_carry (83, [l0, l1, l2], [vI (S i j.toNat), v2, v3, v4], S) := q_iald dX9_carry_82 h h0 h1
theorem eX9_carry_82x {j : Int} {l0 l1 l2 : Option VV} {v2 v3 v4 : VV} {S : MM} (h0 : 0 ≤ j) (h1 : j < S 604 0) : rn xX9_carry (82, [l0, l1, l2], [vI j, vR 602, v2, v3, v4], S) = rn xX9_carry (83, [l0, l1, l2], [vI (S 602 j.toNat), v2, v3, v4], S) := q_ialdX dX9_carry_82 h0 h1
theorem eX9_carry_82y {j : Int} {l0 l1 l2 : Option VV} {v2 v3 v4 : VV} {S : MM} (h0 : 0 ≤ j) (h1 : j < S 604 1) : rn xX9_carry (82, [l0, l1, l2], [vI j, vR 603, v2, v3, v4], S) = rn xX9_carry (83, [l0, l1, l2], [vI (S 603 j.toNat), v2, v3, v4], S) := q_ialdY dX9_carry_82 h0 h1
theorem eX9_carry_83 {l0 l1 l2 : Option VV} {v0 v1 v2 v3 : VV} {S : MM} : rn xX9_carry (83, [l0, l1, l2], [v0, v1, v2, v3], S) = rn xX9_carry (84, [l0, l1, l2], [vI 0, v0, v1, v2, v3], S) := rn_step dX9_carry_83 rfl rfl
theorem eX9_carry_84 {a0 : Int} {a1 : Int} {a2 : Int} {a3 : Int} {l0 l1 l2 : Option VV} {S : MM} : rn xX9_carry (84, [l0, l1, l2], [vI a3, vI a2, vI a1, vI a0, vR 593], S) = (fX9_tryFlood [vR 593, vI a0, vI a1, vI a2, vI a3] S).bind (fun q => rn xX9_carry (87, [l0, l1, l2], q.1.toList ++ [], q.2)) := q_callV (n := 4) (as := [vI a0, vI a1, vI a2, vI a3]) (rest := []) dX9_carry_84 rfl rfl rfl rfl kd593
theorem eX9_carry_87 {z : Int} {l0 l1 l2 : Option VV} {S : MM} : rn xX9_carry (87, [l0, l1, l2], [vI z], S) = some (some (vI z), S) := q_retI dX9_carry_87 rfl
theorem eX9_carry_88 {a : Option Nat} {l1 l2 : Option VV} {S : MM} : rn xX9_carry (88, [some (.inr (.inl a)), l1, l2], [], S) = rn xX9_carry (89, [some (.inr (.inl a)), l1, l2], [.inr (.inl a)], S) := rn_step dX9_carry_88 rfl rfl
theorem eX9_carry_89 {l0 l1 l2 : Option VV} {v0 : VV} {S : MM} : rn xX9_carry (89, [l0, l1, l2], [v0], S) = rn xX9_carry (90, [l0, l1, l2], [vI 0, v0], S) := rn_step dX9_carry_89 rfl rfl
theorem eX9_carry_90 {a0 : Int} {l0 l1 l2 : Option VV} {S : MM} : rn xX9_carry (90, [l0, l1, l2], [vI a0, vR 593], S) = (fX9_tryDry [vR 593, vI a0] S).bind (fun q => rn xX9_carry (93, [l0, l1, l2], q.1.toList ++ [], q.2)) := q_callV (n := 1) (as := [vI a0]) (rest := []) dX9_carry_90 rfl rfl rfl rfl kd593
theorem eX9_carry_93 {z : Int} {l0 l1 l2 : Option VV} {S : MM} : rn xX9_carry (93, [l0, l1, l2], [vI z], S) = some (some (vI z), S) := q_retI dX9_carry_93 rfl
theorem eX9_carry_94 {a : Option Nat} {l1 l2 : Option VV} {S : MM} : rn xX9_carry (94, [some (.inr (.inl a)), l1, l2], [], S) = rn xX9_carry (95, [some (.inr (.inl a)), l1, l2], [.inr (.inl a)], S) := rn_step dX9_carry_94 rfl rfl
theorem eX9_carry_95 {l0 l1 l2 : Option VV} {S : MM} : rn xX9_carry (95, [l0, l1, l2], [vR 593], S) = (fX9_carryBegin [vR 593] S).bind (fun q => rn xX9_carry (98, [l0, l1, l2], q.1.toList ++ [], q.2)) := q_callV (n := 0) (as := []) (rest := []) dX9_carry_95 rfl rfl rfl rfl kd593
theorem eX9_carry_98 {z : Int} {l0 l1 l2 : Option VV} {S : MM} : rn xX9_carry (98, [l0, l1, l2], [vI z], S) = some (some (vI z), S) := q_retI dX9_carry_98 rfl
theorem eX9_carry_99 {a : Option Nat} {l1 l2 : Option VV} {S : MM} : rn xX9_carry (99, [some (.inr (.inl a)), l1, l2], [], S) = rn xX9_carry (100, [some (.inr (.inl a)), l1, l2], [.inr (.inl a)], S) := rn_step dX9_carry_99 rfl rfl
theorem eX9_carry_100 {l0 l1 l2 : Option VV} {v0 : VV} {S : MM} : rn xX9_carry (100, [l0, l1, l2], [v0], S) = rn xX9_carry (101, [l0, l1, l2], [vI 0, v0], S) := rn_step dX9_carry_100 rfl rfl
theorem eX9_carry_101 {a0 : Int} {l0 l1 l2 : Option VV} {S : MM} : rn xX9_carry (101, [l0, l1, l2], [vI a0, vR 593], S) = (fX9_tryLeap [vR 593, vI a0] S).bind (fun q => rn xX9_carry (104, [l0, l1, l2], q.1.toList ++ [], q.2)) := q_callV (n := 1) (as := [vI a0]) (rest := []) dX9_carry_101 rfl rfl rfl rfl kd593
theorem eX9_carry_104 {z : Int} {l0 l1 l2 : Option VV} {S : MM} : rn xX9_carry (104, [l0, l1, l2], [vI z], S) = some (some (vI z), S) := q_retI dX9_carry_104 rfl
noncomputable def qlX9_carryOut : List CE := [(0, 251, 9, 1, fX9_fault), (0, 50, 9, 1, fX9_keep), (0, 254, 9, 2, fX9_carry)]
noncomputable def xX9_carryOut : XX := (cX9_carryOut, fcF fcl9, mcF qlX9_carryOut, 1)
noncomputable def fX9_carryOut : FN := fnX xX9_carryOut 2
set_option maxRecDepth 100000 in
theorem cwX9_carryOut : Cond.code yX9_carryOut cX9_carryOut 2 (some .int) ∈ lw_g := lw_gm 1239 (by decide +kernel) (by decide +kernel)
set_option maxRecDepth 100000 in
theorem conX9_carryOut : Con yX9_carryOut cX9_carryOut 2 (some .int) { frames := 7, cells := 0, slots := 0, locals := 159 } fX9_carryOut := con_of (X := xX9_carryOut) (own := "LeapStonesModel") (ql := qlX9_carryOut) (by decide) rfl FOK9 rfl (List.forall_mem_cons.mpr ⟨call_V conX9_fault cwX9_fault (lw_gl _ [1240, 1193, 1194, 84] (by decide +kernel) (by decide +kernel)) (by decide) rfl ⟨by decide, by decide, by decide +kernel⟩ ⟨rfl, rfl⟩ ⟨by decide, by decide⟩ ⟨Nat.le_refl _, Nat.le_refl _⟩, List.forall_mem_cons.mpr ⟨call_V conX9_keep cwX9_keep (lw_gl _ [947, 949, 20, 84] (by decide +kernel) (by decide +kernel)) (by decide) rfl ⟨by decide, by decide, by decide +kernel⟩ ⟨rfl, rfl⟩ ⟨by decide, by decide⟩ ⟨Nat.le_refl _, Nat.le_refl _⟩, List.forall_mem_cons.mpr ⟨call_V conX9_carry cwX9_carry (lw_gl _ [1241, 1243, 71, 84] (by decide +kernel) (by decide +kernel)) (by decide) rfl ⟨by decide, by decide, by decide +kernel⟩ ⟨rfl, rfl⟩ ⟨by decide, by decide⟩ ⟨Nat.le_refl _, Nat.le_refl _⟩, fun _ h => absurd h List.not_mem_nil⟩⟩⟩) (Or.inr (Or.inl ⟨rfl, rfl⟩))
theorem uX9_carryOut {i : Nat} {S : MM} : fX9_carryOut [vR i] S = rn xX9_carryOut (0, [some (vR i), none], [], S) := rfl
theorem dX9_carryOut_0 : decode cX9_carryOut 0 = .ok (.aload_n 0, 1) := by decide +kernel
theorem dX9_carryOut_1 : decode cX9_carryOut 1 = .ok (.invokevirtual 251, 3) := by decide +kernel
theorem dX9_carryOut_4 : decode cX9_carryOut 4 = .ok (.ifCond .lt 6, 3) := by decide +kernel
theorem dX9_carryOut_7 : decode cX9_carryOut 7 = .ok (.bipush (-3), 2) := by decide +kernel
theorem dX9_carryOut_9 : decode cX9_carryOut 9 = .ok (.ireturn, 1) := by decide +kernel
theorem dX9_carryOut_10 : decode cX9_carryOut 10 = .ok (.aload_n 0, 1) := by decide +kernel
theorem dX9_carryOut_11 : decode cX9_carryOut 11 = .ok (.invokevirtual 50, 3) := by decide +kernel
theorem dX9_carryOut_14 : decode cX9_carryOut 14 = .ok (.aload_n 0, 1) := by decide +kernel
theorem dX9_carryOut_15 : decode cX9_carryOut 15 = .ok (.iconst 0, 1) := by decide +kernel
theorem dX9_carryOut_16 : decode cX9_carryOut 16 = .ok (.putfield 184, 3) := by decide +kernel
theorem dX9_carryOut_19 : decode cX9_carryOut 19 = .ok (.iconst 0, 1) := by decide +kernel
theorem dX9_carryOut_20 : decode cX9_carryOut 20 = .ok (.istore_n 1, 1) := by decide +kernel
theorem dX9_carryOut_21 : decode cX9_carryOut 21 = .ok (.iload_n 1, 1) := by decide +kernel
theorem dX9_carryOut_22 : decode cX9_carryOut 22 = .ok (.aload_n 0, 1) := by decide +kernel
theorem dX9_carryOut_23 : decode cX9_carryOut 23 = .ok (.getfield 214, 3) := by decide +kernel
theorem dX9_carryOut_26 : decode cX9_carryOut 26 = .ok (.if_icmp .ge 29, 3) := by decide +kernel
theorem dX9_carryOut_29 : decode cX9_carryOut 29 = .ok (.aload_n 0, 1) := by decide +kernel
theorem dX9_carryOut_30 : decode cX9_carryOut 30 = .ok (.iload_n 1, 1) := by decide +kernel
theorem dX9_carryOut_31 : decode cX9_carryOut 31 = .ok (.invokevirtual 254, 3) := by decide +kernel
theorem dX9_carryOut_34 : decode cX9_carryOut 34 = .ok (.ifCond .ge 15, 3) := by decide +kernel
theorem dX9_carryOut_37 : decode cX9_carryOut 37 = .ok (.aload_n 0, 1) := by decide +kernel
theorem dX9_carryOut_38 : decode cX9_carryOut 38 = .ok (.getfield 32, 3) := by decide +kernel
theorem dX9_carryOut_41 : decode cX9_carryOut 41 = .ok (.bipush 6, 2) := by decide +kernel
theorem dX9_carryOut_43 : decode cX9_carryOut 43 = .ok (.iload_n 1, 1) := by decide +kernel
theorem dX9_carryOut_44 : decode cX9_carryOut 44 = .ok (.imul, 1) := by decide +kernel
theorem dX9_carryOut_45 : decode cX9_carryOut 45 = .ok (.iconst 1, 1) := by decide +kernel
theorem dX9_carryOut_46 : decode cX9_carryOut 46 = .ok (.iadd, 1) := by decide +kernel
theorem dX9_carryOut_47 : decode cX9_carryOut 47 = .ok (.iaload, 1) := by decide +kernel
theorem dX9_carryOut_48 : decode cX9_carryOut 48 = .ok (.ireturn, 1) := by decide +kernel
theorem dX9_carryOut_49 : decode cX9_carryOut 49 = .ok (.iinc 1 1, 3) := by decide +kernel
theorem dX9_carryOut_52 : decode cX9_carryOut 52 = .ok (.goto (-31), 3) := by decide +kernel
theorem dX9_carryOut_55 : decode cX9_carryOut 55 = .ok (.aload_n 0, 1) := by decide +kernel
theorem dX9_carryOut_56 : decode cX9_carryOut 56 = .ok (.getfield 217, 3) := by decide +kernel
theorem dX9_carryOut_59 : decode cX9_carryOut 59 = .ok (.ireturn, 1) := by decide +kernel
theorem eX9_carryOut_0 {a : Option Nat} {l1 : Option VV} {S : MM} : rn xX9_carryOut (0, [some (.inr (.inl a)), l1], [], S) = rn xX9_carryOut (1, [some (.inr (.inl a)), l1], [.inr (.inl a)], S) := rn_step dX9_carryOut_0 rfl rfl
theorem eX9_carryOut_1 {l0 l1 : Option VV} {S : MM} : rn xX9_carryOut (1, [l0, l1], [vR 593], S) = (fX9_fault [vR 593] S).bind (fun q => rn xX9_carryOut (4, [l0, l1], q.1.toList ++ [], q.2)) := q_callV (n := 0) (as := []) (rest := []) dX9_carryOut_1 rfl rfl rfl rfl kd593
theorem eX9_carryOut_4 {a : Int} {l0 l1 : Option VV} (h : -2147483648 ≤ a ∧ a ≤ 2147483647) {S : MM} : rn xX9_carryOut (4, [l0, l1], [vI a], S) = if a < 0 then rn xX9_carryOut (10, [l0, l1], [], S) else rn xX9_carryOut (7, [l0, l1], [], S) := q_if_lt dX9_carryOut_4 (by decide) rfl h
theorem eX9_carryOut_7 {l0 l1 : Option VV} {S : MM} : rn xX9_carryOut (7, [l0, l1], [], S) = rn xX9_carryOut (9, [l0, l1], [vI (-3)], S) := rn_step dX9_carryOut_7 rfl rfl
theorem eX9_carryOut_9 {z : Int} {l0 l1 : Option VV} {S : MM} : rn xX9_carryOut (9, [l0, l1], [vI z], S) = some (some (vI z), S) := q_retI dX9_carryOut_9 rfl
theorem eX9_carryOut_10 {a : Option Nat} {l1 : Option VV} {S : MM} : rn xX9_carryOut (10, [some (.inr (.inl a)), l1], [], S) = rn xX9_carryOut (11, [some (.inr (.inl a)), l1], [.inr (.inl a)], S) := rn_step dX9_carryOut_10 rfl rfl
theorem eX9_carryOut_11 {l0 l1 : Option VV} {S : MM} : rn xX9_carryOut (11, [l0, l1], [vR 593], S) = (fX9_keep [vR 593] S).bind (fun q => rn xX9_carryOut (14, [l0, l1], q.1.toList ++ [], q.2)) := q_callV (n := 0) (as := []) (rest := []) dX9_carryOut_11 rfl rfl rfl rfl kd593
theorem eX9_carryOut_14 {a : Option Nat} {l1 : Option VV} {S : MM} : rn xX9_carryOut (14, [some (.inr (.inl a)), l1], [], S) = rn xX9_carryOut (15, [some (.inr (.inl a)), l1], [.inr (.inl a)], S) := rn_step dX9_carryOut_14 rfl rfl
theorem eX9_carryOut_15 {l0 l1 : Option VV} {v0 : VV} {S : MM} : rn xX9_carryOut (15, [l0, l1], [v0], S) = rn xX9_carryOut (16, [l0, l1], [vI 0, v0], S) := rn_step dX9_carryOut_15 rfl rfl
theorem eX9_carryOut_16 {z : Int} {l0 l1 : Option VV} {S : MM} : rn xX9_carryOut (16, [l0, l1], [vI z, vR 593], S) = rn xX9_carryOut (19, [l0, l1], [], updM S 593 11 z) := q_put dX9_carryOut_16 rfl ⟨by decide, by decide⟩ rfl kd593
theorem eX9_carryOut_19 {l0 l1 : Option VV} {S : MM} : rn xX9_carryOut (19, [l0, l1], [], S) = rn xX9_carryOut (20, [l0, l1], [vI 0], S) := rn_step dX9_carryOut_19 rfl rfl
theorem eX9_carryOut_20 {a : Int} {w : Option Nat} {l1 : Option VV} {S : MM} : rn xX9_carryOut (20, [some (.inr (.inl w)), l1], [vI a], S) = rn xX9_carryOut (21, [some (.inr (.inl w)), some (vI a)], [], S) := rn_step dX9_carryOut_20 rfl rfl
theorem eX9_carryOut_21 {a : Int} {l0 : Option VV} {S : MM} : rn xX9_carryOut (21, [l0, some (vI a)], [], S) = rn xX9_carryOut (22, [l0, some (vI a)], [vI a], S) := rn_step dX9_carryOut_21 rfl rfl
theorem eX9_carryOut_22 {a : Option Nat} {l1 : Option VV} {v0 : VV} {S : MM} : rn xX9_carryOut (22, [some (.inr (.inl a)), l1], [v0], S) = rn xX9_carryOut (23, [some (.inr (.inl a)), l1], [.inr (.inl a), v0], S) := rn_step dX9_carryOut_22 rfl rfl
theorem eX9_carryOut_23 {l0 l1 : Option VV} {v1 : VV} {S : MM} : rn xX9_carryOut (23, [l0, l1], [vR 593, v1], S) = rn xX9_carryOut (26, [l0, l1], [vI (S 593 15), v1], S) := q_getI dX9_carryOut_23 rfl ⟨⟨by decide, by decide⟩, by decide⟩ kd593
theorem eX9_carryOut_26 {a b : Int} {l0 l1 : Option VV} (h : -2147483648 ≤ a ∧ a ≤ 2147483647) (h1 : -2147483648 ≤ b ∧ b ≤ 2147483647) {S : MM} : rn xX9_carryOut (26, [l0, l1], [vI b, vI a], S) = if a < b then rn xX9_carryOut (29, [l0, l1], [], S) else rn xX9_carryOut (55, [l0, l1], [], S) := q_icmp_ge dX9_carryOut_26 (by decide) rfl h h1
theorem eX9_carryOut_29 {a : Option Nat} {l1 : Option VV} {S : MM} : rn xX9_carryOut (29, [some (.inr (.inl a)), l1], [], S) = rn xX9_carryOut (30, [some (.inr (.inl a)), l1], [.inr (.inl a)], S) := rn_step dX9_carryOut_29 rfl rfl
theorem eX9_carryOut_30 {a : Int} {l0 : Option VV} {v0 : VV} {S : MM} : rn xX9_carryOut (30, [l0, some (vI a)], [v0], S) = rn xX9_carryOut (31, [l0, some (vI a)], [vI a, v0], S) := rn_step dX9_carryOut_30 rfl rfl
theorem eX9_carryOut_31 {a0 : Int} {l0 l1 : Option VV} {S : MM} : rn xX9_carryOut (31, [l0, l1], [vI a0, vR 593], S) = (fX9_carry [vR 593, vI a0] S).bind (fun q => rn xX9_carryOut (34, [l0, l1], q.1.toList ++ [], q.2)) := q_callV (n := 1) (as := [vI a0]) (rest := []) dX9_carryOut_31 rfl rfl rfl rfl kd593
theorem eX9_carryOut_34 {a : Int} {l0 l1 : Option VV} (h : -2147483648 ≤ a ∧ a ≤ 2147483647) {S : MM} : rn xX9_carryOut (34, [l0, l1], [vI a], S) = if a < 0 then rn xX9_carryOut (37, [l0, l1], [], S) else rn xX9_carryOut (49, [l0, l1], [], S) := q_if_ge dX9_carryOut_34 (by decide) rfl h
theorem eX9_carryOut_37 {a : Option Nat} {l1 : Option VV} {S : MM} : rn xX9_carryOut (37, [some (.inr (.inl a)), l1], [], S) = rn xX9_carryOut (38, [some (.inr (.inl a)), l1], [.inr (.inl a)], S) := rn_step dX9_carryOut_37 rfl rfl
theorem eX9_carryOut_38 {l0 l1 : Option VV} {S : MM} : rn xX9_carryOut (38, [l0, l1], [vR 593], S) = rn xX9_carryOut (41, [l0, l1], [vR 601], S) := q_getR dX9_carryOut_38 rfl ⟨⟨by decide, by decide⟩, by decide⟩ (fun _ => by decide +kernel) kd593
theorem eX9_carryOut_41 {l0 l1 : Option VV} {v0 : VV} {S : MM} : rn xX9_carryOut (41, [l0, l1], [v0], S) = rn xX9_carryOut (43, [l0, l1], [vI 6, v0], S) := rn_step dX9_carryOut_41 rfl rfl
theorem eX9_carryOut_43 {a : Int} {l0 : Option VV} {v0 v1 : VV} {S : MM} : rn xX9_carryOut (43, [l0, some (vI a)], [v0, v1], S) = rn xX9_carryOut (44, [l0, some (vI a)], [vI a, v0, v1], S) := rn_step dX9_carryOut_43 rfl rfl
theorem eX9_carryOut_44 {a b : Int} {l0 l1 : Option VV} {v2 : VV} {S : MM} : rn xX9_carryOut (44, [l0, l1], [vI b, vI a, v2], S) = rn xX9_carryOut (45, [l0, l1], [vI (a * b), v2], S) := rn_step dX9_carryOut_44 rfl rfl
theorem eX9_carryOut_45 {l0 l1 : Option VV} {v0 v1 : VV} {S : MM} : rn xX9_carryOut (45, [l0, l1], [v0, v1], S) = rn xX9_carryOut (46, [l0, l1], [vI 1, v0, v1], S) := rn_step dX9_carryOut_45 rfl rfl
theorem eX9_carryOut_46 {a b : Int} {l0 l1 : Option VV} {v2 : VV} {S : MM} : rn xX9_carryOut (46, [l0, l1], [vI b, vI a, v2], S) = rn xX9_carryOut (47, [l0, l1], [vI (a + b), v2], S) := rn_step dX9_carryOut_46 rfl rfl
theorem eX9_carryOut_47 {i : Nat} {j : Int} {l0 l1 : Option VV} (h : kd i = 10) (h0 : 0 ≤ j) (h1 : j < alen i) {S : MM} : rn xX9_carryOut (47, [l0, l1], [vI j, vR i], S) = rn xX9_carryOut (48, [l0, l1], [vI (S i j.toNat)], S) := q_iald dX9_carryOut_47 h h0 h1
theorem eX9_carryOut_47x {j : Int} {l0 l1 : Option VV} {S : MM} (h0 : 0 ≤ j) (h1 : j < S 604 0) : rn xX9_carryOut (47, [l0, l1], [vI j, vR 602], S) = rn xX9_carryOut (48, [l0, l1], [vI (S 602 j.toNat)], S) := q_ialdX dX9_carryOut_47 h0 h1
theorem eX9_carryOut_47y {j : Int} {l0 l1 : Option VV} {S : MM} (h0 : 0 ≤ j) (h1 : j < S 604 1) : rn xX9_carryOut (47, [l0, l1], [vI j, vR 603], S) = rn xX9_carryOut (48, [l0, l1], [vI (S 603 j.toNat)], S) := q_ialdY dX9_carryOut_47 h0 h1
theorem eX9_carryOut_48 {z : Int} {l0 l1 : Option VV} {S : MM} : rn xX9_carryOut (48, [l0, l1], [vI z], S) = some (some (vI z), S) := q_retI dX9_carryOut_48 rfl
theorem eX9_carryOut_49 {a : Int} {w : Option Nat} {S : MM} : rn xX9_carryOut (49, [some (.inr (.inl w)), some (vI a)], [], S) = rn xX9_carryOut (52, [some (.inr (.inl w)), some (vI (a + 1))], [], S) := rn_step dX9_carryOut_49 rfl rfl
theorem eX9_carryOut_52 {l0 l1 : Option VV} {S : MM} : rn xX9_carryOut (52, [l0, l1], [], S) = rn xX9_carryOut (21, [l0, l1], [], S) := rn_step dX9_carryOut_52 rfl rfl
theorem eX9_carryOut_55 {a : Option Nat} {l1 : Option VV} {S : MM} : rn xX9_carryOut (55, [some (.inr (.inl a)), l1], [], S) = rn xX9_carryOut (56, [some (.inr (.inl a)), l1], [.inr (.inl a)], S) := rn_step dX9_carryOut_55 rfl rfl
theorem eX9_carryOut_56 {l0 l1 : Option VV} {S : MM} : rn xX9_carryOut (56, [l0, l1], [vR 593], S) = rn xX9_carryOut (59, [l0, l1], [vI (S 593 14)], S) := q_getI dX9_carryOut_56 rfl ⟨⟨by decide, by decide⟩, by decide⟩ kd593
theorem eX9_carryOut_59 {z : Int} {l0 l1 : Option VV} {S : MM} : rn xX9_carryOut (59, [l0, l1], [vI z], S) = some (some (vI z), S) := q_retI dX9_carryOut_59 rfl
noncomputable def qlX9_undo : List CE := []
noncomputable def xX9_undo : XX := (cX9_undo, fcF fcl9, mcF qlX9_undo, 1)
noncomputable def fX9_undo : FN := fnX xX9_undo 3
set_option maxRecDepth 100000 in
theorem cwX9_undo : Cond.code yX9_undo cX9_undo 3 (some .int) ∈ lw_g := lw_gm 1256 (by decide +kernel) (by decide +kernel)
set_option maxRecDepth 100000 in
theorem conX9_undo : Con yX9_undo cX9_undo 3 (some .int) { frames := 0, cells := 0, slots := 0, locals := 0 } fX9_undo := con_of (X := xX9_undo) (own := "LeapStonesModel") (ql := qlX9_undo) (by decide) rfl FOK9 rfl (fun _ h => absurd h List.not_mem_nil) (Or.inr (Or.inl ⟨rfl, rfl⟩))
theorem uX9_undo {i : Nat} {S : MM} : fX9_undo [vR i] S = rn xX9_undo (0, [some (vR i), none, none], [], S) := rfl
theorem dX9_undo_0 : decode cX9_undo 0 = .ok (.aload_n 0, 1) := by decide +kernel
theorem dX9_undo_1 : decode cX9_undo 1 = .ok (.getfield 43, 3) := by decide +kernel
theorem dX9_undo_4 : decode cX9_undo 4 = .ok (.ifCond .ne 6, 3) := by decide +kernel
theorem dX9_undo_7 : decode cX9_undo 7 = .ok (.bipush (-5), 2) := by decide +kernel
theorem dX9_undo_9 : decode cX9_undo 9 = .ok (.ireturn, 1) := by decide +kernel
theorem dX9_undo_10 : decode cX9_undo 10 = .ok (.aload_n 0, 1) := by decide +kernel
theorem dX9_undo_11 : decode cX9_undo 11 = .ok (.dup, 1) := by decide +kernel
theorem dX9_undo_12 : decode cX9_undo 12 = .ok (.getfield 43, 3) := by decide +kernel
theorem dX9_undo_15 : decode cX9_undo 15 = .ok (.iconst 1, 1) := by decide +kernel
theorem dX9_undo_16 : decode cX9_undo 16 = .ok (.isub, 1) := by decide +kernel
theorem dX9_undo_17 : decode cX9_undo 17 = .ok (.putfield 43, 3) := by decide +kernel
theorem dX9_undo_20 : decode cX9_undo 20 = .ok (.aload_n 0, 1) := by decide +kernel
theorem dX9_undo_21 : decode cX9_undo 21 = .ok (.getfield 47, 3) := by decide +kernel
theorem dX9_undo_24 : decode cX9_undo 24 = .ok (.aload_n 0, 1) := by decide +kernel
theorem dX9_undo_25 : decode cX9_undo 25 = .ok (.getfield 43, 3) := by decide +kernel
theorem dX9_undo_28 : decode cX9_undo 28 = .ok (.iadd, 1) := by decide +kernel
theorem dX9_undo_29 : decode cX9_undo 29 = .ok (.bipush 6, 2) := by decide +kernel
theorem dX9_undo_31 : decode cX9_undo 31 = .ok (.irem, 1) := by decide +kernel
theorem dX9_undo_32 : decode cX9_undo 32 = .ok (.istore_n 1, 1) := by decide +kernel
theorem dX9_undo_33 : decode cX9_undo 33 = .ok (.iconst 0, 1) := by decide +kernel
theorem dX9_undo_34 : decode cX9_undo 34 = .ok (.istore_n 2, 1) := by decide +kernel
theorem dX9_undo_35 : decode cX9_undo 35 = .ok (.iload_n 2, 1) := by decide +kernel
theorem dX9_undo_36 : decode cX9_undo 36 = .ok (.sipush 4825, 3) := by decide +kernel
theorem dX9_undo_39 : decode cX9_undo 39 = .ok (.if_icmp .ge 27, 3) := by decide +kernel
theorem dX9_undo_42 : decode cX9_undo 42 = .ok (.aload_n 0, 1) := by decide +kernel
theorem dX9_undo_43 : decode cX9_undo 43 = .ok (.getfield 7, 3) := by decide +kernel
theorem dX9_undo_46 : decode cX9_undo 46 = .ok (.iload_n 2, 1) := by decide +kernel
theorem dX9_undo_47 : decode cX9_undo 47 = .ok (.aload_n 0, 1) := by decide +kernel
theorem dX9_undo_48 : decode cX9_undo 48 = .ok (.getfield 13, 3) := by decide +kernel
theorem dX9_undo_51 : decode cX9_undo 51 = .ok (.sipush 4825, 3) := by decide +kernel
theorem dX9_undo_54 : decode cX9_undo 54 = .ok (.iload_n 1, 1) := by decide +kernel
theorem dX9_undo_55 : decode cX9_undo 55 = .ok (.imul, 1) := by decide +kernel
theorem dX9_undo_56 : decode cX9_undo 56 = .ok (.iload_n 2, 1) := by decide +kernel
theorem dX9_undo_57 : decode cX9_undo 57 = .ok (.iadd, 1) := by decide +kernel
theorem dX9_undo_58 : decode cX9_undo 58 = .ok (.iaload, 1) := by decide +kernel
theorem dX9_undo_59 : decode cX9_undo 59 = .ok (.iastore, 1) := by decide +kernel
theorem dX9_undo_60 : decode cX9_undo 60 = .ok (.iinc 2 1, 3) := by decide +kernel
theorem dX9_undo_63 : decode cX9_undo 63 = .ok (.goto (-28), 3) := by decide +kernel
theorem dX9_undo_66 : decode cX9_undo 66 = .ok (.aload_n 0, 1) := by decide +kernel
theorem dX9_undo_67 : decode cX9_undo 67 = .ok (.getfield 43, 3) := by decide +kernel
theorem dX9_undo_70 : decode cX9_undo 70 = .ok (.ireturn, 1) := by decide +kernel
theorem eX9_undo_0 {a : Option Nat} {l1 l2 : Option VV} {S : MM} : rn xX9_undo (0, [some (.inr (.inl a)), l1, l2], [], S) = rn xX9_undo (1, [some (.inr (.inl a)), l1, l2], [.inr (.inl a)], S) := rn_step dX9_undo_0 rfl rfl
theorem eX9_undo_1 {l0 l1 l2 : Option VV} {S : MM} : rn xX9_undo (1, [l0, l1, l2], [vR 593], S) = rn xX9_undo (4, [l0, l1, l2], [vI (S 593 3)], S) := q_getI dX9_undo_1 rfl ⟨⟨by decide, by decide⟩, by decide⟩ kd593
theorem eX9_undo_4 {a : Int} {l0 l1 l2 : Option VV} (h : -2147483648 ≤ a ∧ a ≤ 2147483647) {S : MM} : rn xX9_undo (4, [l0, l1, l2], [vI a], S) = if a = 0 then rn xX9_undo (7, [l0, l1, l2], [], S) else rn xX9_undo (10, [l0, l1, l2], [], S) := q_if_ne dX9_undo_4 (by decide) rfl h
theorem eX9_undo_7 {l0 l1 l2 : Option VV} {S : MM} : rn xX9_undo (7, [l0, l1, l2], [], S) = rn xX9_undo (9, [l0, l1, l2], [vI (-5)], S) := rn_step dX9_undo_7 rfl rfl
theorem eX9_undo_9 {z : Int} {l0 l1 l2 : Option VV} {S : MM} : rn xX9_undo (9, [l0, l1, l2], [vI z], S) = some (some (vI z), S) := q_retI dX9_undo_9 rfl
theorem eX9_undo_10 {a : Option Nat} {l1 l2 : Option VV} {S : MM} : rn xX9_undo (10, [some (.inr (.inl a)), l1, l2], [], S) = rn xX9_undo (11, [some (.inr (.inl a)), l1, l2], [.inr (.inl a)], S) := rn_step dX9_undo_10 rfl rfl
theorem eX9_undo_11 {a : Option Nat} {l0 l1 l2 : Option VV} {S : MM} : rn xX9_undo (11, [l0, l1, l2], [.inr (.inl a)], S) = rn xX9_undo (12, [l0, l1, l2], [.inr (.inl a), .inr (.inl a)], S) := rn_step dX9_undo_11 rfl rfl
theorem eX9_undo_12 {l0 l1 l2 : Option VV} {v1 : VV} {S : MM} : rn xX9_undo (12, [l0, l1, l2], [vR 593, v1], S) = rn xX9_undo (15, [l0, l1, l2], [vI (S 593 3), v1], S) := q_getI dX9_undo_12 rfl ⟨⟨by decide, by decide⟩, by decide⟩ kd593
theorem eX9_undo_15 {l0 l1 l2 : Option VV} {v0 v1 : VV} {S : MM} : rn xX9_undo (15, [l0, l1, l2], [v0, v1], S) = rn xX9_undo (16, [l0, l1, l2], [vI 1, v0, v1], S) := rn_step dX9_undo_15 rfl rfl
theorem eX9_undo_16 {a b : Int} {l0 l1 l2 : Option VV} {v2 : VV} {S : MM} : rn xX9_undo (16, [l0, l1, l2], [vI b, vI a, v2], S) = rn xX9_undo (17, [l0, l1, l2], [vI (a - b), v2], S) := rn_step dX9_undo_16 rfl rfl
theorem eX9_undo_17 {z : Int} {l0 l1 l2 : Option VV} {S : MM} : rn xX9_undo (17, [l0, l1, l2], [vI z, vR 593], S) = rn xX9_undo (20, [l0, l1, l2], [], updM S 593 3 z) := q_put dX9_undo_17 rfl ⟨by decide, by decide⟩ rfl kd593
theorem eX9_undo_20 {a : Option Nat} {l1 l2 : Option VV} {S : MM} : rn xX9_undo (20, [some (.inr (.inl a)), l1, l2], [], S) = rn xX9_undo (21, [some (.inr (.inl a)), l1, l2], [.inr (.inl a)], S) := rn_step dX9_undo_20 rfl rfl
theorem eX9_undo_21 {l0 l1 l2 : Option VV} {S : MM} : rn xX9_undo (21, [l0, l1, l2], [vR 593], S) = rn xX9_undo (24, [l0, l1, l2], [vI (S 593 2)], S) := q_getI dX9_undo_21 rfl ⟨⟨by decide, by decide⟩, by decide⟩ kd593
theorem eX9_undo_24 {a : Option Nat} {l1 l2 : Option VV} {v0 : VV} {S : MM} : rn xX9_undo (24, [some (.inr (.inl a)), l1, l2], [v0], S) = rn xX9_undo (25, [some (.inr (.inl a)), l1, l2], [.inr (.inl a), v0], S) := rn_step dX9_undo_24 rfl rfl
theorem eX9_undo_25 {l0 l1 l2 : Option VV} {v1 : VV} {S : MM} : rn xX9_undo (25, [l0, l1, l2], [vR 593, v1], S) = rn xX9_undo (28, [l0, l1, l2], [vI (S 593 3), v1], S) := q_getI dX9_undo_25 rfl ⟨⟨by decide, by decide⟩, by decide⟩ kd593
theorem eX9_undo_28 {a b : Int} {l0 l1 l2 : Option VV} {S : MM} : rn xX9_undo (28, [l0, l1, l2], [vI b, vI a], S) = rn xX9_undo (29, [l0, l1, l2], [vI (a + b)], S) := rn_step dX9_undo_28 rfl rfl
theorem eX9_undo_29 {l0 l1 l2 : Option VV} {v0 : VV} {S : MM} : rn xX9_undo (29, [l0, l1, l2], [v0], S) = rn xX9_undo (31, [l0, l1, l2], [vI 6, v0], S) := rn_step dX9_undo_29 rfl rfl
theorem eX9_undo_31 {a : Int} {l0 l1 l2 : Option VV} (h0 : 0 ≤ a) (h1 : a ≤ 2147483647) {S : MM} : rn xX9_undo (31, [l0, l1, l2], [vI 6, vI a], S) = rn xX9_undo (32, [l0, l1, l2], [vI (a % 6)], S) := q_irem dX9_undo_31 ⟨by decide, by decide⟩ h0 h1
theorem eX9_undo_32 {a : Int} {w : Option Nat} {l1 l2 : Option VV} {S : MM} : rn xX9_undo (32, [some (.inr (.inl w)), l1, l2], [vI a], S) = rn xX9_undo (33, [some (.inr (.inl w)), some (vI a), l2], [], S) := rn_step dX9_undo_32 rfl rfl
theorem eX9_undo_33 {l0 l1 l2 : Option VV} {S : MM} : rn xX9_undo (33, [l0, l1, l2], [], S) = rn xX9_undo (34, [l0, l1, l2], [vI 0], S) := rn_step dX9_undo_33 rfl rfl
theorem eX9_undo_34 {a : Int} {w : Int} {l0 l2 : Option VV} {S : MM} : rn xX9_undo (34, [l0, some (vI w), l2], [vI a], S) = rn xX9_undo (35, [l0, some (vI w), some (vI a)], [], S) := rn_step dX9_undo_34 rfl rfl
theorem eX9_undo_35 {a : Int} {l0 l1 : Option VV} {S : MM} : rn xX9_undo (35, [l0, l1, some (vI a)], [], S) = rn xX9_undo (36, [l0, l1, some (vI a)], [vI a], S) := rn_step dX9_undo_35 rfl rfl
theorem eX9_undo_36 {l0 l1 l2 : Option VV} {v0 : VV} {S : MM} : rn xX9_undo (36, [l0, l1, l2], [v0], S) = rn xX9_undo (39, [l0, l1, l2], [vI 4825, v0], S) := rn_step dX9_undo_36 rfl rfl
theorem eX9_undo_39 {a b : Int} {l0 l1 l2 : Option VV} (h : -2147483648 ≤ a ∧ a ≤ 2147483647) (h1 : -2147483648 ≤ b ∧ b ≤ 2147483647) {S : MM} : rn xX9_undo (39, [l0, l1, l2], [vI b, vI a], S) = if a < b then rn xX9_undo (42, [l0, l1, l2], [], S) else rn xX9_undo (66, [l0, l1, l2], [], S) := q_icmp_ge dX9_undo_39 (by decide) rfl h h1
theorem eX9_undo_42 {a : Option Nat} {l1 l2 : Option VV} {S : MM} : rn xX9_undo (42, [some (.inr (.inl a)), l1, l2], [], S) = rn xX9_undo (43, [some (.inr (.inl a)), l1, l2], [.inr (.inl a)], S) := rn_step dX9_undo_42 rfl rfl
theorem eX9_undo_43 {l0 l1 l2 : Option VV} {S : MM} : rn xX9_undo (43, [l0, l1, l2], [vR 593], S) = rn xX9_undo (46, [l0, l1, l2], [vR 594], S) := q_getR dX9_undo_43 rfl ⟨⟨by decide, by decide⟩, by decide⟩ (fun _ => by decide +kernel) kd593
theorem eX9_undo_46 {a : Int} {l0 l1 : Option VV} {v0 : VV} {S : MM} : rn xX9_undo (46, [l0, l1, some (vI a)], [v0], S) = rn xX9_undo (47, [l0, l1, some (vI a)], [vI a, v0], S) := rn_step dX9_undo_46 rfl rfl
theorem eX9_undo_47 {a : Option Nat} {l1 l2 : Option VV} {v0 v1 : VV} {S : MM} : rn xX9_undo (47, [some (.inr (.inl a)), l1, l2], [v0, v1], S) = rn xX9_undo (48, [some (.inr (.inl a)), l1, l2], [.inr (.inl a), v0, v1], S) := rn_step dX9_undo_47 rfl rfl
theorem eX9_undo_48 {l0 l1 l2 : Option VV} {v1 v2 : VV} {S : MM} : rn xX9_undo (48, [l0, l1, l2], [vR 593, v1, v2], S) = rn xX9_undo (51, [l0, l1, l2], [vR 595, v1, v2], S) := q_getR dX9_undo_48 rfl ⟨⟨by decide, by decide⟩, by decide⟩ (fun _ => by decide +kernel) kd593
theorem eX9_undo_51 {l0 l1 l2 : Option VV} {v0 v1 v2 : VV} {S : MM} : rn xX9_undo (51, [l0, l1, l2], [v0, v1, v2], S) = rn xX9_undo (54, [l0, l1, l2], [vI 4825, v0, v1, v2], S) := rn_step dX9_undo_51 rfl rfl
theorem eX9_undo_54 {a : Int} {l0 l2 : Option VV} {v0 v1 v2 v3 : VV} {S : MM} : rn xX9_undo (54, [l0, some (vI a), l2], [v0, v1, v2, v3], S) = rn xX9_undo (55, [l0, some (vI a), l2], [vI a, v0, v1, v2, v3], S) := rn_step dX9_undo_54 rfl rfl
theorem eX9_undo_55 {a b : Int} {l0 l1 l2 : Option VV} {v2 v3 v4 : VV} {S : MM} : rn xX9_undo (55, [l0, l1, l2], [vI b, vI a, v2, v3, v4], S) = rn xX9_undo (56, [l0, l1, l2], [vI (a * b), v2, v3, v4], S) := rn_step dX9_undo_55 rfl rfl
theorem eX9_undo_56 {a : Int} {l0 l1 : Option VV} {v0 v1 v2 v3 : VV} {S : MM} : rn xX9_undo (56, [l0, l1, some (vI a)], [v0, v1, v2, v3], S) = rn xX9_undo (57, [l0, l1, some (vI a)], [vI a, v0, v1, v2, v3], S) := rn_step dX9_undo_56 rfl rfl
theorem eX9_undo_57 {a b : Int} {l0 l1 l2 : Option VV} {v2 v3 v4 : VV} {S : MM} : rn xX9_undo (57, [l0, l1, l2], [vI b, vI a, v2, v3, v4], S) = rn xX9_undo (58, [l0, l1, l2], [vI (a + b), v2, v3, v4], S) := rn_step dX9_undo_57 rfl rfl
theorem eX9_undo_58 {i : Nat} {j : Int} {l0 l1 l2 : Option VV} {v2 v3 : VV} (h : kd i = 10) (h0 : 0 ≤ j) (h1 : j < alen i) {S : MM} : rn xX9_undo (58, [l0, l1, l2], [vI j, vR i, v2, v3], S) = rn xX9_undo (59, [l0, l1, l2], [vI (S i j.toNat), v2, v3], S) := q_iald dX9_undo_58 h h0 h1
theorem eX9_undo_58x {j : Int} {l0 l1 l2 : Option VV} {v2 v3 : VV} {S : MM} (h0 : 0 ≤ j) (h1 : j < S 604 0) : rn xX9_undo (58, [l0, l1, l2], [vI j, vR 602, v2, v3], S) = rn xX9_undo (59, [l0, l1, l2], [vI (S 602 j.toNat), v2, v3], S) := q_ialdX dX9_undo_58 h0 h1
theorem eX9_undo_58y {j : Int} {l0 l1 l2 : Option VV} {v2 v3 : VV} {S : MM} (h0 : 0 ≤ j) (h1 : j < S 604 1) : rn xX9_undo (58, [l0, l1, l2], [vI j, vR 603, v2, v3], S) = rn xX9_undo (59, [l0, l1, l2], [vI (S 603 j.toNat), v2, v3], S) := q_ialdY dX9_undo_58 h0 h1
theorem eX9_undo_59 {i : Nat} {j z : Int} {l0 l1 l2 : Option VV} (h : kd i = 10) (h0 : 0 ≤ j) (h1 : j < alen i) {S : MM} : rn xX9_undo (59, [l0, l1, l2], [vI z, vI j, vR i], S) = rn xX9_undo (60, [l0, l1, l2], [], updM S i j.toNat z) := q_iast dX9_undo_59 h h0 h1
theorem eX9_undo_60 {a : Int} {w : Int} {l0 : Option VV} {S : MM} : rn xX9_undo (60, [l0, some (vI w), some (vI a)], [], S) = rn xX9_undo (63, [l0, some (vI w), some (vI (a + 1))], [], S) := rn_step dX9_undo_60 rfl rfl
theorem eX9_undo_63 {l0 l1 l2 : Option VV} {S : MM} : rn xX9_undo (63, [l0, l1, l2], [], S) = rn xX9_undo (35, [l0, l1, l2], [], S) := rn_step dX9_undo_63 rfl rfl
theorem eX9_undo_66 {a : Option Nat} {l1 l2 : Option VV} {S : MM} : rn xX9_undo (66, [some (.inr (.inl a)), l1, l2], [], S) = rn xX9_undo (67, [some (.inr (.inl a)), l1, l2], [.inr (.inl a)], S) := rn_step dX9_undo_66 rfl rfl
theorem eX9_undo_67 {l0 l1 l2 : Option VV} {S : MM} : rn xX9_undo (67, [l0, l1, l2], [vR 593], S) = rn xX9_undo (70, [l0, l1, l2], [vI (S 593 3)], S) := q_getI dX9_undo_67 rfl ⟨⟨by decide, by decide⟩, by decide⟩ kd593
theorem eX9_undo_70 {z : Int} {l0 l1 l2 : Option VV} {S : MM} : rn xX9_undo (70, [l0, l1, l2], [vI z], S) = some (some (vI z), S) := q_retI dX9_undo_70 rfl
noncomputable def qlX9_save : List CE := [(1, 35, 0, 3, fX9_in), (0, 257, 9, 2, fX9_count)]
noncomputable def xX9_save : XX := (cX9_save, fcF fcl9, mcF qlX9_save, 1)
noncomputable def fX9_save : FN := fnX xX9_save 3
set_option maxRecDepth 100000 in
theorem cwX9_save : Cond.code yX9_save cX9_save 3 (some .int) ∈ lw_g := lw_gm 1260 (by decide +kernel) (by decide +kernel)
set_option maxRecDepth 100000 in
theorem conX9_save : Con yX9_save cX9_save 3 (some .int) { frames := 3, cells := 0, slots := 0, locals := 66 } fX9_save := con_of (X := xX9_save) (own := "LeapStonesModel") (ql := qlX9_save) (by decide) rfl FOK9 rfl (List.forall_mem_cons.mpr ⟨call_S conX9_in cwX9_in (lw_gl _ [1043, 1044, 84] (by decide +kernel) (by decide +kernel)) ⟨by decide, by decide, by decide +kernel⟩ ⟨rfl, rfl⟩ ⟨by decide, by decide⟩ ⟨Nat.le_refl _, Nat.le_refl _⟩, List.forall_mem_cons.mpr ⟨call_V conX9_count cwX9_count (lw_gl _ [1261, 1148, 1149, 84] (by decide +kernel) (by decide +kernel)) (by decide) rfl ⟨by decide, by decide, by decide +kernel⟩ ⟨rfl, rfl⟩ ⟨by decide, by decide⟩ ⟨Nat.le_refl _, Nat.le_refl _⟩, fun _ h => absurd h List.not_mem_nil⟩⟩) (Or.inr (Or.inl ⟨rfl, rfl⟩))
theorem uX9_save {i : Nat} {a0 : Int} {S : MM} : fX9_save [vR i, vI a0] S = rn xX9_save (0, [some (vR i), some (vI a0), none], [], S) := rfl
theorem dX9_save_0 : decode cX9_save 0 = .ok (.iload_n 1, 1) := by decide +kernel
theorem dX9_save_1 : decode cX9_save 1 = .ok (.iconst 0, 1) := by decide +kernel
theorem dX9_save_2 : decode cX9_save 2 = .ok (.iconst 1, 1) := by decide +kernel
theorem dX9_save_3 : decode cX9_save 3 = .ok (.invokestatic 35, 3) := by decide +kernel
theorem dX9_save_6 : decode cX9_save 6 = .ok (.ifCond .ne 6, 3) := by decide +kernel
theorem dX9_save_9 : decode cX9_save 9 = .ok (.bipush (-2), 2) := by decide +kernel
theorem dX9_save_11 : decode cX9_save 11 = .ok (.ireturn, 1) := by decide +kernel
theorem dX9_save_12 : decode cX9_save 12 = .ok (.iconst 0, 1) := by decide +kernel
theorem dX9_save_13 : decode cX9_save 13 = .ok (.istore_n 2, 1) := by decide +kernel
theorem dX9_save_14 : decode cX9_save 14 = .ok (.iload_n 2, 1) := by decide +kernel
theorem dX9_save_15 : decode cX9_save 15 = .ok (.sipush 4825, 3) := by decide +kernel
theorem dX9_save_18 : decode cX9_save 18 = .ok (.if_icmp .ge 27, 3) := by decide +kernel
theorem dX9_save_21 : decode cX9_save 21 = .ok (.aload_n 0, 1) := by decide +kernel
theorem dX9_save_22 : decode cX9_save 22 = .ok (.getfield 16, 3) := by decide +kernel
theorem dX9_save_25 : decode cX9_save 25 = .ok (.sipush 4825, 3) := by decide +kernel
theorem dX9_save_28 : decode cX9_save 28 = .ok (.iload_n 1, 1) := by decide +kernel
theorem dX9_save_29 : decode cX9_save 29 = .ok (.imul, 1) := by decide +kernel
theorem dX9_save_30 : decode cX9_save 30 = .ok (.iload_n 2, 1) := by decide +kernel
theorem dX9_save_31 : decode cX9_save 31 = .ok (.iadd, 1) := by decide +kernel
theorem dX9_save_32 : decode cX9_save 32 = .ok (.aload_n 0, 1) := by decide +kernel
theorem dX9_save_33 : decode cX9_save 33 = .ok (.getfield 7, 3) := by decide +kernel
theorem dX9_save_36 : decode cX9_save 36 = .ok (.iload_n 2, 1) := by decide +kernel
theorem dX9_save_37 : decode cX9_save 37 = .ok (.iaload, 1) := by decide +kernel
theorem dX9_save_38 : decode cX9_save 38 = .ok (.iastore, 1) := by decide +kernel
theorem dX9_save_39 : decode cX9_save 39 = .ok (.iinc 2 1, 3) := by decide +kernel
theorem dX9_save_42 : decode cX9_save 42 = .ok (.goto (-28), 3) := by decide +kernel
theorem dX9_save_45 : decode cX9_save 45 = .ok (.aload_n 0, 1) := by decide +kernel
theorem dX9_save_46 : decode cX9_save 46 = .ok (.getfield 19, 3) := by decide +kernel
theorem dX9_save_49 : decode cX9_save 49 = .ok (.iload_n 1, 1) := by decide +kernel
theorem dX9_save_50 : decode cX9_save 50 = .ok (.iconst 1, 1) := by decide +kernel
theorem dX9_save_51 : decode cX9_save 51 = .ok (.bastore, 1) := by decide +kernel
theorem dX9_save_52 : decode cX9_save 52 = .ok (.aload_n 0, 1) := by decide +kernel
theorem dX9_save_53 : decode cX9_save 53 = .ok (.iconst 0, 1) := by decide +kernel
theorem dX9_save_54 : decode cX9_save 54 = .ok (.invokevirtual 257, 3) := by decide +kernel
theorem dX9_save_57 : decode cX9_save 57 = .ok (.ireturn, 1) := by decide +kernel
theorem eX9_save_0 {a : Int} {l0 l2 : Option VV} {S : MM} : rn xX9_save (0, [l0, some (vI a), l2], [], S) = rn xX9_save (1, [l0, some (vI a), l2], [vI a], S) := rn_step dX9_save_0 rfl rfl
theorem eX9_save_1 {l0 l1 l2 : Option VV} {v0 : VV} {S : MM} : rn xX9_save (1, [l0, l1, l2], [v0], S) = rn xX9_save (2, [l0, l1, l2], [vI 0, v0], S) := rn_step dX9_save_1 rfl rfl
theorem eX9_save_2 {l0 l1 l2 : Option VV} {v0 v1 : VV} {S : MM} : rn xX9_save (2, [l0, l1, l2], [v0, v1], S) = rn xX9_save (3, [l0, l1, l2], [vI 1, v0, v1], S) := rn_step dX9_save_2 rfl rfl
theorem eX9_save_3 {a0 : Int} {a1 : Int} {a2 : Int} {l0 l1 l2 : Option VV} {S : MM} : rn xX9_save (3, [l0, l1, l2], [vI a2, vI a1, vI a0], S) = (fX9_in [vI a0, vI a1, vI a2] S).bind (fun q => rn xX9_save (6, [l0, l1, l2], q.1.toList ++ [], q.2)) := q_callS (n := 3) (as := [vI a0, vI a1, vI a2]) (rest := []) dX9_save_3 rfl rfl rfl rfl
theorem eX9_save_6 {a : Int} {l0 l1 l2 : Option VV} (h : -2147483648 ≤ a ∧ a ≤ 2147483647) {S : MM} : rn xX9_save (6, [l0, l1, l2], [vI a], S) = if a = 0 then rn xX9_save (9, [l0, l1, l2], [], S) else rn xX9_save (12, [l0, l1, l2], [], S) := q_if_ne dX9_save_6 (by decide) rfl h
theorem eX9_save_9 {l0 l1 l2 : Option VV} {S : MM} : rn xX9_save (9, [l0, l1, l2], [], S) = rn xX9_save (11, [l0, l1, l2], [vI (-2)], S) := rn_step dX9_save_9 rfl rfl
theorem eX9_save_11 {z : Int} {l0 l1 l2 : Option VV} {S : MM} : rn xX9_save (11, [l0, l1, l2], [vI z], S) = some (some (vI z), S) := q_retI dX9_save_11 rfl
theorem eX9_save_12 {l0 l1 l2 : Option VV} {S : MM} : rn xX9_save (12, [l0, l1, l2], [], S) = rn xX9_save (13, [l0, l1, l2], [vI 0], S) := rn_step dX9_save_12 rfl rfl
theorem eX9_save_13 {a : Int} {w : Int} {l0 l2 : Option VV} {S : MM} : rn xX9_save (13, [l0, some (vI w), l2], [vI a], S) = rn xX9_save (14, [l0, some (vI w), some (vI a)], [], S) := rn_step dX9_save_13 rfl rfl
theorem eX9_save_14 {a : Int} {l0 l1 : Option VV} {S : MM} : rn xX9_save (14, [l0, l1, some (vI a)], [], S) = rn xX9_save (15, [l0, l1, some (vI a)], [vI a], S) := rn_step dX9_save_14 rfl rfl
theorem eX9_save_15 {l0 l1 l2 : Option VV} {v0 : VV} {S : MM} : rn xX9_save (15, [l0, l1, l2], [v0], S) = rn xX9_save (18, [l0, l1, l2], [vI 4825, v0], S) := rn_step dX9_save_15 rfl rfl
theorem eX9_save_18 {a b : Int} {l0 l1 l2 : Option VV} (h : -2147483648 ≤ a ∧ a ≤ 2147483647) (h1 : -2147483648 ≤ b ∧ b ≤ 2147483647) {S : MM} : rn xX9_save (18, [l0, l1, l2], [vI b, vI a], S) = if a < b then rn xX9_save (21, [l0, l1, l2], [], S) else rn xX9_save (45, [l0, l1, l2], [], S) := q_icmp_ge dX9_save_18 (by decide) rfl h h1
theorem eX9_save_21 {a : Option Nat} {l1 l2 : Option VV} {S : MM} : rn xX9_save (21, [some (.inr (.inl a)), l1, l2], [], S) = rn xX9_save (22, [some (.inr (.inl a)), l1, l2], [.inr (.inl a)], S) := rn_step dX9_save_21 rfl rfl
theorem eX9_save_22 {l0 l1 l2 : Option VV} {S : MM} : rn xX9_save (22, [l0, l1, l2], [vR 593], S) = rn xX9_save (25, [l0, l1, l2], [vR 596], S) := q_getR dX9_save_22 rfl ⟨⟨by decide, by decide⟩, by decide⟩ (fun _ => by decide +kernel) kd593
theorem eX9_save_25 {l0 l1 l2 : Option VV} {v0 : VV} {S : MM} : rn xX9_save (25, [l0, l1, l2], [v0], S) = rn xX9_save (28, [l0, l1, l2], [vI 4825, v0], S) := rn_step dX9_save_25 rfl rfl
theorem eX9_save_28 {a : Int} {l0 l2 : Option VV} {v0 v1 : VV} {S : MM} : rn xX9_save (28, [l0, some (vI a), l2], [v0, v1], S) = rn xX9_save (29, [l0, some (vI a), l2], [vI a, v0, v1], S) := rn_step dX9_save_28 rfl rfl
theorem eX9_save_29 {a b : Int} {l0 l1 l2 : Option VV} {v2 : VV} {S : MM} : rn xX9_save (29, [l0, l1, l2], [vI b, vI a, v2], S) = rn xX9_save (30, [l0, l1, l2], [vI (a * b), v2], S) := rn_step dX9_save_29 rfl rfl
theorem eX9_save_30 {a : Int} {l0 l1 : Option VV} {v0 v1 : VV} {S : MM} : rn xX9_save (30, [l0, l1, some (vI a)], [v0, v1], S) = rn xX9_save (31, [l0, l1, some (vI a)], [vI a, v0, v1], S) := rn_step dX9_save_30 rfl rfl
theorem eX9_save_31 {a b : Int} {l0 l1 l2 : Option VV} {v2 : VV} {S : MM} : rn xX9_save (31, [l0, l1, l2], [vI b, vI a, v2], S) = rn xX9_save (32, [l0, l1, l2], [vI (a + b), v2], S) := rn_step dX9_save_31 rfl rfl
theorem eX9_save_32 {a : Option Nat} {l1 l2 : Option VV} {v0 v1 : VV} {S : MM} : rn xX9_save (32, [some (.inr (.inl a)), l1, l2], [v0, v1], S) = rn xX9_save (33, [some (.inr (.inl a)), l1, l2], [.inr (.inl a), v0, v1], S) := rn_step dX9_save_32 rfl rfl
theorem eX9_save_33 {l0 l1 l2 : Option VV} {v1 v2 : VV} {S : MM} : rn xX9_save (33, [l0, l1, l2], [vR 593, v1, v2], S) = rn xX9_save (36, [l0, l1, l2], [vR 594, v1, v2], S) := q_getR dX9_save_33 rfl ⟨⟨by decide, by decide⟩, by decide⟩ (fun _ => by decide +kernel) kd593
theorem eX9_save_36 {a : Int} {l0 l1 : Option VV} {v0 v1 v2 : VV} {S : MM} : rn xX9_save (36, [l0, l1, some (vI a)], [v0, v1, v2], S) = rn xX9_save (37, [l0, l1, some (vI a)], [vI a, v0, v1, v2], S) := rn_step dX9_save_36 rfl rfl
theorem eX9_save_37 {i : Nat} {j : Int} {l0 l1 l2 : Option VV} {v2 v3 : VV} (h : kd i = 10) (h0 : 0 ≤ j) (h1 : j < alen i) {S : MM} : rn xX9_save (37, [l0, l1, l2], [vI j, vR i, v2, v3], S) = rn xX9_save (38, [l0, l1, l2], [vI (S i j.toNat), v2, v3], S) := q_iald dX9_save_37 h h0 h1
theorem eX9_save_37x {j : Int} {l0 l1 l2 : Option VV} {v2 v3 : VV} {S : MM} (h0 : 0 ≤ j) (h1 : j < S 604 0) : rn xX9_save (37, [l0, l1, l2], [vI j, vR 602, v2, v3], S) = rn xX9_save (38, [l0, l1, l2], [vI (S 602 j.toNat), v2, v3], S) := q_ialdX dX9_save_37 h0 h1
theorem eX9_save_37y {j : Int} {l0 l1 l2 : Option VV} {v2 v3 : VV} {S : MM} (h0 : 0 ≤ j) (h1 : j < S 604 1) : rn xX9_save (37, [l0, l1, l2], [vI j, vR 603, v2, v3], S) = rn xX9_save (38, [l0, l1, l2], [vI (S 603 j.toNat), v2, v3], S) := q_ialdY dX9_save_37 h0 h1
theorem eX9_save_38 {i : Nat} {j z : Int} {l0 l1 l2 : Option VV} (h : kd i = 10) (h0 : 0 ≤ j) (h1 : j < alen i) {S : MM} : rn xX9_save (38, [l0, l1, l2], [vI z, vI j, vR i], S) = rn xX9_save (39, [l0, l1, l2], [], updM S i j.toNat z) := q_iast dX9_save_38 h h0 h1
theorem eX9_save_39 {a : Int} {w : Int} {l0 : Option VV} {S : MM} : rn xX9_save (39, [l0, some (vI w), some (vI a)], [], S) = rn xX9_save (42, [l0, some (vI w), some (vI (a + 1))], [], S) := rn_step dX9_save_39 rfl rfl
theorem eX9_save_42 {l0 l1 l2 : Option VV} {S : MM} : rn xX9_save (42, [l0, l1, l2], [], S) = rn xX9_save (14, [l0, l1, l2], [], S) := rn_step dX9_save_42 rfl rfl
theorem eX9_save_45 {a : Option Nat} {l1 l2 : Option VV} {S : MM} : rn xX9_save (45, [some (.inr (.inl a)), l1, l2], [], S) = rn xX9_save (46, [some (.inr (.inl a)), l1, l2], [.inr (.inl a)], S) := rn_step dX9_save_45 rfl rfl
theorem eX9_save_46 {l0 l1 l2 : Option VV} {S : MM} : rn xX9_save (46, [l0, l1, l2], [vR 593], S) = rn xX9_save (49, [l0, l1, l2], [vR 597], S) := q_getR dX9_save_46 rfl ⟨⟨by decide, by decide⟩, by decide⟩ (fun _ => by decide +kernel) kd593
theorem eX9_save_49 {a : Int} {l0 l2 : Option VV} {v0 : VV} {S : MM} : rn xX9_save (49, [l0, some (vI a), l2], [v0], S) = rn xX9_save (50, [l0, some (vI a), l2], [vI a, v0], S) := rn_step dX9_save_49 rfl rfl
theorem eX9_save_50 {l0 l1 l2 : Option VV} {v0 v1 : VV} {S : MM} : rn xX9_save (50, [l0, l1, l2], [v0, v1], S) = rn xX9_save (51, [l0, l1, l2], [vI 1, v0, v1], S) := rn_step dX9_save_50 rfl rfl
theorem eX9_save_51 {i : Nat} {j z : Int} {l0 l1 l2 : Option VV} (h : kd i = 11) (h0 : 0 ≤ j) (h1 : j < alen i) (hz : z = 0 ∨ z = 1) {S : MM} : rn xX9_save (51, [l0, l1, l2], [vI z, vI j, vR i], S) = rn xX9_save (52, [l0, l1, l2], [], updM S i j.toNat z) := q_bast dX9_save_51 h h0 h1 hz
theorem eX9_save_52 {a : Option Nat} {l1 l2 : Option VV} {S : MM} : rn xX9_save (52, [some (.inr (.inl a)), l1, l2], [], S) = rn xX9_save (53, [some (.inr (.inl a)), l1, l2], [.inr (.inl a)], S) := rn_step dX9_save_52 rfl rfl
theorem eX9_save_53 {l0 l1 l2 : Option VV} {v0 : VV} {S : MM} : rn xX9_save (53, [l0, l1, l2], [v0], S) = rn xX9_save (54, [l0, l1, l2], [vI 0, v0], S) := rn_step dX9_save_53 rfl rfl
theorem eX9_save_54 {a0 : Int} {l0 l1 l2 : Option VV} {S : MM} : rn xX9_save (54, [l0, l1, l2], [vI a0, vR 593], S) = (fX9_count [vR 593, vI a0] S).bind (fun q => rn xX9_save (57, [l0, l1, l2], q.1.toList ++ [], q.2)) := q_callV (n := 1) (as := [vI a0]) (rest := []) dX9_save_54 rfl rfl rfl rfl kd593
theorem eX9_save_57 {z : Int} {l0 l1 l2 : Option VV} {S : MM} : rn xX9_save (57, [l0, l1, l2], [vI z], S) = some (some (vI z), S) := q_retI dX9_save_57 rfl
noncomputable def qlX9_restore : List CE := [(1, 35, 0, 3, fX9_in), (0, 50, 9, 1, fX9_keep), (0, 257, 9, 2, fX9_count)]
noncomputable def xX9_restore : XX := (cX9_restore, fcF fcl9, mcF qlX9_restore, 1)
noncomputable def fX9_restore : FN := fnX xX9_restore 3
set_option maxRecDepth 100000 in
theorem cwX9_restore : Cond.code yX9_restore cX9_restore 3 (some .int) ∈ lw_g := lw_gm 1265 (by decide +kernel) (by decide +kernel)
set_option maxRecDepth 100000 in
theorem conX9_restore : Con yX9_restore cX9_restore 3 (some .int) { frames := 3, cells := 0, slots := 0, locals := 66 } fX9_restore := con_of (X := xX9_restore) (own := "LeapStonesModel") (ql := qlX9_restore) (by decide) rfl FOK9 rfl (List.forall_mem_cons.mpr ⟨call_S conX9_in cwX9_in (lw_gl _ [1043, 1044, 84] (by decide +kernel) (by decide +kernel)) ⟨by decide, by decide, by decide +kernel⟩ ⟨rfl, rfl⟩ ⟨by decide, by decide⟩ ⟨Nat.le_refl _, Nat.le_refl _⟩, List.forall_mem_cons.mpr ⟨call_V conX9_keep cwX9_keep (lw_gl _ [947, 949, 20, 84] (by decide +kernel) (by decide +kernel)) (by decide) rfl ⟨by decide, by decide, by decide +kernel⟩ ⟨rfl, rfl⟩ ⟨by decide, by decide⟩ ⟨Nat.le_refl _, Nat.le_refl _⟩, List.forall_mem_cons.mpr ⟨call_V conX9_count cwX9_count (lw_gl _ [1261, 1148, 1149, 84] (by decide +kernel) (by decide +kernel)) (by decide) rfl ⟨by decide, by decide, by decide +kernel⟩ ⟨rfl, rfl⟩ ⟨by decide, by decide⟩ ⟨Nat.le_refl _, Nat.le_refl _⟩, fun _ h => absurd h List.not_mem_nil⟩⟩⟩) (Or.inr (Or.inl ⟨rfl, rfl⟩))
theorem uX9_restore {i : Nat} {a0 : Int} {S : MM} : fX9_restore [vR i, vI a0] S = rn xX9_restore (0, [some (vR i), some (vI a0), none], [], S) := rfl
theorem dX9_restore_0 : decode cX9_restore 0 = .ok (.iload_n 1, 1) := by decide +kernel
theorem dX9_restore_1 : decode cX9_restore 1 = .ok (.iconst 0, 1) := by decide +kernel
theorem dX9_restore_2 : decode cX9_restore 2 = .ok (.iconst 1, 1) := by decide +kernel
theorem dX9_restore_3 : decode cX9_restore 3 = .ok (.invokestatic 35, 3) := by decide +kernel
theorem dX9_restore_6 : decode cX9_restore 6 = .ok (.ifCond .ne 6, 3) := by decide +kernel
theorem dX9_restore_9 : decode cX9_restore 9 = .ok (.bipush (-2), 2) := by decide +kernel
theorem dX9_restore_11 : decode cX9_restore 11 = .ok (.ireturn, 1) := by decide +kernel
theorem dX9_restore_12 : decode cX9_restore 12 = .ok (.aload_n 0, 1) := by decide +kernel
theorem dX9_restore_13 : decode cX9_restore 13 = .ok (.getfield 19, 3) := by decide +kernel
theorem dX9_restore_16 : decode cX9_restore 16 = .ok (.iload_n 1, 1) := by decide +kernel
theorem dX9_restore_17 : decode cX9_restore 17 = .ok (.baload, 1) := by decide +kernel
theorem dX9_restore_18 : decode cX9_restore 18 = .ok (.ifCond .ne 6, 3) := by decide +kernel
theorem dX9_restore_21 : decode cX9_restore 21 = .ok (.bipush (-5), 2) := by decide +kernel
theorem dX9_restore_23 : decode cX9_restore 23 = .ok (.ireturn, 1) := by decide +kernel
theorem dX9_restore_24 : decode cX9_restore 24 = .ok (.aload_n 0, 1) := by decide +kernel
theorem dX9_restore_25 : decode cX9_restore 25 = .ok (.invokevirtual 50, 3) := by decide +kernel
theorem dX9_restore_28 : decode cX9_restore 28 = .ok (.iconst 0, 1) := by decide +kernel
theorem dX9_restore_29 : decode cX9_restore 29 = .ok (.istore_n 2, 1) := by decide +kernel
theorem dX9_restore_30 : decode cX9_restore 30 = .ok (.iload_n 2, 1) := by decide +kernel
theorem dX9_restore_31 : decode cX9_restore 31 = .ok (.sipush 4825, 3) := by decide +kernel
theorem dX9_restore_34 : decode cX9_restore 34 = .ok (.if_icmp .ge 27, 3) := by decide +kernel
theorem dX9_restore_37 : decode cX9_restore 37 = .ok (.aload_n 0, 1) := by decide +kernel
theorem dX9_restore_38 : decode cX9_restore 38 = .ok (.getfield 7, 3) := by decide +kernel
theorem dX9_restore_41 : decode cX9_restore 41 = .ok (.iload_n 2, 1) := by decide +kernel
theorem dX9_restore_42 : decode cX9_restore 42 = .ok (.aload_n 0, 1) := by decide +kernel
theorem dX9_restore_43 : decode cX9_restore 43 = .ok (.getfield 16, 3) := by decide +kernel
theorem dX9_restore_46 : decode cX9_restore 46 = .ok (.sipush 4825, 3) := by decide +kernel
theorem dX9_restore_49 : decode cX9_restore 49 = .ok (.iload_n 1, 1) := by decide +kernel
theorem dX9_restore_50 : decode cX9_restore 50 = .ok (.imul, 1) := by decide +kernel
theorem dX9_restore_51 : decode cX9_restore 51 = .ok (.iload_n 2, 1) := by decide +kernel
theorem dX9_restore_52 : decode cX9_restore 52 = .ok (.iadd, 1) := by decide +kernel
theorem dX9_restore_53 : decode cX9_restore 53 = .ok (.iaload, 1) := by decide +kernel
theorem dX9_restore_54 : decode cX9_restore 54 = .ok (.iastore, 1) := by decide +kernel
theorem dX9_restore_55 : decode cX9_restore 55 = .ok (.iinc 2 1, 3) := by decide +kernel
theorem dX9_restore_58 : decode cX9_restore 58 = .ok (.goto (-28), 3) := by decide +kernel
theorem dX9_restore_61 : decode cX9_restore 61 = .ok (.aload_n 0, 1) := by decide +kernel
theorem dX9_restore_62 : decode cX9_restore 62 = .ok (.iconst 0, 1) := by decide +kernel
theorem dX9_restore_63 : decode cX9_restore 63 = .ok (.invokevirtual 257, 3) := by decide +kernel
theorem dX9_restore_66 : decode cX9_restore 66 = .ok (.ireturn, 1) := by decide +kernel
theorem eX9_restore_0 {a : Int} {l0 l2 : Option VV} {S : MM} : rn xX9_restore (0, [l0, some (vI a), l2], [], S) = rn xX9_restore (1, [l0, some (vI a), l2], [vI a], S) := rn_step dX9_restore_0 rfl rfl
theorem eX9_restore_1 {l0 l1 l2 : Option VV} {v0 : VV} {S : MM} : rn xX9_restore (1, [l0, l1, l2], [v0], S) = rn xX9_restore (2, [l0, l1, l2], [vI 0, v0], S) := rn_step dX9_restore_1 rfl rfl
theorem eX9_restore_2 {l0 l1 l2 : Option VV} {v0 v1 : VV} {S : MM} : rn xX9_restore (2, [l0, l1, l2], [v0, v1], S) = rn xX9_restore (3, [l0, l1, l2], [vI 1, v0, v1], S) := rn_step dX9_restore_2 rfl rfl
theorem eX9_restore_3 {a0 : Int} {a1 : Int} {a2 : Int} {l0 l1 l2 : Option VV} {S : MM} : rn xX9_restore (3, [l0, l1, l2], [vI a2, vI a1, vI a0], S) = (fX9_in [vI a0, vI a1, vI a2] S).bind (fun q => rn xX9_restore (6, [l0, l1, l2], q.1.toList ++ [], q.2)) := q_callS (n := 3) (as := [vI a0, vI a1, vI a2]) (rest := []) dX9_restore_3 rfl rfl rfl rfl
theorem eX9_restore_6 {a : Int} {l0 l1 l2 : Option VV} (h : -2147483648 ≤ a ∧ a ≤ 2147483647) {S : MM} : rn xX9_restore (6, [l0, l1, l2], [vI a], S) = if a = 0 then rn xX9_restore (9, [l0, l1, l2], [], S) else rn xX9_restore (12, [l0, l1, l2], [], S) := q_if_ne dX9_restore_6 (by decide) rfl h
theorem eX9_restore_9 {l0 l1 l2 : Option VV} {S : MM} : rn xX9_restore (9, [l0, l1, l2], [], S) = rn xX9_restore (11, [l0, l1, l2], [vI (-2)], S) := rn_step dX9_restore_9 rfl rfl
theorem eX9_restore_11 {z : Int} {l0 l1 l2 : Option VV} {S : MM} : rn xX9_restore (11, [l0, l1, l2], [vI z], S) = some (some (vI z), S) := q_retI dX9_restore_11 rfl
theorem eX9_restore_12 {a : Option Nat} {l1 l2 : Option VV} {S : MM} : rn xX9_restore (12, [some (.inr (.inl a)), l1, l2], [], S) = rn xX9_restore (13, [some (.inr (.inl a)), l1, l2], [.inr (.inl a)], S) := rn_step dX9_restore_12 rfl rfl
theorem eX9_restore_13 {l0 l1 l2 : Option VV} {S : MM} : rn xX9_restore (13, [l0, l1, l2], [vR 593], S) = rn xX9_restore (16, [l0, l1, l2], [vR 597], S) := q_getR dX9_restore_13 rfl ⟨⟨by decide, by decide⟩, by decide⟩ (fun _ => by decide +kernel) kd593
theorem eX9_restore_16 {a : Int} {l0 l2 : Option VV} {v0 : VV} {S : MM} : rn xX9_restore (16, [l0, some (vI a), l2], [v0], S) = rn xX9_restore (17, [l0, some (vI a), l2], [vI a, v0], S) := rn_step dX9_restore_16 rfl rfl
theorem eX9_restore_17 {i : Nat} {j : Int} {l0 l1 l2 : Option VV} (h : kd i = 11) (h0 : 0 ≤ j) (h1 : j < alen i) {S : MM} : rn xX9_restore (17, [l0, l1, l2], [vI j, vR i], S) = rn xX9_restore (18, [l0, l1, l2], [vI (S i j.toNat)], S) := q_bald dX9_restore_17 h h0 h1
theorem eX9_restore_18 {a : Int} {l0 l1 l2 : Option VV} (h : -2147483648 ≤ a ∧ a ≤ 2147483647) {S : MM} : rn xX9_restore (18, [l0, l1, l2], [vI a], S) = if a = 0 then rn xX9_restore (21, [l0, l1, l2], [], S) else rn xX9_restore (24, [l0, l1, l2], [], S) := q_if_ne dX9_restore_18 (by decide) rfl h
theorem eX9_restore_21 {l0 l1 l2 : Option VV} {S : MM} : rn xX9_restore (21, [l0, l1, l2], [], S) = rn xX9_restore (23, [l0, l1, l2], [vI (-5)], S) := rn_step dX9_restore_21 rfl rfl
theorem eX9_restore_23 {z : Int} {l0 l1 l2 : Option VV} {S : MM} : rn xX9_restore (23, [l0, l1, l2], [vI z], S) = some (some (vI z), S) := q_retI dX9_restore_23 rfl
theorem eX9_restore_24 {a : Option Nat} {l1 l2 : Option VV} {S : MM} : rn xX9_restore (24, [some (.inr (.inl a)), l1, l2], [], S) = rn xX9_restore (25, [some (.inr (.inl a)), l1, l2], [.inr (.inl a)], S) := rn_step dX9_restore_24 rfl rfl
theorem eX9_restore_25 {l0 l1 l2 : Option VV} {S : MM} : rn xX9_restore (25, [l0, l1, l2], [vR 593], S) = (fX9_keep [vR 593] S).bind (fun q => rn xX9_restore (28, [l0, l1, l2], q.1.toList ++ [], q.2)) := q_callV (n := 0) (as := []) (rest := []) dX9_restore_25 rfl rfl rfl rfl kd593
theorem eX9_restore_28 {l0 l1 l2 : Option VV} {S : MM} : rn xX9_restore (28, [l0, l1, l2], [], S) = rn xX9_restore (29, [l0, l1, l2], [vI 0], S) := rn_step dX9_restore_28 rfl rfl
theorem eX9_restore_29 {a : Int} {w : Int} {l0 l2 : Option VV} {S : MM} : rn xX9_restore (29, [l0, some (vI w), l2], [vI a], S) = rn xX9_restore (30, [l0, some (vI w), some (vI a)], [], S) := rn_step dX9_restore_29 rfl rfl
theorem eX9_restore_30 {a : Int} {l0 l1 : Option VV} {S : MM} : rn xX9_restore (30, [l0, l1, some (vI a)], [], S) = rn xX9_restore (31, [l0, l1, some (vI a)], [vI a], S) := rn_step dX9_restore_30 rfl rfl
theorem eX9_restore_31 {l0 l1 l2 : Option VV} {v0 : VV} {S : MM} : rn xX9_restore (31, [l0, l1, l2], [v0], S) = rn xX9_restore (34, [l0, l1, l2], [vI 4825, v0], S) := rn_step dX9_restore_31 rfl rfl
theorem eX9_restore_34 {a b : Int} {l0 l1 l2 : Option VV} (h : -2147483648 ≤ a ∧ a ≤ 2147483647) (h1 : -2147483648 ≤ b ∧ b ≤ 2147483647) {S : MM} : rn xX9_restore (34, [l0, l1, l2], [vI b, vI a], S) = if a < b then rn xX9_restore (37, [l0, l1, l2], [], S) else rn xX9_restore (61, [l0, l1, l2], [], S) := q_icmp_ge dX9_restore_34 (by decide) rfl h h1
theorem eX9_restore_37 {a : Option Nat} {l1 l2 : Option VV} {S : MM} : rn xX9_restore (37, [some (.inr (.inl a)), l1, l2], [], S) = rn xX9_restore (38, [some (.inr (.inl a)), l1, l2], [.inr (.inl a)], S) := rn_step dX9_restore_37 rfl rfl
theorem eX9_restore_38 {l0 l1 l2 : Option VV} {S : MM} : rn xX9_restore (38, [l0, l1, l2], [vR 593], S) = rn xX9_restore (41, [l0, l1, l2], [vR 594], S) := q_getR dX9_restore_38 rfl ⟨⟨by decide, by decide⟩, by decide⟩ (fun _ => by decide +kernel) kd593
theorem eX9_restore_41 {a : Int} {l0 l1 : Option VV} {v0 : VV} {S : MM} : rn xX9_restore (41, [l0, l1, some (vI a)], [v0], S) = rn xX9_restore (42, [l0, l1, some (vI a)], [vI a, v0], S) := rn_step dX9_restore_41 rfl rfl
theorem eX9_restore_42 {a : Option Nat} {l1 l2 : Option VV} {v0 v1 : VV} {S : MM} : rn xX9_restore (42, [some (.inr (.inl a)), l1, l2], [v0, v1], S) = rn xX9_restore (43, [some (.inr (.inl a)), l1, l2], [.inr (.inl a), v0, v1], S) := rn_step dX9_restore_42 rfl rfl
theorem eX9_restore_43 {l0 l1 l2 : Option VV} {v1 v2 : VV} {S : MM} : rn xX9_restore (43, [l0, l1, l2], [vR 593, v1, v2], S) = rn xX9_restore (46, [l0, l1, l2], [vR 596, v1, v2], S) := q_getR dX9_restore_43 rfl ⟨⟨by decide, by decide⟩, by decide⟩ (fun _ => by decide +kernel) kd593
theorem eX9_restore_46 {l0 l1 l2 : Option VV} {v0 v1 v2 : VV} {S : MM} : rn xX9_restore (46, [l0, l1, l2], [v0, v1, v2], S) = rn xX9_restore (49, [l0, l1, l2], [vI 4825, v0, v1, v2], S) := rn_step dX9_restore_46 rfl rfl
theorem eX9_restore_49 {a : Int} {l0 l2 : Option VV} {v0 v1 v2 v3 : VV} {S : MM} : rn xX9_restore (49, [l0, some (vI a), l2], [v0, v1, v2, v3], S) = rn xX9_restore (50, [l0, some (vI a), l2], [vI a, v0, v1, v2, v3], S) := rn_step dX9_restore_49 rfl rfl
theorem eX9_restore_50 {a b : Int} {l0 l1 l2 : Option VV} {v2 v3 v4 : VV} {S : MM} : rn xX9_restore (50, [l0, l1, l2], [vI b, vI a, v2, v3, v4], S) = rn xX9_restore (51, [l0, l1, l2], [vI (a * b), v2, v3, v4], S) := rn_step dX9_restore_50 rfl rfl
theorem eX9_restore_51 {a : Int} {l0 l1 : Option VV} {v0 v1 v2 v3 : VV} {S : MM} : rn xX9_restore (51, [l0, l1, some (vI a)], [v0, v1, v2, v3], S) = rn xX9_restore (52, [l0, l1, some (vI a)], [vI a, v0, v1, v2, v3], S) := rn_step dX9_restore_51 rfl rfl
theorem eX9_restore_52 {a b : Int} {l0 l1 l2 : Option VV} {v2 v3 v4 : VV} {S : MM} : rn xX9_restore (52, [l0, l1, l2], [vI b, vI a, v2, v3, v4], S) = rn xX9_restore (53, [l0, l1, l2], [vI (a + b), v2, v3, v4], S) := rn_step dX9_restore_52 rfl rfl
theorem eX9_restore_53 {i : Nat} {j : Int} {l0 l1 l2 : Option VV} {v2 v3 : VV} (h : kd i = 10) (h0 : 0 ≤ j) (h1 : j < alen i) {S : MM} : rn xX9_restore (53, [l0, l1, l2], [vI j, vR i, v2, v3], S) = rn xX9_restore (54, [l0, l1, l2], [vI (S i j.toNat), v2, v3], S) := q_iald dX9_restore_53 h h0 h1
theorem eX9_restore_53x {j : Int} {l0 l1 l2 : Option VV} {v2 v3 : VV} {S : MM} (h0 : 0 ≤ j) (h1 : j < S 604 0) : rn xX9_restore (53, [l0, l1, l2], [vI j, vR 602, v2, v3], S) = rn xX9_restore (54, [l0, l1, l2], [vI (S 602 j.toNat), v2, v3], S) := q_ialdX dX9_restore_53 h0 h1
theorem eX9_restore_53y {j : Int} {l0 l1 l2 : Option VV} {v2 v3 : VV} {S : MM} (h0 : 0 ≤ j) (h1 : j < S 604 1) : rn xX9_restore (53, [l0, l1, l2], [vI j, vR 603, v2, v3], S) = rn xX9_restore (54, [l0, l1, l2], [vI (S 603 j.toNat), v2, v3], S) := q_ialdY dX9_restore_53 h0 h1
theorem eX9_restore_54 {i : Nat} {j z : Int} {l0 l1 l2 : Option VV} (h : kd i = 10) (h0 : 0 ≤ j) (h1 : j < alen i) {S : MM} : rn xX9_restore (54, [l0, l1, l2], [vI z, vI j, vR i], S) = rn xX9_restore (55, [l0, l1, l2], [], updM S i j.toNat z) := q_iast dX9_restore_54 h h0 h1
theorem eX9_restore_55 {a : Int} {w : Int} {l0 : Option VV} {S : MM} : rn xX9_restore (55, [l0, some (vI w), some (vI a)], [], S) = rn xX9_restore (58, [l0, some (vI w), some (vI (a + 1))], [], S) := rn_step dX9_restore_55 rfl rfl
theorem eX9_restore_58 {l0 l1 l2 : Option VV} {S : MM} : rn xX9_restore (58, [l0, l1, l2], [], S) = rn xX9_restore (30, [l0, l1, l2], [], S) := rn_step dX9_restore_58 rfl rfl
theorem eX9_restore_61 {a : Option Nat} {l1 l2 : Option VV} {S : MM} : rn xX9_restore (61, [some (.inr (.inl a)), l1, l2], [], S) = rn xX9_restore (62, [some (.inr (.inl a)), l1, l2], [.inr (.inl a)], S) := rn_step dX9_restore_61 rfl rfl
theorem eX9_restore_62 {l0 l1 l2 : Option VV} {v0 : VV} {S : MM} : rn xX9_restore (62, [l0, l1, l2], [v0], S) = rn xX9_restore (63, [l0, l1, l2], [vI 0, v0], S) := rn_step dX9_restore_62 rfl rfl
theorem eX9_restore_63 {a0 : Int} {l0 l1 l2 : Option VV} {S : MM} : rn xX9_restore (63, [l0, l1, l2], [vI a0, vR 593], S) = (fX9_count [vR 593, vI a0] S).bind (fun q => rn xX9_restore (66, [l0, l1, l2], q.1.toList ++ [], q.2)) := q_callV (n := 1) (as := [vI a0]) (rest := []) dX9_restore_63 rfl rfl rfl rfl kd593
theorem eX9_restore_66 {z : Int} {l0 l1 l2 : Option VV} {S : MM} : rn xX9_restore (66, [l0, l1, l2], [vI z], S) = some (some (vI z), S) := q_retI dX9_restore_66 rfl

noncomputable def qlX0_slip : List CE := [(0, 72, 5, 2, fX5_pathOf), (0, 131, 3, 2, fX3_has), (0, 78, 3, 2, fX3_firstKeyFrom)]
noncomputable def xX0_slip : XX := (cX0_slip, fcF fcl0, mcF qlX0_slip, 0)
noncomputable def fX0_slip : FN := fnX xX0_slip 4
set_option maxRecDepth 100000 in
theorem cwX0_slip : Cond.code yX0_slip cX0_slip 4 none ∈ lw_g := lw_gm 462 (by decide +kernel) (by decide +kernel)
set_option maxRecDepth 100000 in
theorem conX0_slip : Con yX0_slip cX0_slip 4 none { frames := 2, cells := 0, slots := 0, locals := 46 } fX0_slip := con_of (X := xX0_slip) (own := "LeapStones$Crossing") (ql := qlX0_slip) (by decide) rfl FOK0 rfl (List.forall_mem_cons.mpr ⟨call_V conX5_pathOf cwX5_pathOf (lw_gl _ [463, 347, 348, 24] (by decide +kernel) (by decide +kernel)) (by decide) rfl ⟨by decide, by decide, by decide +kernel⟩ ⟨rfl, rfl⟩ ⟨by decide, by decide⟩ ⟨Nat.le_refl _, Nat.le_refl _⟩, List.forall_mem_cons.mpr ⟨call_V conX3_has cwX3_has (lw_gl _ [464, 465, 466, 25] (by decide +kernel) (by decide +kernel)) (by decide) rfl ⟨by decide, by decide, by decide +kernel⟩ ⟨rfl, rfl⟩ ⟨by decide, by decide⟩ ⟨Nat.le_refl _, Nat.le_refl _⟩, List.forall_mem_cons.mpr ⟨call_V conX3_firstKeyFrom cwX3_firstKeyFrom (lw_gl _ [468, 469, 470, 25] (by decide +kernel) (by decide +kernel)) (by decide) rfl ⟨by decide, by decide, by decide +kernel⟩ ⟨rfl, rfl⟩ ⟨by decide, by decide⟩ ⟨Nat.le_refl _, Nat.le_refl _⟩, fun _ h => absurd h List.not_mem_nil⟩⟩⟩) (Or.inl ⟨rfl, rfl⟩)
theorem uX0_slip {i : Nat} {a0 : Option Nat} {S : MM} : fX0_slip [vR i, .inr (.inl a0)] S = rn xX0_slip (0, [some (vR i), some (.inr (.inl a0)), none, none], [], S) := rfl
theorem dX0_slip_0 : decode cX0_slip 0 = .ok (.aload_n 0, 1) := by decide +kernel
theorem dX0_slip_1 : decode cX0_slip 1 = .ok (.getfield 33, 3) := by decide +kernel
theorem dX0_slip_4 : decode cX0_slip 4 = .ok (.ifCond .ne 4, 3) := by decide +kernel
theorem dX0_slip_7 : decode cX0_slip 7 = .ok (.return_, 1) := by decide +kernel
theorem dX0_slip_8 : decode cX0_slip 8 = .ok (.iconst 0, 1) := by decide +kernel
theorem dX0_slip_9 : decode cX0_slip 9 = .ok (.istore_n 2, 1) := by decide +kernel
theorem dX0_slip_10 : decode cX0_slip 10 = .ok (.iload_n 2, 1) := by decide +kernel
theorem dX0_slip_11 : decode cX0_slip 11 = .ok (.iconst 3, 1) := by decide +kernel
theorem dX0_slip_12 : decode cX0_slip 12 = .ok (.if_icmp .ge 77, 3) := by decide +kernel
theorem dX0_slip_15 : decode cX0_slip 15 = .ok (.aload_n 1, 1) := by decide +kernel
theorem dX0_slip_16 : decode cX0_slip 16 = .ok (.iload_n 2, 1) := by decide +kernel
theorem dX0_slip_17 : decode cX0_slip 17 = .ok (.invokevirtual 72, 3) := by decide +kernel
theorem dX0_slip_20 : decode cX0_slip 20 = .ok (.astore_n 3, 1) := by decide +kernel
theorem dX0_slip_21 : decode cX0_slip 21 = .ok (.aload_n 0, 1) := by decide +kernel
theorem dX0_slip_22 : decode cX0_slip 22 = .ok (.getfield 18, 3) := by decide +kernel
theorem dX0_slip_25 : decode cX0_slip 25 = .ok (.iload_n 2, 1) := by decide +kernel
theorem dX0_slip_26 : decode cX0_slip 26 = .ok (.iaload, 1) := by decide +kernel
theorem dX0_slip_27 : decode cX0_slip 27 = .ok (.sipush 300, 3) := by decide +kernel
theorem dX0_slip_30 : decode cX0_slip 30 = .ok (.if_icmp .eq 53, 3) := by decide +kernel
theorem dX0_slip_33 : decode cX0_slip 33 = .ok (.aload_n 3, 1) := by decide +kernel
theorem dX0_slip_34 : decode cX0_slip 34 = .ok (.aload_n 0, 1) := by decide +kernel
theorem dX0_slip_35 : decode cX0_slip 35 = .ok (.getfield 18, 3) := by decide +kernel
theorem dX0_slip_38 : decode cX0_slip 38 = .ok (.iload_n 2, 1) := by decide +kernel
theorem dX0_slip_39 : decode cX0_slip 39 = .ok (.iaload, 1) := by decide +kernel
theorem dX0_slip_40 : decode cX0_slip 40 = .ok (.invokevirtual 131, 3) := by decide +kernel
theorem dX0_slip_43 : decode cX0_slip 43 = .ok (.ifCond .ne 40, 3) := by decide +kernel
theorem dX0_slip_46 : decode cX0_slip 46 = .ok (.aload_n 0, 1) := by decide +kernel
theorem dX0_slip_47 : decode cX0_slip 47 = .ok (.getfield 18, 3) := by decide +kernel
theorem dX0_slip_50 : decode cX0_slip 50 = .ok (.iload_n 2, 1) := by decide +kernel
theorem dX0_slip_51 : decode cX0_slip 51 = .ok (.aload_n 3, 1) := by decide +kernel
theorem dX0_slip_52 : decode cX0_slip 52 = .ok (.aload_n 0, 1) := by decide +kernel
theorem dX0_slip_53 : decode cX0_slip 53 = .ok (.getfield 18, 3) := by decide +kernel
theorem dX0_slip_56 : decode cX0_slip 56 = .ok (.iload_n 2, 1) := by decide +kernel
theorem dX0_slip_57 : decode cX0_slip 57 = .ok (.iaload, 1) := by decide +kernel
theorem dX0_slip_58 : decode cX0_slip 58 = .ok (.invokevirtual 78, 3) := by decide +kernel
theorem dX0_slip_61 : decode cX0_slip 61 = .ok (.iastore, 1) := by decide +kernel
theorem dX0_slip_62 : decode cX0_slip 62 = .ok (.aload_n 0, 1) := by decide +kernel
theorem dX0_slip_63 : decode cX0_slip 63 = .ok (.getfield 27, 3) := by decide +kernel
theorem dX0_slip_66 : decode cX0_slip 66 = .ok (.iload_n 2, 1) := by decide +kernel
theorem dX0_slip_67 : decode cX0_slip 67 = .ok (.dup2, 1) := by decide +kernel
theorem dX0_slip_68 : decode cX0_slip 68 = .ok (.iaload, 1) := by decide +kernel
theorem dX0_slip_69 : decode cX0_slip 69 = .ok (.aload_n 0, 1) := by decide +kernel
theorem dX0_slip_70 : decode cX0_slip 70 = .ok (.getfield 37, 3) := by decide +kernel
theorem dX0_slip_73 : decode cX0_slip 73 = .ok (.ifCond .eq 7, 3) := by decide +kernel
theorem dX0_slip_76 : decode cX0_slip 76 = .ok (.iconst 0, 1) := by decide +kernel
theorem dX0_slip_77 : decode cX0_slip 77 = .ok (.goto 4, 3) := by decide +kernel
theorem dX0_slip_80 : decode cX0_slip 80 = .ok (.iconst 1, 1) := by decide +kernel
theorem dX0_slip_81 : decode cX0_slip 81 = .ok (.iadd, 1) := by decide +kernel
theorem dX0_slip_82 : decode cX0_slip 82 = .ok (.iastore, 1) := by decide +kernel
theorem dX0_slip_83 : decode cX0_slip 83 = .ok (.iinc 2 1, 3) := by decide +kernel
theorem dX0_slip_86 : decode cX0_slip 86 = .ok (.goto (-76), 3) := by decide +kernel
theorem dX0_slip_89 : decode cX0_slip 89 = .ok (.return_, 1) := by decide +kernel
theorem eX0_slip_0 {a : Option Nat} {l1 l2 l3 : Option VV} {S : MM} : rn xX0_slip (0, [some (.inr (.inl a)), l1, l2, l3], [], S) = rn xX0_slip (1, [some (.inr (.inl a)), l1, l2, l3], [.inr (.inl a)], S) := rn_step dX0_slip_0 rfl rfl
theorem eX0_slip_1 {i : Nat} {l0 l1 l2 l3 : Option VV} (h : kd i = 0) {S : MM} : rn xX0_slip (1, [l0, l1, l2, l3], [vR i], S) = rn xX0_slip (4, [l0, l1, l2, l3], [vI (S i 0)], S) := q_getI dX0_slip_1 rfl ⟨⟨by decide, by decide⟩, by decide⟩ h
theorem eX0_slip_4 {a : Int} {l0 l1 l2 l3 : Option VV} (h : -2147483648 ≤ a ∧ a ≤ 2147483647) {S : MM} : rn xX0_slip (4, [l0, l1, l2, l3], [vI a], S) = if a = 0 then rn xX0_slip (7, [l0, l1, l2, l3], [], S) else rn xX0_slip (8, [l0, l1, l2, l3], [], S) := q_if_ne dX0_slip_4 (by decide) rfl h
theorem eX0_slip_7 {l0 l1 l2 l3 : Option VV} {S : MM} : rn xX0_slip (7, [l0, l1, l2, l3], [], S) = some (none, S) := q_retV dX0_slip_7 rfl
theorem eX0_slip_8 {l0 l1 l2 l3 : Option VV} {S : MM} : rn xX0_slip (8, [l0, l1, l2, l3], [], S) = rn xX0_slip (9, [l0, l1, l2, l3], [vI 0], S) := rn_step dX0_slip_8 rfl rfl
theorem eX0_slip_9 {a : Int} {w : Option Nat} {l0 l2 l3 : Option VV} {S : MM} : rn xX0_slip (9, [l0, some (.inr (.inl w)), l2, l3], [vI a], S) = rn xX0_slip (10, [l0, some (.inr (.inl w)), some (vI a), l3], [], S) := rn_step dX0_slip_9 rfl rfl
theorem eX0_slip_10 {a : Int} {l0 l1 l3 : Option VV} {S : MM} : rn xX0_slip (10, [l0, l1, some (vI a), l3], [], S) = rn xX0_slip (11, [l0, l1, some (vI a), l3], [vI a], S) := rn_step dX0_slip_10 rfl rfl
theorem eX0_slip_11 {l0 l1 l2 l3 : Option VV} {v0 : VV} {S : MM} : rn xX0_slip (11, [l0, l1, l2, l3], [v0], S) = rn xX0_slip (12, [l0, l1, l2, l3], [vI 3, v0], S) := rn_step dX0_slip_11 rfl rfl
theorem eX0_slip_12 {a b : Int} {l0 l1 l2 l3 : Option VV} (h : -2147483648 ≤ a ∧ a ≤ 2147483647) (h1 : -2147483648 ≤ b ∧ b ≤ 2147483647) {S : MM} : rn xX0_slip (12, [l0, l1, l2, l3], [vI b, vI a], S) = if a < b then rn xX0_slip (15, [l0, l1, l2, l3], [], S) else rn xX0_slip (89, [l0, l1, l2, l3], [], S) := q_icmp_ge dX0_slip_12 (by decide) rfl h h1
theorem eX0_slip_15 {a : Option Nat} {l0 l2 l3 : Option VV} {S : MM} : rn xX0_slip (15, [l0, some (.inr (.inl a)), l2, l3], [], S) = rn xX0_slip (16, [l0, some (.inr (.inl a)), l2, l3], [.inr (.inl a)], S) := rn_step dX0_slip_15 rfl rfl
theorem eX0_slip_16 {a : Int} {l0 l1 l3 : Option VV} {v0 : VV} {S : MM} : rn xX0_slip (16, [l0, l1, some (vI a), l3], [v0], S) = rn xX0_slip (17, [l0, l1, some (vI a), l3], [vI a, v0], S) := rn_step dX0_slip_16 rfl rfl
theorem eX0_slip_17 {a0 : Int} {i : Nat} {l0 l1 l2 l3 : Option VV} (h : kd i = 5) {S : MM} : rn xX0_slip (17, [l0, l1, l2, l3], [vI a0, vR i], S) = (fX5_pathOf [vR i, vI a0] S).bind (fun q => rn xX0_slip (20, [l0, l1, l2, l3], q.1.toList ++ [], q.2)) := q_callV (n := 1) (as := [vI a0]) (rest := []) dX0_slip_17 rfl rfl rfl rfl h
theorem eX0_slip_20 {a : Option Nat} {w : Int} {l0 l1 l3 : Option VV} {S : MM} : rn xX0_slip (20, [l0, l1, some (vI w), l3], [.inr (.inl a)], S) = rn xX0_slip (21, [l0, l1, some (vI w), some (.inr (.inl a))], [], S) := rn_step dX0_slip_20 rfl rfl
theorem eX0_slip_21 {a : Option Nat} {l1 l2 l3 : Option VV} {S : MM} : rn xX0_slip (21, [some (.inr (.inl a)), l1, l2, l3], [], S) = rn xX0_slip (22, [some (.inr (.inl a)), l1, l2, l3], [.inr (.inl a)], S) := rn_step dX0_slip_21 rfl rfl
theorem eX0_slip_22 {i : Nat} {l0 l1 l2 l3 : Option VV} (h : kd i = 0) {S : MM} : rn xX0_slip (22, [l0, l1, l2, l3], [vR i], S) = rn xX0_slip (25, [l0, l1, l2, l3], [vR (i + 3)], S) := q_getR dX0_slip_22 rfl ⟨⟨by decide, by decide⟩, by decide⟩ (fun h => (fref0 h).trans (by first | rfl | omega)) h
theorem eX0_slip_25 {a : Int} {l0 l1 l3 : Option VV} {v0 : VV} {S : MM} : rn xX0_slip (25, [l0, l1, some (vI a), l3], [v0], S) = rn xX0_slip (26, [l0, l1, some (vI a), l3], [vI a, v0], S) := rn_step dX0_slip_25 rfl rfl
theorem eX0_slip_26 {i : Nat} {j : Int} {l0 l1 l2 l3 : Option VV} (h : kd i = 10) (h0 : 0 ≤ j) (h1 : j < alen i) {S : MM} : rn xX0_slip (26, [l0, l1, l2, l3], [vI j, vR i], S) = rn xX0_slip (27, [l0, l1, l2, l3], [vI (S i j.toNat)], S) := q_iald dX0_slip_26 h h0 h1
theorem eX0_slip_26x {j : Int} {l0 l1 l2 l3 : Option VV} {S : MM} (h0 : 0 ≤ j) (h1 : j < S 604 0) : rn xX0_slip (26, [l0, l1, l2, l3], [vI j, vR 602], S) = rn xX0_slip (27, [l0, l1, l2, l3], [vI (S 602 j.toNat)], S) := q_ialdX dX0_slip_26 h0 h1
theorem eX0_slip_26y {j : Int} {l0 l1 l2 l3 : Option VV} {S : MM} (h0 : 0 ≤ j) (h1 : j < S 604 1) : rn xX0_slip (26, [l0, l1, l2, l3], [vI j, vR 603], S) = rn xX0_slip (27, [l0, l1, l2, l3], [vI (S 603 j.toNat)], S) := q_ialdY dX0_slip_26 h0 h1
theorem eX0_slip_27 {l0 l1 l2 l3 : Option VV} {v0 : VV} {S : MM} : rn xX0_slip (27, [l0, l1, l2, l3], [v0], S) = rn xX0_slip (30, [l0, l1, l2, l3], [vI 300, v0], S) := rn_step dX0_slip_27 rfl rfl
theorem eX0_slip_30 {a b : Int} {l0 l1 l2 l3 : Option VV} (h : -2147483648 ≤ a ∧ a ≤ 2147483647) (h1 : -2147483648 ≤ b ∧ b ≤ 2147483647) {S : MM} : rn xX0_slip (30, [l0, l1, l2, l3], [vI b, vI a], S) = if a = b then rn xX0_slip (83, [l0, l1, l2, l3], [], S) else rn xX0_slip (33, [l0, l1, l2, l3], [], S) := q_icmp_eq dX0_slip_30 (by decide) rfl h h1
theorem eX0_slip_33 {a : Option Nat} {l0 l1 l2 : Option VV} {S : MM} : rn xX0_slip (33, [l0, l1, l2, some (.inr (.inl a))], [], S) = rn xX0_slip (34, [l0, l1, l2, some (.inr (.inl a))], [.inr (.inl a)], S) := rn_step dX0_slip_33 rfl rfl
theorem eX0_slip_34 {a : Option Nat} {l1 l2 l3 : Option VV} {v0 : VV} {S : MM} : rn xX0_slip (34, [some (.inr (.inl a)), l1, l2, l3], [v0], S) = rn xX0_slip (35, [some (.inr (.inl a)), l1, l2, l3], [.inr (.inl a), v0], S) := rn_step dX0_slip_34 rfl rfl
theorem eX0_slip_35 {i : Nat} {l0 l1 l2 l3 : Option VV} {v1 : VV} (h : kd i = 0) {S : MM} : rn xX0_slip (35, [l0, l1, l2, l3], [vR i, v1], S) = rn xX0_slip (38, [l0, l1, l2, l3], [vR (i + 3), v1], S) := q_getR dX0_slip_35 rfl ⟨⟨by decide, by decide⟩, by decide⟩ (fun h => (fref0 h).trans (by first | rfl | omega)) h
theorem eX0_slip_38 {a : Int} {l0 l1 l3 : Option VV} {v0 v1 : VV} {S : MM} : rn xX0_slip (38, [l0, l1, some (vI a), l3], [v0, v1], S) = rn xX0_slip (39, [l0, l1, some (vI a), l3], [vI a, v0, v1], S) := rn_step dX0_slip_38 rfl rfl
theorem eX0_slip_39 {i : Nat} {j : Int} {l0 l1 l2 l3 : Option VV} {v2 : VV} (h : kd i = 10) (h0 : 0 ≤ j) (h1 : j < alen i) {S : MM} : rn xX0_slip (39, [l0, l1, l2, l3], [vI j, vR i, v2], S) = rn xX0_slip (40, [l0, l1, l2, l3], [vI (S i j.toNat), v2], S) := q_iald dX0_slip_39 h h0 h1
theorem eX0_slip_39x {j : Int} {l0 l1 l2 l3 : Option VV} {v2 : VV} {S : MM} (h0 : 0 ≤ j) (h1 : j < S 604 0) : rn xX0_slip (39, [l0, l1, l2, l3], [vI j, vR 602, v2], S) = rn xX0_slip (40, [l0, l1, l2, l3], [vI (S 602 j.toNat), v2], S) := q_ialdX dX0_slip_39 h0 h1
theorem eX0_slip_39y {j : Int} {l0 l1 l2 l3 : Option VV} {v2 : VV} {S : MM} (h0 : 0 ≤ j) (h1 : j < S 604 1) : rn xX0_slip (39, [l0, l1, l2, l3], [vI j, vR 603, v2], S) = rn xX0_slip (40, [l0, l1, l2, l3], [vI (S 603 j.toNat), v2], S) := q_ialdY dX0_slip_39 h0 h1
theorem eX0_slip_40 {a0 : Int} {i : Nat} {l0 l1 l2 l3 : Option VV} (h : kd i = 3) {S : MM} : rn xX0_slip (40, [l0, l1, l2, l3], [vI a0, vR i], S) = (fX3_has [vR i, vI a0] S).bind (fun q => rn xX0_slip (43, [l0, l1, l2, l3], q.1.toList ++ [], q.2)) := q_callV (n := 1) (as := [vI a0]) (rest := []) dX0_slip_40 rfl rfl rfl rfl h
theorem eX0_slip_43 {a : Int} {l0 l1 l2 l3 : Option VV} (h : -2147483648 ≤ a ∧ a ≤ 2147483647) {S : MM} : rn xX0_slip (43, [l0, l1, l2, l3], [vI a], S) = if a = 0 then rn xX0_slip (46, [l0, l1, l2, l3], [], S) else rn xX0_slip (83, [l0, l1, l2, l3], [], S) := q_if_ne dX0_slip_43 (by decide) rfl h
theorem eX0_slip_46 {a : Option Nat} {l1 l2 l3 : Option VV} {S : MM} : rn xX0_slip (46, [some (.inr (.inl a)), l1, l2, l3], [], S) = rn xX0_slip (47, [some (.inr (.inl a)), l1, l2, l3], [.inr (.inl a)], S) := rn_step dX0_slip_46 rfl rfl
theorem eX0_slip_47 {i : Nat} {l0 l1 l2 l3 : Option VV} (h : kd i = 0) {S : MM} : rn xX0_slip (47, [l0, l1, l2, l3], [vR i], S) = rn xX0_slip (50, [l0, l1, l2, l3], [vR (i + 3)], S) := q_getR dX0_slip_47 rfl ⟨⟨by decide, by decide⟩, by decide⟩ (fun h => (fref0 h).trans (by first | rfl | omega)) h
theorem eX0_slip_50 {a : Int} {l0 l1 l3 : Option VV} {v0 : VV} {S : MM} : rn xX0_slip (50, [l0, l1, some (vI a), l3], [v0], S) = rn xX0_slip (51, [l0, l1, some (vI a), l3], [vI a, v0], S) := rn_step dX0_slip_50 rfl rfl
theorem eX0_slip_51 {a : Option Nat} {l0 l1 l2 : Option VV} {v0 v1 : VV} {S : MM} : rn xX0_slip (51, [l0, l1, l2, some (.inr (.inl a))], [v0, v1], S) = rn xX0_slip (52, [l0, l1, l2, some (.inr (.inl a))], [.inr (.inl a), v0, v1], S) := rn_step dX0_slip_51 rfl rfl
theorem eX0_slip_52 {a : Option Nat} {l1 l2 l3 : Option VV} {v0 v1 v2 : VV} {S : MM} : rn xX0_slip (52, [some (.inr (.inl a)), l1, l2, l3], [v0, v1, v2], S) = rn xX0_slip (53, [some (.inr (.inl a)), l1, l2, l3], [.inr (.inl a), v0, v1, v2], S) := rn_step dX0_slip_52 rfl rfl
theorem eX0_slip_53 {i : Nat} {l0 l1 l2 l3 : Option VV} {v1 v2 v3 : VV} (h : kd i = 0) {S : MM} : rn xX0_slip (53, [l0, l1, l2, l3], [vR i, v1, v2, v3], S) = rn xX0_slip (56, [l0, l1, l2, l3], [vR (i + 3), v1, v2, v3], S) := q_getR dX0_slip_53 rfl ⟨⟨by decide, by decide⟩, by decide⟩ (fun h => (fref0 h).trans (by first | rfl | omega)) h
theorem eX0_slip_56 {a : Int} {l0 l1 l3 : Option VV} {v0 v1 v2 v3 : VV} {S : MM} : rn xX0_slip (56, [l0, l1, some (vI a), l3], [v0, v1, v2, v3], S) = rn xX0_slip (57, [l0, l1, some (vI a), l3], [vI a, v0, v1, v2, v3], S) := rn_step dX0_slip_56 rfl rfl
theorem eX0_slip_57 {i : Nat} {j : Int} {l0 l1 l2 l3 : Option VV} {v2 v3 v4 : VV} (h : kd i = 10) (h0 : 0 ≤ j) (h1 : j < alen i) {S : MM} : rn xX0_slip (57, [l0, l1, l2, l3], [vI j, vR i, v2, v3, v4], S) = rn xX0_slip (58, [l0, l1, l2, l3], [vI (S i j.toNat), v2, v3, v4], S) := q_iald dX0_slip_57 h h0 h1
theorem eX0_slip_57x {j : Int} {l0 l1 l2 l3 : Option VV} {v2 v3 v4 : VV} {S : MM} (h0 : 0 ≤ j) (h1 : j < S 604 0) : rn xX0_slip (57, [l0, l1, l2, l3], [vI j, vR 602, v2, v3, v4], S) = rn xX0_slip (58, [l0, l1, l2, l3], [vI (S 602 j.toNat), v2, v3, v4], S) := q_ialdX dX0_slip_57 h0 h1
theorem eX0_slip_57y {j : Int} {l0 l1 l2 l3 : Option VV} {v2 v3 v4 : VV} {S : MM} (h0 : 0 ≤ j) (h1 : j < S 604 1) : rn xX0_slip (57, [l0, l1, l2, l3], [vI j, vR 603, v2, v3, v4], S) = rn xX0_slip (58, [l0, l1, l2, l3], [vI (S 603 j.toNat), v2, v3, v4], S) := q_ialdY dX0_slip_57 h0 h1
theorem eX0_slip_58 {a0 : Int} {i : Nat} {l0 l1 l2 l3 : Option VV} {v2 v3 : VV} (h : kd i = 3) {S : MM} : rn xX0_slip (58, [l0, l1, l2, l3], [vI a0, vR i, v2, v3], S) = (fX3_firstKeyFrom [vR i, vI a0] S).bind (fun q => rn xX0_slip (61, [l0, l1, l2, l3], q.1.toList ++ [v2, v3], q.2)) := q_callV (n := 1) (as := [vI a0]) (rest := [v2, v3]) dX0_slip_58 rfl rfl rfl rfl h
theorem eX0_slip_61 {i : Nat} {j z : Int} {l0 l1 l2 l3 : Option VV} (h : kd i = 10) (h0 : 0 ≤ j) (h1 : j < alen i) {S : MM} : rn xX0_slip (61, [l0, l1, l2, l3], [vI z, vI j, vR i], S) = rn xX0_slip (62, [l0, l1, l2, l3], [], updM S i j.toNat z) := q_iast dX0_slip_61 h h0 h1
theorem eX0_slip_62 {a : Option Nat} {l1 l2 l3 : Option VV} {S : MM} : rn xX0_slip (62, [some (.inr (.inl a)), l1, l2, l3], [], S) = rn xX0_slip (63, [some (.inr (.inl a)), l1, l2, l3], [.inr (.inl a)], S) := rn_step dX0_slip_62 rfl rfl
theorem eX0_slip_63 {i : Nat} {l0 l1 l2 l3 : Option VV} (h : kd i = 0) {S : MM} : rn xX0_slip (63, [l0, l1, l2, l3], [vR i], S) = rn xX0_slip (66, [l0, l1, l2, l3], [vR (i + 6)], S) := q_getR dX0_slip_63 rfl ⟨⟨by decide, by decide⟩, by decide⟩ (fun h => (fref0 h).trans (by first | rfl | omega)) h
theorem eX0_slip_66 {a : Int} {l0 l1 l3 : Option VV} {v0 : VV} {S : MM} : rn xX0_slip (66, [l0, l1, some (vI a), l3], [v0], S) = rn xX0_slip (67, [l0, l1, some (vI a), l3], [vI a, v0], S) := rn_step dX0_slip_66 rfl rfl
theorem eX0_slip_67 {a : Int} {b : Option Nat} {l0 l1 l2 l3 : Option VV} {S : MM} : rn xX0_slip (67, [l0, l1, l2, l3], [vI a, .inr (.inl b)], S) = rn xX0_slip (68, [l0, l1, l2, l3], [vI a, .inr (.inl b), vI a, .inr (.inl b)], S) := rn_step dX0_slip_67 rfl rfl
theorem eX0_slip_68 {i : Nat} {j : Int} {l0 l1 l2 l3 : Option VV} {v2 v3 : VV} (h : kd i = 10) (h0 : 0 ≤ j) (h1 : j < alen i) {S : MM} : rn xX0_slip (68, [l0, l1, l2, l3], [vI j, vR i, v2, v3], S) = rn xX0_slip (69, [l0, l1, l2, l3], [vI (S i j.toNat), v2, v3], S) := q_iald dX0_slip_68 h h0 h1
theorem eX0_slip_68x {j : Int} {l0 l1 l2 l3 : Option VV} {v2 v3 : VV} {S : MM} (h0 : 0 ≤ j) (h1 : j < S 604 0) : rn xX0_slip (68, [l0, l1, l2, l3], [vI j, vR 602, v2, v3], S) = rn xX0_slip (69, [l0, l1, l2, l3], [vI (S 602 j.toNat), v2, v3], S) := q_ialdX dX0_slip_68 h0 h1
theorem eX0_slip_68y {j : Int} {l0 l1 l2 l3 : Option VV} {v2 v3 : VV} {S : MM} (h0 : 0 ≤ j) (h1 : j < S 604 1) : rn xX0_slip (68, [l0, l1, l2, l3], [vI j, vR 603, v2, v3], S) = rn xX0_slip (69, [l0, l1, l2, l3], [vI (S 603 j.toNat), v2, v3], S) := q_ialdY dX0_slip_68 h0 h1
theorem eX0_slip_69 {a : Option Nat} {l1 l2 l3 : Option VV} {v0 v1 v2 : VV} {S : MM} : rn xX0_slip (69, [some (.inr (.inl a)), l1, l2, l3], [v0, v1, v2], S) = rn xX0_slip (70, [some (.inr (.inl a)), l1, l2, l3], [.inr (.inl a), v0, v1, v2], S) := rn_step dX0_slip_69 rfl rfl
theorem eX0_slip_70 {i : Nat} {l0 l1 l2 l3 : Option VV} {v1 v2 v3 : VV} (h : kd i = 0) {S : MM} : rn xX0_slip (70, [l0, l1, l2, l3], [vR i, v1, v2, v3], S) = rn xX0_slip (73, [l0, l1, l2, l3], [vI (S i 1), v1, v2, v3], S) := q_getI dX0_slip_70 rfl ⟨⟨by decide, by decide⟩, by decide⟩ h
theorem eX0_slip_73 {a : Int} {l0 l1 l2 l3 : Option VV} {v1 v2 v3 : VV} (h : -2147483648 ≤ a ∧ a ≤ 2147483647) {S : MM} : rn xX0_slip (73, [l0, l1, l2, l3], [vI a, v1, v2, v3], S) = if a = 0 then rn xX0_slip (80, [l0, l1, l2, l3], [v1, v2, v3], S) else rn xX0_slip (76, [l0, l1, l2, l3], [v1, v2, v3], S) := q_if_eq dX0_slip_73 (by decide) rfl h
theorem eX0_slip_76 {l0 l1 l2 l3 : Option VV} {v0 v1 v2 : VV} {S : MM} : rn xX0_slip (76, [l0, l1, l2, l3], [v0, v1, v2], S) = rn xX0_slip (77, [l0, l1, l2, l3], [vI 0, v0, v1, v2], S) := rn_step dX0_slip_76 rfl rfl
theorem eX0_slip_77 {l0 l1 l2 l3 : Option VV} {v0 v1 v2 v3 : VV} {S : MM} : rn xX0_slip (77, [l0, l1, l2, l3], [v0, v1, v2, v3], S) = rn xX0_slip (81, [l0, l1, l2, l3], [v0, v1, v2, v3], S) := rn_step dX0_slip_77 rfl rfl
theorem eX0_slip_80 {l0 l1 l2 l3 : Option VV} {v0 v1 v2 : VV} {S : MM} : rn xX0_slip (80, [l0, l1, l2, l3], [v0, v1, v2], S) = rn xX0_slip (81, [l0, l1, l2, l3], [vI 1, v0, v1, v2], S) := rn_step dX0_slip_80 rfl rfl
theorem eX0_slip_81 {a b : Int} {l0 l1 l2 l3 : Option VV} {v2 v3 : VV} {S : MM} : rn xX0_slip (81, [l0, l1, l2, l3], [vI b, vI a, v2, v3], S) = rn xX0_slip (82, [l0, l1, l2, l3], [vI (a + b), v2, v3], S) := rn_step dX0_slip_81 rfl rfl
theorem eX0_slip_82 {i : Nat} {j z : Int} {l0 l1 l2 l3 : Option VV} (h : kd i = 10) (h0 : 0 ≤ j) (h1 : j < alen i) {S : MM} : rn xX0_slip (82, [l0, l1, l2, l3], [vI z, vI j, vR i], S) = rn xX0_slip (83, [l0, l1, l2, l3], [], updM S i j.toNat z) := q_iast dX0_slip_82 h h0 h1
theorem eX0_slip_83 {a : Int} {w : Option Nat} {l0 l3 : Option VV} {S : MM} : rn xX0_slip (83, [l0, some (.inr (.inl w)), some (vI a), l3], [], S) = rn xX0_slip (86, [l0, some (.inr (.inl w)), some (vI (a + 1)), l3], [], S) := rn_step dX0_slip_83 rfl rfl
theorem eX0_slip_86 {l0 l1 l2 l3 : Option VV} {S : MM} : rn xX0_slip (86, [l0, l1, l2, l3], [], S) = rn xX0_slip (10, [l0, l1, l2, l3], [], S) := rn_step dX0_slip_86 rfl rfl
theorem eX0_slip_89 {l0 l1 l2 l3 : Option VV} {S : MM} : rn xX0_slip (89, [l0, l1, l2, l3], [], S) = some (none, S) := q_retV dX0_slip_89 rfl
noncomputable def qlX0_figureOfWalker : List CE := [(1, 48, 0, 1, fX8_isWalker)]
noncomputable def xX0_figureOfWalker : XX := (cX0_figureOfWalker, fcF fcl0, mcF qlX0_figureOfWalker, 1)
noncomputable def fX0_figureOfWalker : FN := fnX xX0_figureOfWalker 3
set_option maxRecDepth 100000 in
theorem cwX0_figureOfWalker : Cond.code yX0_figureOfWalker cX0_figureOfWalker 3 (some .int) ∈ lw_g := lw_gm 415 (by decide +kernel) (by decide +kernel)
set_option maxRecDepth 100000 in
theorem conX0_figureOfWalker : Con yX0_figureOfWalker cX0_figureOfWalker 3 (some .int) { frames := 2, cells := 0, slots := 0, locals := 42 } fX0_figureOfWalker := con_of (X := xX0_figureOfWalker) (own := "LeapStones$Crossing") (ql := qlX0_figureOfWalker) (by decide) rfl FOK0 rfl (List.forall_mem_cons.mpr ⟨call_N conX8_isWalker cwX8_isWalker (lw_gl _ [343, 21] (by decide +kernel) (by decide +kernel)) (List.mem_of_getElem? (i := 20) (by decide +kernel)) ⟨by decide, by decide, by decide +kernel⟩ ⟨rfl, rfl⟩ ⟨by decide, by decide⟩ ⟨Nat.le_refl _, Nat.le_refl _⟩, fun _ h => absurd h List.not_mem_nil⟩) (Or.inr (Or.inl ⟨rfl, rfl⟩))
theorem uX0_figureOfWalker {i : Nat} {a0 : Int} {a1 : Int} {S : MM} : fX0_figureOfWalker [vR i, vI a0, vI a1] S = rn xX0_figureOfWalker (0, [some (vR i), some (vI a0), some (vI a1)], [], S) := rfl
theorem dX0_figureOfWalker_0 : decode cX0_figureOfWalker 0 = .ok (.aload_n 0, 1) := by decide +kernel
theorem dX0_figureOfWalker_1 : decode cX0_figureOfWalker 1 = .ok (.getfield 33, 3) := by decide +kernel
theorem dX0_figureOfWalker_4 : decode cX0_figureOfWalker 4 = .ok (.ifCond .eq 10, 3) := by decide +kernel
theorem dX0_figureOfWalker_7 : decode cX0_figureOfWalker 7 = .ok (.iload_n 1, 1) := by decide +kernel
theorem dX0_figureOfWalker_8 : decode cX0_figureOfWalker 8 = .ok (.invokestatic 48, 3) := by decide +kernel
theorem dX0_figureOfWalker_11 : decode cX0_figureOfWalker 11 = .ok (.ifCond .ne 6, 3) := by decide +kernel
theorem dX0_figureOfWalker_14 : decode cX0_figureOfWalker 14 = .ok (.bipush (-6), 2) := by decide +kernel
theorem dX0_figureOfWalker_16 : decode cX0_figureOfWalker 16 = .ok (.ireturn, 1) := by decide +kernel
theorem dX0_figureOfWalker_17 : decode cX0_figureOfWalker 17 = .ok (.iload_n 2, 1) := by decide +kernel
theorem dX0_figureOfWalker_18 : decode cX0_figureOfWalker 18 = .ok (.tableswitch 86 2 6 #[34, 58, 65, 72, 79], 34) := by decide +kernel
theorem dX0_figureOfWalker_52 : decode cX0_figureOfWalker 52 = .ok (.aload_n 0, 1) := by decide +kernel
theorem dX0_figureOfWalker_53 : decode cX0_figureOfWalker 53 = .ok (.getfield 18, 3) := by decide +kernel
theorem dX0_figureOfWalker_56 : decode cX0_figureOfWalker 56 = .ok (.iload_n 1, 1) := by decide +kernel
theorem dX0_figureOfWalker_57 : decode cX0_figureOfWalker 57 = .ok (.iaload, 1) := by decide +kernel
theorem dX0_figureOfWalker_58 : decode cX0_figureOfWalker 58 = .ok (.sipush 300, 3) := by decide +kernel
theorem dX0_figureOfWalker_61 : decode cX0_figureOfWalker 61 = .ok (.if_icmp .ne 8, 3) := by decide +kernel
theorem dX0_figureOfWalker_64 : decode cX0_figureOfWalker 64 = .ok (.bipush (-6), 2) := by decide +kernel
theorem dX0_figureOfWalker_66 : decode cX0_figureOfWalker 66 = .ok (.goto 9, 3) := by decide +kernel
theorem dX0_figureOfWalker_69 : decode cX0_figureOfWalker 69 = .ok (.aload_n 0, 1) := by decide +kernel
theorem dX0_figureOfWalker_70 : decode cX0_figureOfWalker 70 = .ok (.getfield 18, 3) := by decide +kernel
theorem dX0_figureOfWalker_73 : decode cX0_figureOfWalker 73 = .ok (.iload_n 1, 1) := by decide +kernel
theorem dX0_figureOfWalker_74 : decode cX0_figureOfWalker 74 = .ok (.iaload, 1) := by decide +kernel
theorem dX0_figureOfWalker_75 : decode cX0_figureOfWalker 75 = .ok (.ireturn, 1) := by decide +kernel
theorem dX0_figureOfWalker_76 : decode cX0_figureOfWalker 76 = .ok (.aload_n 0, 1) := by decide +kernel
theorem dX0_figureOfWalker_77 : decode cX0_figureOfWalker 77 = .ok (.getfield 21, 3) := by decide +kernel
theorem dX0_figureOfWalker_80 : decode cX0_figureOfWalker 80 = .ok (.iload_n 1, 1) := by decide +kernel
theorem dX0_figureOfWalker_81 : decode cX0_figureOfWalker 81 = .ok (.iaload, 1) := by decide +kernel
theorem dX0_figureOfWalker_82 : decode cX0_figureOfWalker 82 = .ok (.ireturn, 1) := by decide +kernel
theorem dX0_figureOfWalker_83 : decode cX0_figureOfWalker 83 = .ok (.aload_n 0, 1) := by decide +kernel
theorem dX0_figureOfWalker_84 : decode cX0_figureOfWalker 84 = .ok (.getfield 24, 3) := by decide +kernel
theorem dX0_figureOfWalker_87 : decode cX0_figureOfWalker 87 = .ok (.iload_n 1, 1) := by decide +kernel
theorem dX0_figureOfWalker_88 : decode cX0_figureOfWalker 88 = .ok (.iaload, 1) := by decide +kernel
theorem dX0_figureOfWalker_89 : decode cX0_figureOfWalker 89 = .ok (.ireturn, 1) := by decide +kernel
theorem dX0_figureOfWalker_90 : decode cX0_figureOfWalker 90 = .ok (.aload_n 0, 1) := by decide +kernel
theorem dX0_figureOfWalker_91 : decode cX0_figureOfWalker 91 = .ok (.getfield 27, 3) := by decide +kernel
theorem dX0_figureOfWalker_94 : decode cX0_figureOfWalker 94 = .ok (.iload_n 1, 1) := by decide +kernel
theorem dX0_figureOfWalker_95 : decode cX0_figureOfWalker 95 = .ok (.iaload, 1) := by decide +kernel
theorem dX0_figureOfWalker_96 : decode cX0_figureOfWalker 96 = .ok (.ireturn, 1) := by decide +kernel
theorem dX0_figureOfWalker_97 : decode cX0_figureOfWalker 97 = .ok (.aload_n 0, 1) := by decide +kernel
theorem dX0_figureOfWalker_98 : decode cX0_figureOfWalker 98 = .ok (.getfield 30, 3) := by decide +kernel
theorem dX0_figureOfWalker_101 : decode cX0_figureOfWalker 101 = .ok (.iload_n 1, 1) := by decide +kernel
theorem dX0_figureOfWalker_102 : decode cX0_figureOfWalker 102 = .ok (.iaload, 1) := by decide +kernel
theorem dX0_figureOfWalker_103 : decode cX0_figureOfWalker 103 = .ok (.ireturn, 1) := by decide +kernel
theorem dX0_figureOfWalker_104 : decode cX0_figureOfWalker 104 = .ok (.bipush (-6), 2) := by decide +kernel
theorem dX0_figureOfWalker_106 : decode cX0_figureOfWalker 106 = .ok (.ireturn, 1) := by decide +kernel
theorem eX0_figureOfWalker_0 {a : Option Nat} {l1 l2 : Option VV} {S : MM} : rn xX0_figureOfWalker (0, [some (.inr (.inl a)), l1, l2], [], S) = rn xX0_figureOfWalker (1, [some (.inr (.inl a)), l1, l2], [.inr (.inl a)], S) := rn_step dX0_figureOfWalker_0 rfl rfl
theorem eX0_figureOfWalker_1 {i : Nat} {l0 l1 l2 : Option VV} (h : kd i = 0) {S : MM} : rn xX0_figureOfWalker (1, [l0, l1, l2], [vR i], S) = rn xX0_figureOfWalker (4, [l0, l1, l2], [vI (S i 0)], S) := q_getI dX0_figureOfWalker_1 rfl ⟨⟨by decide, by decide⟩, by decide⟩ h
theorem eX0_figureOfWalker_4 {a : Int} {l0 l1 l2 : Option VV} (h : -2147483648 ≤ a ∧ a ≤ 2147483647) {S : MM} : rn xX0_figureOfWalker (4, [l0, l1, l2], [vI a], S) = if a = 0 then rn xX0_figureOfWalker (14, [l0, l1, l2], [], S) else rn xX0_figureOfWalker (7, [l0, l1, l2], [], S) := q_if_eq dX0_figureOfWalker_4 (by decide) rfl h
theorem eX0_figureOfWalker_7 {a : Int} {l0 l2 : Option VV} {S : MM} : rn xX0_figureOfWalker (7, [l0, some (vI a), l2], [], S) = rn xX0_figureOfWalker (8, [l0, some (vI a), l2], [vI a], S) := rn_step dX0_figureOfWalker_7 rfl rfl
theorem eX0_figureOfWalker_8 {a0 : Int} {l0 l1 l2 : Option VV} {S : MM} : rn xX0_figureOfWalker (8, [l0, l1, l2], [vI a0], S) = (fX8_isWalker [vI a0] S).bind (fun q => rn xX0_figureOfWalker (11, [l0, l1, l2], q.1.toList ++ [], q.2)) := q_callS (n := 1) (as := [vI a0]) (rest := []) dX0_figureOfWalker_8 rfl rfl rfl rfl
theorem eX0_figureOfWalker_11 {a : Int} {l0 l1 l2 : Option VV} (h : -2147483648 ≤ a ∧ a ≤ 2147483647) {S : MM} : rn xX0_figureOfWalker (11, [l0, l1, l2], [vI a], S) = if a = 0 then rn xX0_figureOfWalker (14, [l0, l1, l2], [], S) else rn xX0_figureOfWalker (17, [l0, l1, l2], [], S) := q_if_ne dX0_figureOfWalker_11 (by decide) rfl h
theorem eX0_figureOfWalker_14 {l0 l1 l2 : Option VV} {S : MM} : rn xX0_figureOfWalker (14, [l0, l1, l2], [], S) = rn xX0_figureOfWalker (16, [l0, l1, l2], [vI (-6)], S) := rn_step dX0_figureOfWalker_14 rfl rfl
theorem eX0_figureOfWalker_16 {z : Int} {l0 l1 l2 : Option VV} {S : MM} : rn xX0_figureOfWalker (16, [l0, l1, l2], [vI z], S) = some (some (vI z), S) := q_retI dX0_figureOfWalker_16 rfl
theorem eX0_figureOfWalker_17 {a : Int} {l0 l1 : Option VV} {S : MM} : rn xX0_figureOfWalker (17, [l0, l1, some (vI a)], [], S) = rn xX0_figureOfWalker (18, [l0, l1, some (vI a)], [vI a], S) := rn_step dX0_figureOfWalker_17 rfl rfl
theorem eX0_figureOfWalker_18 {a : Int} {l0 l1 l2 : Option VV} (h : -2147483648 ≤ a ∧ a ≤ 2147483647) {S : MM} : rn xX0_figureOfWalker (18, [l0, l1, l2], [vI a], S) = if a = 2 then rn xX0_figureOfWalker (52, [l0, l1, l2], [], S) else if a = 3 then rn xX0_figureOfWalker (76, [l0, l1, l2], [], S) else if a = 4 then rn xX0_figureOfWalker (83, [l0, l1, l2], [], S) else if a = 5 then rn xX0_figureOfWalker (90, [l0, l1, l2], [], S) else if a = 6 then rn xX0_figureOfWalker (97, [l0, l1, l2], [], S) else rn xX0_figureOfWalker (104, [l0, l1, l2], [], S) := by
  by_cases c0 : a = 2
  · subst c0; rw [if_pos rfl]; exact q_tab (X := xX0_figureOfWalker) (pc := 18) (L := [l0, l1, l2]) (st := []) (S := S) (x := 2) (t := 52) dX0_figureOfWalker_18 h (by decide) rfl (by decide) rfl
  rw [if_neg c0]
  by_cases c1 : a = 3
  · subst c1; rw [if_pos rfl]; exact q_tab (X := xX0_figureOfWalker) (pc := 18) (L := [l0, l1, l2]) (st := []) (S := S) (x := 3) (t := 76) dX0_figureOfWalker_18 h (by decide) rfl (by decide) rfl
  rw [if_neg c1]
  by_cases c2 : a = 4
  · subst c2; rw [if_pos rfl]; exact q_tab (X := xX0_figureOfWalker) (pc := 18) (L := [l0, l1, l2]) (st := []) (S := S) (x := 4) (t := 83) dX0_figureOfWalker_18 h (by decide) rfl (by decide) rfl
  rw [if_neg c2]
  by_cases c3 : a = 5
  · subst c3; rw [if_pos rfl]; exact q_tab (X := xX0_figureOfWalker) (pc := 18) (L := [l0, l1, l2]) (st := []) (S := S) (x := 5) (t := 90) dX0_figureOfWalker_18 h (by decide) rfl (by decide) rfl
  rw [if_neg c3]
  by_cases c4 : a = 6
  · subst c4; rw [if_pos rfl]; exact q_tab (X := xX0_figureOfWalker) (pc := 18) (L := [l0, l1, l2]) (st := []) (S := S) (x := 6) (t := 97) dX0_figureOfWalker_18 h (by decide) rfl (by decide) rfl
  rw [if_neg c4]
  exact q_tabD (X := xX0_figureOfWalker) (pc := 18) (L := [l0, l1, l2]) (st := []) (S := S) (x := a) (t := 104) dX0_figureOfWalker_18 h (by omega) (by decide) rfl
theorem eX0_figureOfWalker_52 {a : Option Nat} {l1 l2 : Option VV} {S : MM} : rn xX0_figureOfWalker (52, [some (.inr (.inl a)), l1, l2], [], S) = rn xX0_figureOfWalker (53, [some (.inr (.inl a)), l1, l2], [.inr (.inl a)], S) := rn_step dX0_figureOfWalker_52 rfl rfl
theorem eX0_figureOfWalker_53 {i : Nat} {l0 l1 l2 : Option VV} (h : kd i = 0) {S : MM} : rn xX0_figureOfWalker (53, [l0, l1, l2], [vR i], S) = rn xX0_figureOfWalker (56, [l0, l1, l2], [vR (i + 3)], S) := q_getR dX0_figureOfWalker_53 rfl ⟨⟨by decide, by decide⟩, by decide⟩ (fun h => (fref0 h).trans (by first | rfl | omega)) h
theorem eX0_figureOfWalker_56 {a : Int} {l0 l2 : Option VV} {v0 : VV} {S : MM} : rn xX0_figureOfWalker (56, [l0, some (vI a), l2], [v0], S) = rn xX0_figureOfWalker (57, [l0, some (vI a), l2], [vI a, v0], S) := rn_step dX0_figureOfWalker_56 rfl rfl
theorem eX0_figureOfWalker_57 {i : Nat} {j : Int} {l0 l1 l2 : Option VV} (h : kd i = 10) (h0 : 0 ≤ j) (h1 : j < alen i) {S : MM} : rn xX0_figureOfWalker (57, [l0, l1, l2], [vI j, vR i], S) = rn xX0_figureOfWalker (58, [l0, l1, l2], [vI (S i j.toNat)], S) := q_iald dX0_figureOfWalker_57 h h0 h1
theorem eX0_figureOfWalker_57x {j : Int} {l0 l1 l2 : Option VV} {S : MM} (h0 : 0 ≤ j) (h1 : j < S 604 0) : rn xX0_figureOfWalker (57, [l0, l1, l2], [vI j, vR 602], S) = rn xX0_figureOfWalker (58, [l0, l1, l2], [vI (S 602 j.toNat)], S) := q_ialdX dX0_figureOfWalker_57 h0 h1
theorem eX0_figureOfWalker_57y {j : Int} {l0 l1 l2 : Option VV} {S : MM} (h0 : 0 ≤ j) (h1 : j < S 604 1) : rn xX0_figureOfWalker (57, [l0, l1, l2], [vI j, vR 603], S) = rn xX0_figureOfWalker (58, [l0, l1, l2], [vI (S 603 j.toNat)], S) := q_ialdY dX0_figureOfWalker_57 h0 h1
theorem eX0_figureOfWalker_58 {l0 l1 l2 : Option VV} {v0 : VV} {S : MM} : rn xX0_figureOfWalker (58, [l0, l1, l2], [v0], S) = rn xX0_figureOfWalker (61, [l0, l1, l2], [vI 300, v0], S) := rn_step dX0_figureOfWalker_58 rfl rfl
theorem eX0_figureOfWalker_61 {a b : Int} {l0 l1 l2 : Option VV} (h : -2147483648 ≤ a ∧ a ≤ 2147483647) (h1 : -2147483648 ≤ b ∧ b ≤ 2147483647) {S : MM} : rn xX0_figureOfWalker (61, [l0, l1, l2], [vI b, vI a], S) = if a = b then rn xX0_figureOfWalker (64, [l0, l1, l2], [], S) else rn xX0_figureOfWalker (69, [l0, l1, l2], [], S) := q_icmp_ne dX0_figureOfWalker_61 (by decide) rfl h h1
theorem eX0_figureOfWalker_64 {l0 l1 l2 : Option VV} {S : MM} : rn xX0_figureOfWalker (64, [l0, l1, l2], [], S) = rn xX0_figureOfWalker (66, [l0, l1, l2], [vI (-6)], S) := rn_step dX0_figureOfWalker_64 rfl rfl
theorem eX0_figureOfWalker_66 {l0 l1 l2 : Option VV} {v0 : VV} {S : MM} : rn xX0_figureOfWalker (66, [l0, l1, l2], [v0], S) = rn xX0_figureOfWalker (75, [l0, l1, l2], [v0], S) := rn_step dX0_figureOfWalker_66 rfl rfl
theorem eX0_figureOfWalker_69 {a : Option Nat} {l1 l2 : Option VV} {S : MM} : rn xX0_figureOfWalker (69, [some (.inr (.inl a)), l1, l2], [], S) = rn xX0_figureOfWalker (70, [some (.inr (.inl a)), l1, l2], [.inr (.inl a)], S) := rn_step dX0_figureOfWalker_69 rfl rfl
theorem eX0_figureOfWalker_70 {i : Nat} {l0 l1 l2 : Option VV} (h : kd i = 0) {S : MM} : rn xX0_figureOfWalker (70, [l0, l1, l2], [vR i], S) = rn xX0_figureOfWalker (73, [l0, l1, l2], [vR (i + 3)], S) := q_getR dX0_figureOfWalker_70 rfl ⟨⟨by decide, by decide⟩, by decide⟩ (fun h => (fref0 h).trans (by first | rfl | omega)) h
theorem eX0_figureOfWalker_73 {a : Int} {l0 l2 : Option VV} {v0 : VV} {S : MM} : rn xX0_figureOfWalker (73, [l0, some (vI a), l2], [v0], S) = rn xX0_figureOfWalker (74, [l0, some (vI a), l2], [vI a, v0], S) := rn_step dX0_figureOfWalker_73 rfl rfl
theorem eX0_figureOfWalker_74 {i : Nat} {j : Int} {l0 l1 l2 : Option VV} (h : kd i = 10) (h0 : 0 ≤ j) (h1 : j < alen i) {S : MM} : rn xX0_figureOfWalker (74, [l0, l1, l2], [vI j, vR i], S) = rn xX0_figureOfWalker (75, [l0, l1, l2], [vI (S i j.toNat)], S) := q_iald dX0_figureOfWalker_74 h h0 h1
theorem eX0_figureOfWalker_74x {j : Int} {l0 l1 l2 : Option VV} {S : MM} (h0 : 0 ≤ j) (h1 : j < S 604 0) : rn xX0_figureOfWalker (74, [l0, l1, l2], [vI j, vR 602], S) = rn xX0_figureOfWalker (75, [l0, l1, l2], [vI (S 602 j.toNat)], S) := q_ialdX dX0_figureOfWalker_74 h0 h1
theorem eX0_figureOfWalker_74y {j : Int} {l0 l1 l2 : Option VV} {S : MM} (h0 : 0 ≤ j) (h1 : j < S 604 1) : rn xX0_figureOfWalker (74, [l0, l1, l2], [vI j, vR 603], S) = rn xX0_figureOfWalker (75, [l0, l1, l2], [vI (S 603 j.toNat)], S) := q_ialdY dX0_figureOfWalker_74 h0 h1
theorem eX0_figureOfWalker_75 {z : Int} {l0 l1 l2 : Option VV} {S : MM} : rn xX0_figureOfWalker (75, [l0, l1, l2], [vI z], S) = some (some (vI z), S) := q_retI dX0_figureOfWalker_75 rfl
theorem eX0_figureOfWalker_76 {a : Option Nat} {l1 l2 : Option VV} {S : MM} : rn xX0_figureOfWalker (76, [some (.inr (.inl a)), l1, l2], [], S) = rn xX0_figureOfWalker (77, [some (.inr (.inl a)), l1, l2], [.inr (.inl a)], S) := rn_step dX0_figureOfWalker_76 rfl rfl
theorem eX0_figureOfWalker_77 {i : Nat} {l0 l1 l2 : Option VV} (h : kd i = 0) {S : MM} : rn xX0_figureOfWalker (77, [l0, l1, l2], [vR i], S) = rn xX0_figureOfWalker (80, [l0, l1, l2], [vR (i + 4)], S) := q_getR dX0_figureOfWalker_77 rfl ⟨⟨by decide, by decide⟩, by decide⟩ (fun h => (fref0 h).trans (by first | rfl | omega)) h
theorem eX0_figureOfWalker_80 {a : Int} {l0 l2 : Option VV} {v0 : VV} {S : MM} : rn xX0_figureOfWalker (80, [l0, some (vI a), l2], [v0], S) = rn xX0_figureOfWalker (81, [l0, some (vI a), l2], [vI a, v0], S) := rn_step dX0_figureOfWalker_80 rfl rfl
theorem eX0_figureOfWalker_81 {i : Nat} {j : Int} {l0 l1 l2 : Option VV} (h : kd i = 10) (h0 : 0 ≤ j) (h1 : j < alen i) {S : MM} : rn xX0_figureOfWalker (81, [l0, l1, l2], [vI j, vR i], S) = rn xX0_figureOfWalker (82, [l0, l1, l2], [vI (S i j.toNat)], S) := q_iald dX0_figureOfWalker_81 h h0 h1
theorem eX0_figureOfWalker_81x {j : Int} {l0 l1 l2 : Option VV} {S : MM} (h0 : 0 ≤ j) (h1 : j < S 604 0) : rn xX0_figureOfWalker (81, [l0, l1, l2], [vI j, vR 602], S) = rn xX0_figureOfWalker (82, [l0, l1, l2], [vI (S 602 j.toNat)], S) := q_ialdX dX0_figureOfWalker_81 h0 h1
theorem eX0_figureOfWalker_81y {j : Int} {l0 l1 l2 : Option VV} {S : MM} (h0 : 0 ≤ j) (h1 : j < S 604 1) : rn xX0_figureOfWalker (81, [l0, l1, l2], [vI j, vR 603], S) = rn xX0_figureOfWalker (82, [l0, l1, l2], [vI (S 603 j.toNat)], S) := q_ialdY dX0_figureOfWalker_81 h0 h1
theorem eX0_figureOfWalker_82 {z : Int} {l0 l1 l2 : Option VV} {S : MM} : rn xX0_figureOfWalker (82, [l0, l1, l2], [vI z], S) = some (some (vI z), S) := q_retI dX0_figureOfWalker_82 rfl
theorem eX0_figureOfWalker_83 {a : Option Nat} {l1 l2 : Option VV} {S : MM} : rn xX0_figureOfWalker (83, [some (.inr (.inl a)), l1, l2], [], S) = rn xX0_figureOfWalker (84, [some (.inr (.inl a)), l1, l2], [.inr (.inl a)], S) := rn_step dX0_figureOfWalker_83 rfl rfl
theorem eX0_figureOfWalker_84 {i : Nat} {l0 l1 l2 : Option VV} (h : kd i = 0) {S : MM} : rn xX0_figureOfWalker (84, [l0, l1, l2], [vR i], S) = rn xX0_figureOfWalker (87, [l0, l1, l2], [vR (i + 5)], S) := q_getR dX0_figureOfWalker_84 rfl ⟨⟨by decide, by decide⟩, by decide⟩ (fun h => (fref0 h).trans (by first | rfl | omega)) h
theorem eX0_figureOfWalker_87 {a : Int} {l0 l2 : Option VV} {v0 : VV} {S : MM} : rn xX0_figureOfWalker (87, [l0, some (vI a), l2], [v0], S) = rn xX0_figureOfWalker (88, [l0, some (vI a), l2], [vI a, v0], S) := rn_step dX0_figureOfWalker_87 rfl rfl
theorem eX0_figureOfWalker_88 {i : Nat} {j : Int} {l0 l1 l2 : Option VV} (h : kd i = 10) (h0 : 0 ≤ j) (h1 : j < alen i) {S : MM} : rn xX0_figureOfWalker (88, [l0, l1, l2], [vI j, vR i], S) = rn xX0_figureOfWalker (89, [l0, l1, l2], [vI (S i j.toNat)], S) := q_iald dX0_figureOfWalker_88 h h0 h1
theorem eX0_figureOfWalker_88x {j : Int} {l0 l1 l2 : Option VV} {S : MM} (h0 : 0 ≤ j) (h1 : j < S 604 0) : rn xX0_figureOfWalker (88, [l0, l1, l2], [vI j, vR 602], S) = rn xX0_figureOfWalker (89, [l0, l1, l2], [vI (S 602 j.toNat)], S) := q_ialdX dX0_figureOfWalker_88 h0 h1
theorem eX0_figureOfWalker_88y {j : Int} {l0 l1 l2 : Option VV} {S : MM} (h0 : 0 ≤ j) (h1 : j < S 604 1) : rn xX0_figureOfWalker (88, [l0, l1, l2], [vI j, vR 603], S) = rn xX0_figureOfWalker (89, [l0, l1, l2], [vI (S 603 j.toNat)], S) := q_ialdY dX0_figureOfWalker_88 h0 h1
theorem eX0_figureOfWalker_89 {z : Int} {l0 l1 l2 : Option VV} {S : MM} : rn xX0_figureOfWalker (89, [l0, l1, l2], [vI z], S) = some (some (vI z), S) := q_retI dX0_figureOfWalker_89 rfl
theorem eX0_figureOfWalker_90 {a : Option Nat} {l1 l2 : Option VV} {S : MM} : rn xX0_figureOfWalker (90, [some (.inr (.inl a)), l1, l2], [], S) = rn xX0_figureOfWalker (91, [some (.inr (.inl a)), l1, l2], [.inr (.inl a)], S) := rn_step dX0_figureOfWalker_90 rfl rfl
theorem eX0_figureOfWalker_91 {i : Nat} {l0 l1 l2 : Option VV} (h : kd i = 0) {S : MM} : rn xX0_figureOfWalker (91, [l0, l1, l2], [vR i], S) = rn xX0_figureOfWalker (94, [l0, l1, l2], [vR (i + 6)], S) := q_getR dX0_figureOfWalker_91 rfl ⟨⟨by decide, by decide⟩, by decide⟩ (fun h => (fref0 h).trans (by first | rfl | omega)) h
theorem eX0_figureOfWalker_94 {a : Int} {l0 l2 : Option VV} {v0 : VV} {S : MM} : rn xX0_figureOfWalker (94, [l0, some (vI a), l2], [v0], S) = rn xX0_figureOfWalker (95, [l0, some (vI a), l2], [vI a, v0], S) := rn_step dX0_figureOfWalker_94 rfl rfl
theorem eX0_figureOfWalker_95 {i : Nat} {j : Int} {l0 l1 l2 : Option VV} (h : kd i = 10) (h0 : 0 ≤ j) (h1 : j < alen i) {S : MM} : rn xX0_figureOfWalker (95, [l0, l1, l2], [vI j, vR i], S) = rn xX0_figureOfWalker (96, [l0, l1, l2], [vI (S i j.toNat)], S) := q_iald dX0_figureOfWalker_95 h h0 h1
theorem eX0_figureOfWalker_95x {j : Int} {l0 l1 l2 : Option VV} {S : MM} (h0 : 0 ≤ j) (h1 : j < S 604 0) : rn xX0_figureOfWalker (95, [l0, l1, l2], [vI j, vR 602], S) = rn xX0_figureOfWalker (96, [l0, l1, l2], [vI (S 602 j.toNat)], S) := q_ialdX dX0_figureOfWalker_95 h0 h1
theorem eX0_figureOfWalker_95y {j : Int} {l0 l1 l2 : Option VV} {S : MM} (h0 : 0 ≤ j) (h1 : j < S 604 1) : rn xX0_figureOfWalker (95, [l0, l1, l2], [vI j, vR 603], S) = rn xX0_figureOfWalker (96, [l0, l1, l2], [vI (S 603 j.toNat)], S) := q_ialdY dX0_figureOfWalker_95 h0 h1
theorem eX0_figureOfWalker_96 {z : Int} {l0 l1 l2 : Option VV} {S : MM} : rn xX0_figureOfWalker (96, [l0, l1, l2], [vI z], S) = some (some (vI z), S) := q_retI dX0_figureOfWalker_96 rfl
theorem eX0_figureOfWalker_97 {a : Option Nat} {l1 l2 : Option VV} {S : MM} : rn xX0_figureOfWalker (97, [some (.inr (.inl a)), l1, l2], [], S) = rn xX0_figureOfWalker (98, [some (.inr (.inl a)), l1, l2], [.inr (.inl a)], S) := rn_step dX0_figureOfWalker_97 rfl rfl
theorem eX0_figureOfWalker_98 {i : Nat} {l0 l1 l2 : Option VV} (h : kd i = 0) {S : MM} : rn xX0_figureOfWalker (98, [l0, l1, l2], [vR i], S) = rn xX0_figureOfWalker (101, [l0, l1, l2], [vR (i + 7)], S) := q_getR dX0_figureOfWalker_98 rfl ⟨⟨by decide, by decide⟩, by decide⟩ (fun h => (fref0 h).trans (by first | rfl | omega)) h
theorem eX0_figureOfWalker_101 {a : Int} {l0 l2 : Option VV} {v0 : VV} {S : MM} : rn xX0_figureOfWalker (101, [l0, some (vI a), l2], [v0], S) = rn xX0_figureOfWalker (102, [l0, some (vI a), l2], [vI a, v0], S) := rn_step dX0_figureOfWalker_101 rfl rfl
theorem eX0_figureOfWalker_102 {i : Nat} {j : Int} {l0 l1 l2 : Option VV} (h : kd i = 10) (h0 : 0 ≤ j) (h1 : j < alen i) {S : MM} : rn xX0_figureOfWalker (102, [l0, l1, l2], [vI j, vR i], S) = rn xX0_figureOfWalker (103, [l0, l1, l2], [vI (S i j.toNat)], S) := q_iald dX0_figureOfWalker_102 h h0 h1
theorem eX0_figureOfWalker_102x {j : Int} {l0 l1 l2 : Option VV} {S : MM} (h0 : 0 ≤ j) (h1 : j < S 604 0) : rn xX0_figureOfWalker (102, [l0, l1, l2], [vI j, vR 602], S) = rn xX0_figureOfWalker (103, [l0, l1, l2], [vI (S 602 j.toNat)], S) := q_ialdX dX0_figureOfWalker_102 h0 h1
theorem eX0_figureOfWalker_102y {j : Int} {l0 l1 l2 : Option VV} {S : MM} (h0 : 0 ≤ j) (h1 : j < S 604 1) : rn xX0_figureOfWalker (102, [l0, l1, l2], [vI j, vR 603], S) = rn xX0_figureOfWalker (103, [l0, l1, l2], [vI (S 603 j.toNat)], S) := q_ialdY dX0_figureOfWalker_102 h0 h1
theorem eX0_figureOfWalker_103 {z : Int} {l0 l1 l2 : Option VV} {S : MM} : rn xX0_figureOfWalker (103, [l0, l1, l2], [vI z], S) = some (some (vI z), S) := q_retI dX0_figureOfWalker_103 rfl
theorem eX0_figureOfWalker_104 {l0 l1 l2 : Option VV} {S : MM} : rn xX0_figureOfWalker (104, [l0, l1, l2], [], S) = rn xX0_figureOfWalker (106, [l0, l1, l2], [vI (-6)], S) := rn_step dX0_figureOfWalker_104 rfl rfl
theorem eX0_figureOfWalker_106 {z : Int} {l0 l1 l2 : Option VV} {S : MM} : rn xX0_figureOfWalker (106, [l0, l1, l2], [vI z], S) = some (some (vI z), S) := q_retI dX0_figureOfWalker_106 rfl
noncomputable def qlX0_rowsTogether : List CE := [(0, 137, 0, 2, fX0_rowsOfMeeting)]
noncomputable def xX0_rowsTogether : XX := (cX0_rowsTogether, fcF fcl0, mcF qlX0_rowsTogether, 1)
noncomputable def fX0_rowsTogether : FN := fnX xX0_rowsTogether 3
set_option maxRecDepth 100000 in
theorem cwX0_rowsTogether : Cond.code yX0_rowsTogether cX0_rowsTogether 3 (some .int) ∈ lw_g := lw_gm 509 (by decide +kernel) (by decide +kernel)
set_option maxRecDepth 100000 in
theorem conX0_rowsTogether : Con yX0_rowsTogether cX0_rowsTogether 3 (some .int) { frames := 2, cells := 0, slots := 0, locals := 43 } fX0_rowsTogether := con_of (X := xX0_rowsTogether) (own := "LeapStones$Crossing") (ql := qlX0_rowsTogether) (by decide) rfl FOK0 rfl (List.forall_mem_cons.mpr ⟨call_V conX0_rowsOfMeeting cwX0_rowsOfMeeting (lw_gl _ [510, 511, 512, 28] (by decide +kernel) (by decide +kernel)) (by decide) rfl ⟨by decide, by decide, by decide +kernel⟩ ⟨rfl, rfl⟩ ⟨by decide, by decide⟩ ⟨Nat.le_refl _, Nat.le_refl _⟩, fun _ h => absurd h List.not_mem_nil⟩) (Or.inr (Or.inl ⟨rfl, rfl⟩))
theorem uX0_rowsTogether {i : Nat} {S : MM} : fX0_rowsTogether [vR i] S = rn xX0_rowsTogether (0, [some (vR i), none, none], [], S) := rfl
theorem dX0_rowsTogether_0 : decode cX0_rowsTogether 0 = .ok (.iconst 0, 1) := by decide +kernel
theorem dX0_rowsTogether_1 : decode cX0_rowsTogether 1 = .ok (.istore_n 1, 1) := by decide +kernel
theorem dX0_rowsTogether_2 : decode cX0_rowsTogether 2 = .ok (.iconst 0, 1) := by decide +kernel
theorem dX0_rowsTogether_3 : decode cX0_rowsTogether 3 = .ok (.istore_n 2, 1) := by decide +kernel
theorem dX0_rowsTogether_4 : decode cX0_rowsTogether 4 = .ok (.iload_n 2, 1) := by decide +kernel
theorem dX0_rowsTogether_5 : decode cX0_rowsTogether 5 = .ok (.aload_n 0, 1) := by decide +kernel
theorem dX0_rowsTogether_6 : decode cX0_rowsTogether 6 = .ok (.getfield 44, 3) := by decide +kernel
theorem dX0_rowsTogether_9 : decode cX0_rowsTogether 9 = .ok (.if_icmp .ge 17, 3) := by decide +kernel
theorem dX0_rowsTogether_12 : decode cX0_rowsTogether 12 = .ok (.iload_n 1, 1) := by decide +kernel
theorem dX0_rowsTogether_13 : decode cX0_rowsTogether 13 = .ok (.aload_n 0, 1) := by decide +kernel
theorem dX0_rowsTogether_14 : decode cX0_rowsTogether 14 = .ok (.iload_n 2, 1) := by decide +kernel
theorem dX0_rowsTogether_15 : decode cX0_rowsTogether 15 = .ok (.invokevirtual 137, 3) := by decide +kernel
theorem dX0_rowsTogether_18 : decode cX0_rowsTogether 18 = .ok (.iadd, 1) := by decide +kernel
theorem dX0_rowsTogether_19 : decode cX0_rowsTogether 19 = .ok (.istore_n 1, 1) := by decide +kernel
theorem dX0_rowsTogether_20 : decode cX0_rowsTogether 20 = .ok (.iinc 2 1, 3) := by decide +kernel
theorem dX0_rowsTogether_23 : decode cX0_rowsTogether 23 = .ok (.goto (-19), 3) := by decide +kernel
theorem dX0_rowsTogether_26 : decode cX0_rowsTogether 26 = .ok (.iload_n 1, 1) := by decide +kernel
theorem dX0_rowsTogether_27 : decode cX0_rowsTogether 27 = .ok (.ireturn, 1) := by decide +kernel
theorem eX0_rowsTogether_0 {l0 l1 l2 : Option VV} {S : MM} : rn xX0_rowsTogether (0, [l0, l1, l2], [], S) = rn xX0_rowsTogether (1, [l0, l1, l2], [vI 0], S) := rn_step dX0_rowsTogether_0 rfl rfl
theorem eX0_rowsTogether_1 {a : Int} {w : Option Nat} {l1 l2 : Option VV} {S : MM} : rn xX0_rowsTogether (1, [some (.inr (.inl w)), l1, l2], [vI a], S) = rn xX0_rowsTogether (2, [some (.inr (.inl w)), some (vI a), l2], [], S) := rn_step dX0_rowsTogether_1 rfl rfl
theorem eX0_rowsTogether_2 {l0 l1 l2 : Option VV} {S : MM} : rn xX0_rowsTogether (2, [l0, l1, l2], [], S) = rn xX0_rowsTogether (3, [l0, l1, l2], [vI 0], S) := rn_step dX0_rowsTogether_2 rfl rfl
theorem eX0_rowsTogether_3 {a : Int} {w : Int} {l0 l2 : Option VV} {S : MM} : rn xX0_rowsTogether (3, [l0, some (vI w), l2], [vI a], S) = rn xX0_rowsTogether (4, [l0, some (vI w), some (vI a)], [], S) := rn_step dX0_rowsTogether_3 rfl rfl
theorem eX0_rowsTogether_4 {a : Int} {l0 l1 : Option VV} {S : MM} : rn xX0_rowsTogether (4, [l0, l1, some (vI a)], [], S) = rn xX0_rowsTogether (5, [l0, l1, some (vI a)], [vI a], S) := rn_step dX0_rowsTogether_4 rfl rfl
theorem eX0_rowsTogether_5 {a : Option Nat} {l1 l2 : Option VV} {v0 : VV} {S : MM} : rn xX0_rowsTogether (5, [some (.inr (.inl a)), l1, l2], [v0], S) = rn xX0_rowsTogether (6, [some (.inr (.inl a)), l1, l2], [.inr (.inl a), v0], S) := rn_step dX0_rowsTogether_5 rfl rfl
theorem eX0_rowsTogether_6 {i : Nat} {l0 l1 l2 : Option VV} {v1 : VV} (h : kd i = 0) {S : MM} : rn xX0_rowsTogether (6, [l0, l1, l2], [vR i, v1], S) = rn xX0_rowsTogether (9, [l0, l1, l2], [vI (S i 4), v1], S) := q_getI dX0_rowsTogether_6 rfl ⟨⟨by decide, by decide⟩, by decide⟩ h
theorem eX0_rowsTogether_9 {a b : Int} {l0 l1 l2 : Option VV} (h : -2147483648 ≤ a ∧ a ≤ 2147483647) (h1 : -2147483648 ≤ b ∧ b ≤ 2147483647) {S : MM} : rn xX0_rowsTogether (9, [l0, l1, l2], [vI b, vI a], S) = if a < b then rn xX0_rowsTogether (12, [l0, l1, l2], [], S) else rn xX0_rowsTogether (26, [l0, l1, l2], [], S) := q_icmp_ge dX0_rowsTogether_9 (by decide) rfl h h1
theorem eX0_rowsTogether_12 {a : Int} {l0 l2 : Option VV} {S : MM} : rn xX0_rowsTogether (12, [l0, some (vI a), l2], [], S) = rn xX0_rowsTogether (13, [l0, some (vI a), l2], [vI a], S) := rn_step dX0_rowsTogether_12 rfl rfl
theorem eX0_rowsTogether_13 {a : Option Nat} {l1 l2 : Option VV} {v0 : VV} {S : MM} : rn xX0_rowsTogether (13, [some (.inr (.inl a)), l1, l2], [v0], S) = rn xX0_rowsTogether (14, [some (.inr (.inl a)), l1, l2], [.inr (.inl a), v0], S) := rn_step dX0_rowsTogether_13 rfl rfl
theorem eX0_rowsTogether_14 {a : Int} {l0 l1 : Option VV} {v0 v1 : VV} {S : MM} : rn xX0_rowsTogether (14, [l0, l1, some (vI a)], [v0, v1], S) = rn xX0_rowsTogether (15, [l0, l1, some (vI a)], [vI a, v0, v1], S) := rn_step dX0_rowsTogether_14 rfl rfl
theorem eX0_rowsTogether_15 {a0 : Int} {i : Nat} {l0 l1 l2 : Option VV} {v2 : VV} (h : kd i = 0) {S : MM} : rn xX0_rowsTogether (15, [l0, l1, l2], [vI a0, vR i, v2], S) = (fX0_rowsOfMeeting [vR i, vI a0] S).bind (fun q => rn xX0_rowsTogether (18, [l0, l1, l2], q.1.toList ++ [v2], q.2)) := q_callV (n := 1) (as := [vI a0]) (rest := [v2]) dX0_rowsTogether_15 rfl rfl rfl rfl h
theorem eX0_rowsTogether_18 {a b : Int} {l0 l1 l2 : Option VV} {S : MM} : rn xX0_rowsTogether (18, [l0, l1, l2], [vI b, vI a], S) = rn xX0_rowsTogether (19, [l0, l1, l2], [vI (a + b)], S) := rn_step dX0_rowsTogether_18 rfl rfl
theorem eX0_rowsTogether_19 {a : Int} {w : Option Nat} {l1 l2 : Option VV} {S : MM} : rn xX0_rowsTogether (19, [some (.inr (.inl w)), l1, l2], [vI a], S) = rn xX0_rowsTogether (20, [some (.inr (.inl w)), some (vI a), l2], [], S) := rn_step dX0_rowsTogether_19 rfl rfl
theorem eX0_rowsTogether_20 {a : Int} {w : Int} {l0 : Option VV} {S : MM} : rn xX0_rowsTogether (20, [l0, some (vI w), some (vI a)], [], S) = rn xX0_rowsTogether (23, [l0, some (vI w), some (vI (a + 1))], [], S) := rn_step dX0_rowsTogether_20 rfl rfl
theorem eX0_rowsTogether_23 {l0 l1 l2 : Option VV} {S : MM} : rn xX0_rowsTogether (23, [l0, l1, l2], [], S) = rn xX0_rowsTogether (4, [l0, l1, l2], [], S) := rn_step dX0_rowsTogether_23 rfl rfl
theorem eX0_rowsTogether_26 {a : Int} {l0 l2 : Option VV} {S : MM} : rn xX0_rowsTogether (26, [l0, some (vI a), l2], [], S) = rn xX0_rowsTogether (27, [l0, some (vI a), l2], [vI a], S) := rn_step dX0_rowsTogether_26 rfl rfl
theorem eX0_rowsTogether_27 {z : Int} {l0 l1 l2 : Option VV} {S : MM} : rn xX0_rowsTogether (27, [l0, l1, l2], [vI z], S) = some (some (vI z), S) := q_retI dX0_rowsTogether_27 rfl
noncomputable def qlX0_figure : List CE := [(0, 134, 0, 1, fX0_rowsTogether), (1, 40, 0, 1, fX8_sumOf)]
noncomputable def xX0_figure : XX := (cX0_figure, fcF fcl0, mcF qlX0_figure, 1)
noncomputable def fX0_figure : FN := fnX xX0_figure 2
set_option maxRecDepth 100000 in
theorem cwX0_figure : Cond.code yX0_figure cX0_figure 2 (some .int) ∈ lw_g := lw_gm 505 (by decide +kernel) (by decide +kernel)
set_option maxRecDepth 100000 in
theorem conX0_figure : Con yX0_figure cX0_figure 2 (some .int) { frames := 3, cells := 0, slots := 0, locals := 65 } fX0_figure := con_of (X := xX0_figure) (own := "LeapStones$Crossing") (ql := qlX0_figure) (by decide) rfl FOK0 rfl (List.forall_mem_cons.mpr ⟨call_V conX0_rowsTogether cwX0_rowsTogether (lw_gl _ [506, 508, 4, 28] (by decide +kernel) (by decide +kernel)) (by decide) rfl ⟨by decide, by decide, by decide +kernel⟩ ⟨rfl, rfl⟩ ⟨by decide, by decide⟩ ⟨Nat.le_refl _, Nat.le_refl _⟩, List.forall_mem_cons.mpr ⟨call_N conX8_sumOf cwX8_sumOf (lw_gl _ [516, 21] (by decide +kernel) (by decide +kernel)) (List.mem_of_getElem? (i := 24) (by decide +kernel)) ⟨by decide, by decide, by decide +kernel⟩ ⟨rfl, rfl⟩ ⟨by decide, by decide⟩ ⟨Nat.le_refl _, Nat.le_refl _⟩, fun _ h => absurd h List.not_mem_nil⟩⟩) (Or.inr (Or.inl ⟨rfl, rfl⟩))
theorem uX0_figure {i : Nat} {a0 : Int} {S : MM} : fX0_figure [vR i, vI a0] S = rn xX0_figure (0, [some (vR i), some (vI a0)], [], S) := rfl
theorem dX0_figure_0 : decode cX0_figure 0 = .ok (.aload_n 0, 1) := by decide +kernel
theorem dX0_figure_1 : decode cX0_figure 1 = .ok (.getfield 33, 3) := by decide +kernel
theorem dX0_figure_4 : decode cX0_figure 4 = .ok (.ifCond .ne 6, 3) := by decide +kernel
theorem dX0_figure_7 : decode cX0_figure 7 = .ok (.bipush (-6), 2) := by decide +kernel
theorem dX0_figure_9 : decode cX0_figure 9 = .ok (.ireturn, 1) := by decide +kernel
theorem dX0_figure_10 : decode cX0_figure 10 = .ok (.iload_n 1, 1) := by decide +kernel
theorem dX0_figure_11 : decode cX0_figure 11 = .ok (.tableswitch 102 0 7 #[45, 58, 63, 68, 73, 78, 86, 94], 45) := by decide +kernel
theorem dX0_figure_56 : decode cX0_figure 56 = .ok (.aload_n 0, 1) := by decide +kernel
theorem dX0_figure_57 : decode cX0_figure 57 = .ok (.getfield 37, 3) := by decide +kernel
theorem dX0_figure_60 : decode cX0_figure 60 = .ok (.ifCond .eq 7, 3) := by decide +kernel
theorem dX0_figure_63 : decode cX0_figure 63 = .ok (.iconst 1, 1) := by decide +kernel
theorem dX0_figure_64 : decode cX0_figure 64 = .ok (.goto 4, 3) := by decide +kernel
theorem dX0_figure_67 : decode cX0_figure 67 = .ok (.iconst 0, 1) := by decide +kernel
theorem dX0_figure_68 : decode cX0_figure 68 = .ok (.ireturn, 1) := by decide +kernel
theorem dX0_figure_69 : decode cX0_figure 69 = .ok (.aload_n 0, 1) := by decide +kernel
theorem dX0_figure_70 : decode cX0_figure 70 = .ok (.getfield 62, 3) := by decide +kernel
theorem dX0_figure_73 : decode cX0_figure 73 = .ok (.ireturn, 1) := by decide +kernel
theorem dX0_figure_74 : decode cX0_figure 74 = .ok (.aload_n 0, 1) := by decide +kernel
theorem dX0_figure_75 : decode cX0_figure 75 = .ok (.getfield 69, 3) := by decide +kernel
theorem dX0_figure_78 : decode cX0_figure 78 = .ok (.ireturn, 1) := by decide +kernel
theorem dX0_figure_79 : decode cX0_figure 79 = .ok (.aload_n 0, 1) := by decide +kernel
theorem dX0_figure_80 : decode cX0_figure 80 = .ok (.getfield 44, 3) := by decide +kernel
theorem dX0_figure_83 : decode cX0_figure 83 = .ok (.ireturn, 1) := by decide +kernel
theorem dX0_figure_84 : decode cX0_figure 84 = .ok (.aload_n 0, 1) := by decide +kernel
theorem dX0_figure_85 : decode cX0_figure 85 = .ok (.invokevirtual 134, 3) := by decide +kernel
theorem dX0_figure_88 : decode cX0_figure 88 = .ok (.ireturn, 1) := by decide +kernel
theorem dX0_figure_89 : decode cX0_figure 89 = .ok (.aload_n 0, 1) := by decide +kernel
theorem dX0_figure_90 : decode cX0_figure 90 = .ok (.getfield 21, 3) := by decide +kernel
theorem dX0_figure_93 : decode cX0_figure 93 = .ok (.invokestatic 40, 3) := by decide +kernel
theorem dX0_figure_96 : decode cX0_figure 96 = .ok (.ireturn, 1) := by decide +kernel
theorem dX0_figure_97 : decode cX0_figure 97 = .ok (.aload_n 0, 1) := by decide +kernel
theorem dX0_figure_98 : decode cX0_figure 98 = .ok (.getfield 24, 3) := by decide +kernel
theorem dX0_figure_101 : decode cX0_figure 101 = .ok (.invokestatic 40, 3) := by decide +kernel
theorem dX0_figure_104 : decode cX0_figure 104 = .ok (.ireturn, 1) := by decide +kernel
theorem dX0_figure_105 : decode cX0_figure 105 = .ok (.aload_n 0, 1) := by decide +kernel
theorem dX0_figure_106 : decode cX0_figure 106 = .ok (.getfield 27, 3) := by decide +kernel
theorem dX0_figure_109 : decode cX0_figure 109 = .ok (.invokestatic 40, 3) := by decide +kernel
theorem dX0_figure_112 : decode cX0_figure 112 = .ok (.ireturn, 1) := by decide +kernel
theorem dX0_figure_113 : decode cX0_figure 113 = .ok (.bipush (-6), 2) := by decide +kernel
theorem dX0_figure_115 : decode cX0_figure 115 = .ok (.ireturn, 1) := by decide +kernel
theorem eX0_figure_0 {a : Option Nat} {l1 : Option VV} {S : MM} : rn xX0_figure (0, [some (.inr (.inl a)), l1], [], S) = rn xX0_figure (1, [some (.inr (.inl a)), l1], [.inr (.inl a)], S) := rn_step dX0_figure_0 rfl rfl
theorem eX0_figure_1 {i : Nat} {l0 l1 : Option VV} (h : kd i = 0) {S : MM} : rn xX0_figure (1, [l0, l1], [vR i], S) = rn xX0_figure (4, [l0, l1], [vI (S i 0)], S) := q_getI dX0_figure_1 rfl ⟨⟨by decide, by decide⟩, by decide⟩ h
theorem eX0_figure_4 {a : Int} {l0 l1 : Option VV} (h : -2147483648 ≤ a ∧ a ≤ 2147483647) {S : MM} : rn xX0_figure (4, [l0, l1], [vI a], S) = if a = 0 then rn xX0_figure (7, [l0, l1], [], S) else rn xX0_figure (10, [l0, l1], [], S) := q_if_ne dX0_figure_4 (by decide) rfl h
theorem eX0_figure_7 {l0 l1 : Option VV} {S : MM} : rn xX0_figure (7, [l0, l1], [], S) = rn xX0_figure (9, [l0, l1], [vI (-6)], S) := rn_step dX0_figure_7 rfl rfl
theorem eX0_figure_9 {z : Int} {l0 l1 : Option VV} {S : MM} : rn xX0_figure (9, [l0, l1], [vI z], S) = some (some (vI z), S) := q_retI dX0_figure_9 rfl
theorem eX0_figure_10 {a : Int} {l0 : Option VV} {S : MM} : rn xX0_figure (10, [l0, some (vI a)], [], S) = rn xX0_figure (11, [l0, some (vI a)], [vI a], S) := rn_step dX0_figure_10 rfl rfl
theorem eX0_figure_11 {a : Int} {l0 l1 : Option VV} (h : -2147483648 ≤ a ∧ a ≤ 2147483647) {S : MM} : rn xX0_figure (11, [l0, l1], [vI a], S) = if a = 0 then rn xX0_figure (56, [l0, l1], [], S) else if a = 1 then rn xX0_figure (69, [l0, l1], [], S) else if a = 2 then rn xX0_figure (74, [l0, l1], [], S) else if a = 3 then rn xX0_figure (79, [l0, l1], [], S) else if a = 4 then rn xX0_figure (84, [l0, l1], [], S) else if a = 5 then rn xX0_figure (89, [l0, l1], [], S) else if a = 6 then rn xX0_figure (97, [l0, l1], [], S) else if a = 7 then rn xX0_figure (105, [l0, l1], [], S) else rn xX0_figure (113, [l0, l1], [], S) := by
  by_cases c0 : a = 0
  · subst c0; rw [if_pos rfl]; exact q_tab (X := xX0_figure) (pc := 11) (L := [l0, l1]) (st := []) (S := S) (x := 0) (t := 56) dX0_figure_11 h (by decide) rfl (by decide) rfl
  rw [if_neg c0]
  by_cases c1 : a = 1
  · subst c1; rw [if_pos rfl]; exact q_tab (X := xX0_figure) (pc := 11) (L := [l0, l1]) (st := []) (S := S) (x := 1) (t := 69) dX0_figure_11 h (by decide) rfl (by decide) rfl
  rw [if_neg c1]
  by_cases c2 : a = 2
  · subst c2; rw [if_pos rfl]; exact q_tab (X := xX0_figure) (pc := 11) (L := [l0, l1]) (st := []) (S := S) (x := 2) (t := 74) dX0_figure_11 h (by decide) rfl (by decide) rfl
  rw [if_neg c2]
  by_cases c3 : a = 3
  · subst c3; rw [if_pos rfl]; exact q_tab (X := xX0_figure) (pc := 11) (L := [l0, l1]) (st := []) (S := S) (x := 3) (t := 79) dX0_figure_11 h (by decide) rfl (by decide) rfl
  rw [if_neg c3]
  by_cases c4 : a = 4
  · subst c4; rw [if_pos rfl]; exact q_tab (X := xX0_figure) (pc := 11) (L := [l0, l1]) (st := []) (S := S) (x := 4) (t := 84) dX0_figure_11 h (by decide) rfl (by decide) rfl
  rw [if_neg c4]
  by_cases c5 : a = 5
  · subst c5; rw [if_pos rfl]; exact q_tab (X := xX0_figure) (pc := 11) (L := [l0, l1]) (st := []) (S := S) (x := 5) (t := 89) dX0_figure_11 h (by decide) rfl (by decide) rfl
  rw [if_neg c5]
  by_cases c6 : a = 6
  · subst c6; rw [if_pos rfl]; exact q_tab (X := xX0_figure) (pc := 11) (L := [l0, l1]) (st := []) (S := S) (x := 6) (t := 97) dX0_figure_11 h (by decide) rfl (by decide) rfl
  rw [if_neg c6]
  by_cases c7 : a = 7
  · subst c7; rw [if_pos rfl]; exact q_tab (X := xX0_figure) (pc := 11) (L := [l0, l1]) (st := []) (S := S) (x := 7) (t := 105) dX0_figure_11 h (by decide) rfl (by decide) rfl
  rw [if_neg c7]
  exact q_tabD (X := xX0_figure) (pc := 11) (L := [l0, l1]) (st := []) (S := S) (x := a) (t := 113) dX0_figure_11 h (by omega) (by decide) rfl
theorem eX0_figure_56 {a : Option Nat} {l1 : Option VV} {S : MM} : rn xX0_figure (56, [some (.inr (.inl a)), l1], [], S) = rn xX0_figure (57, [some (.inr (.inl a)), l1], [.inr (.inl a)], S) := rn_step dX0_figure_56 rfl rfl
theorem eX0_figure_57 {i : Nat} {l0 l1 : Option VV} (h : kd i = 0) {S : MM} : rn xX0_figure (57, [l0, l1], [vR i], S) = rn xX0_figure (60, [l0, l1], [vI (S i 1)], S) := q_getI dX0_figure_57 rfl ⟨⟨by decide, by decide⟩, by decide⟩ h
theorem eX0_figure_60 {a : Int} {l0 l1 : Option VV} (h : -2147483648 ≤ a ∧ a ≤ 2147483647) {S : MM} : rn xX0_figure (60, [l0, l1], [vI a], S) = if a = 0 then rn xX0_figure (67, [l0, l1], [], S) else rn xX0_figure (63, [l0, l1], [], S) := q_if_eq dX0_figure_60 (by decide) rfl h
theorem eX0_figure_63 {l0 l1 : Option VV} {S : MM} : rn xX0_figure (63, [l0, l1], [], S) = rn xX0_figure (64, [l0, l1], [vI 1], S) := rn_step dX0_figure_63 rfl rfl
theorem eX0_figure_64 {l0 l1 : Option VV} {v0 : VV} {S : MM} : rn xX0_figure (64, [l0, l1], [v0], S) = rn xX0_figure (68, [l0, l1], [v0], S) := rn_step dX0_figure_64 rfl rfl
theorem eX0_figure_67 {l0 l1 : Option VV} {S : MM} : rn xX0_figure (67, [l0, l1], [], S) = rn xX0_figure (68, [l0, l1], [vI 0], S) := rn_step dX0_figure_67 rfl rfl
theorem eX0_figure_68 {z : Int} {l0 l1 : Option VV} {S : MM} : rn xX0_figure (68, [l0, l1], [vI z], S) = some (some (vI z), S) := q_retI dX0_figure_68 rfl
theorem eX0_figure_69 {a : Option Nat} {l1 : Option VV} {S : MM} : rn xX0_figure (69, [some (.inr (.inl a)), l1], [], S) = rn xX0_figure (70, [some (.inr (.inl a)), l1], [.inr (.inl a)], S) := rn_step dX0_figure_69 rfl rfl
theorem eX0_figure_70 {i : Nat} {l0 l1 : Option VV} (h : kd i = 0) {S : MM} : rn xX0_figure (70, [l0, l1], [vR i], S) = rn xX0_figure (73, [l0, l1], [vI (S i 2)], S) := q_getI dX0_figure_70 rfl ⟨⟨by decide, by decide⟩, by decide⟩ h
theorem eX0_figure_73 {z : Int} {l0 l1 : Option VV} {S : MM} : rn xX0_figure (73, [l0, l1], [vI z], S) = some (some (vI z), S) := q_retI dX0_figure_73 rfl
theorem eX0_figure_74 {a : Option Nat} {l1 : Option VV} {S : MM} : rn xX0_figure (74, [some (.inr (.inl a)), l1], [], S) = rn xX0_figure (75, [some (.inr (.inl a)), l1], [.inr (.inl a)], S) := rn_step dX0_figure_74 rfl rfl
theorem eX0_figure_75 {i : Nat} {l0 l1 : Option VV} (h : kd i = 0) {S : MM} : rn xX0_figure (75, [l0, l1], [vR i], S) = rn xX0_figure (78, [l0, l1], [vI (S i 3)], S) := q_getI dX0_figure_75 rfl ⟨⟨by decide, by decide⟩, by decide⟩ h
theorem eX0_figure_78 {z : Int} {l0 l1 : Option VV} {S : MM} : rn xX0_figure (78, [l0, l1], [vI z], S) = some (some (vI z), S) := q_retI dX0_figure_78 rfl
theorem eX0_figure_79 {a : Option Nat} {l1 : Option VV} {S : MM} : rn xX0_figure (79, [some (.inr (.inl a)), l1], [], S) = rn xX0_figure (80, [some (.inr (.inl a)), l1], [.inr (.inl a)], S) := rn_step dX0_figure_79 rfl rfl
theorem eX0_figure_80 {i : Nat} {l0 l1 : Option VV} (h : kd i = 0) {S : MM} : rn xX0_figure (80, [l0, l1], [vR i], S) = rn xX0_figure (83, [l0, l1], [vI (S i 4)], S) := q_getI dX0_figure_80 rfl ⟨⟨by decide, by decide⟩, by decide⟩ h
theorem eX0_figure_83 {z : Int} {l0 l1 : Option VV} {S : MM} : rn xX0_figure (83, [l0, l1], [vI z], S) = some (some (vI z), S) := q_retI dX0_figure_83 rfl
theorem eX0_figure_84 {a : Option Nat} {l1 : Option VV} {S : MM} : rn xX0_figure (84, [some (.inr (.inl a)), l1], [], S) = rn xX0_figure (85, [some (.inr (.inl a)), l1], [.inr (.inl a)], S) := rn_step dX0_figure_84 rfl rfl
theorem eX0_figure_85 {i : Nat} {l0 l1 : Option VV} (h : kd i = 0) {S : MM} : rn xX0_figure (85, [l0, l1], [vR i], S) = (fX0_rowsTogether [vR i] S).bind (fun q => rn xX0_figure (88, [l0, l1], q.1.toList ++ [], q.2)) := q_callV (n := 0) (as := []) (rest := []) dX0_figure_85 rfl rfl rfl rfl h
theorem eX0_figure_88 {z : Int} {l0 l1 : Option VV} {S : MM} : rn xX0_figure (88, [l0, l1], [vI z], S) = some (some (vI z), S) := q_retI dX0_figure_88 rfl
theorem eX0_figure_89 {a : Option Nat} {l1 : Option VV} {S : MM} : rn xX0_figure (89, [some (.inr (.inl a)), l1], [], S) = rn xX0_figure (90, [some (.inr (.inl a)), l1], [.inr (.inl a)], S) := rn_step dX0_figure_89 rfl rfl
theorem eX0_figure_90 {i : Nat} {l0 l1 : Option VV} (h : kd i = 0) {S : MM} : rn xX0_figure (90, [l0, l1], [vR i], S) = rn xX0_figure (93, [l0, l1], [vR (i + 4)], S) := q_getR dX0_figure_90 rfl ⟨⟨by decide, by decide⟩, by decide⟩ (fun h => (fref0 h).trans (by first | rfl | omega)) h
theorem eX0_figure_93 {a0 : Option Nat} {l0 l1 : Option VV} {S : MM} : rn xX0_figure (93, [l0, l1], [.inr (.inl a0)], S) = (fX8_sumOf [.inr (.inl a0)] S).bind (fun q => rn xX0_figure (96, [l0, l1], q.1.toList ++ [], q.2)) := q_callS (n := 1) (as := [.inr (.inl a0)]) (rest := []) dX0_figure_93 rfl rfl rfl rfl
theorem eX0_figure_96 {z : Int} {l0 l1 : Option VV} {S : MM} : rn xX0_figure (96, [l0, l1], [vI z], S) = some (some (vI z), S) := q_retI dX0_figure_96 rfl
theorem eX0_figure_97 {a : Option Nat} {l1 : Option VV} {S : MM} : rn xX0_figure (97, [some (.inr (.inl a)), l1], [], S) = rn xX0_figure (98, [some (.inr (.inl a)), l1], [.inr (.inl a)], S) := rn_step dX0_figure_97 rfl rfl
theorem eX0_figure_98 {i : Nat} {l0 l1 : Option VV} (h : kd i = 0) {S : MM} : rn xX0_figure (98, [l0, l1], [vR i], S) = rn xX0_figure (101, [l0, l1], [vR (i + 5)], S) := q_getR dX0_figure_98 rfl ⟨⟨by decide, by decide⟩, by decide⟩ (fun h => (fref0 h).trans (by first | rfl | omega)) h
theorem eX0_figure_101 {a0 : Option Nat} {l0 l1 : Option VV} {S : MM} : rn xX0_figure (101, [l0, l1], [.inr (.inl a0)], S) = (fX8_sumOf [.inr (.inl a0)] S).bind (fun q => rn xX0_figure (104, [l0, l1], q.1.toList ++ [], q.2)) := q_callS (n := 1) (as := [.inr (.inl a0)]) (rest := []) dX0_figure_101 rfl rfl rfl rfl
theorem eX0_figure_104 {z : Int} {l0 l1 : Option VV} {S : MM} : rn xX0_figure (104, [l0, l1], [vI z], S) = some (some (vI z), S) := q_retI dX0_figure_104 rfl
theorem eX0_figure_105 {a : Option Nat} {l1 : Option VV} {S : MM} : rn xX0_figure (105, [some (.inr (.inl a)), l1], [], S) = rn xX0_figure (106, [some (.inr (.inl a)), l1], [.inr (.inl a)], S) := rn_step dX0_figure_105 rfl rfl
theorem eX0_figure_106 {i : Nat} {l0 l1 : Option VV} (h : kd i = 0) {S : MM} : rn xX0_figure (106, [l0, l1], [vR i], S) = rn xX0_figure (109, [l0, l1], [vR (i + 6)], S) := q_getR dX0_figure_106 rfl ⟨⟨by decide, by decide⟩, by decide⟩ (fun h => (fref0 h).trans (by first | rfl | omega)) h
theorem eX0_figure_109 {a0 : Option Nat} {l0 l1 : Option VV} {S : MM} : rn xX0_figure (109, [l0, l1], [.inr (.inl a0)], S) = (fX8_sumOf [.inr (.inl a0)] S).bind (fun q => rn xX0_figure (112, [l0, l1], q.1.toList ++ [], q.2)) := q_callS (n := 1) (as := [.inr (.inl a0)]) (rest := []) dX0_figure_109 rfl rfl rfl rfl
theorem eX0_figure_112 {z : Int} {l0 l1 : Option VV} {S : MM} : rn xX0_figure (112, [l0, l1], [vI z], S) = some (some (vI z), S) := q_retI dX0_figure_112 rfl
theorem eX0_figure_113 {l0 l1 : Option VV} {S : MM} : rn xX0_figure (113, [l0, l1], [], S) = rn xX0_figure (115, [l0, l1], [vI (-6)], S) := rn_step dX0_figure_113 rfl rfl
theorem eX0_figure_115 {z : Int} {l0 l1 : Option VV} {S : MM} : rn xX0_figure (115, [l0, l1], [vI z], S) = some (some (vI z), S) := q_retI dX0_figure_115 rfl
noncomputable def qlX8_copyRow : List CE := [(1, 214, 0, 2, f_min), (1, 308, 0, 5, f_acopy)]
noncomputable def xX8_copyRow : XX := (cX8_copyRow, fcF fcl8, mcF qlX8_copyRow, 0)
noncomputable def fX8_copyRow : FN := fnX xX8_copyRow 4
set_option maxRecDepth 100000 in
theorem cwX8_copyRow : Cond.code yX8_copyRow cX8_copyRow 4 none ∈ lw_g := lw_gm 277 (by decide +kernel) (by decide +kernel)
set_option maxRecDepth 100000 in
theorem conX8_copyRow : Con yX8_copyRow cX8_copyRow 4 none { frames := 1, cells := 0, slots := 0, locals := 26 } fX8_copyRow := con_of (X := xX8_copyRow) (own := "LeapStones") (ql := qlX8_copyRow) (by decide) rfl FOK8 rfl (List.forall_mem_cons.mpr ⟨call_min (lw_gl _ [278, 265, 30, 266] (by decide +kernel) (by decide +kernel)) ⟨by decide, by decide⟩ ⟨Nat.le_refl _, Nat.le_refl _⟩, List.forall_mem_cons.mpr ⟨call_acopy (lw_gl _ [279, 281, 280, 31] (by decide +kernel) (by decide +kernel)) ⟨by decide, by decide⟩ ⟨Nat.le_refl _, Nat.le_refl _⟩, fun _ h => absurd h List.not_mem_nil⟩⟩) (Or.inl ⟨rfl, rfl⟩)
theorem uX8_copyRow {a0 : Option Nat} {a1 : Option Nat} {a2 : Int} {S : MM} : fX8_copyRow [.inr (.inl a0), .inr (.inl a1), vI a2] S = rn xX8_copyRow (0, [some (.inr (.inl a0)), some (.inr (.inl a1)), some (vI a2), none], [], S) := rfl
theorem dX8_copyRow_0 : decode cX8_copyRow 0 = .ok (.iload_n 2, 1) := by decide +kernel
theorem dX8_copyRow_1 : decode cX8_copyRow 1 = .ok (.aload_n 0, 1) := by decide +kernel
theorem dX8_copyRow_2 : decode cX8_copyRow 2 = .ok (.arraylength, 1) := by decide +kernel
theorem dX8_copyRow_3 : decode cX8_copyRow 3 = .ok (.aload_n 1, 1) := by decide +kernel
theorem dX8_copyRow_4 : decode cX8_copyRow 4 = .ok (.arraylength, 1) := by decide +kernel
theorem dX8_copyRow_5 : decode cX8_copyRow 5 = .ok (.invokestatic 214, 3) := by decide +kernel
theorem dX8_copyRow_8 : decode cX8_copyRow 8 = .ok (.invokestatic 214, 3) := by decide +kernel
theorem dX8_copyRow_11 : decode cX8_copyRow 11 = .ok (.istore_n 3, 1) := by decide +kernel
theorem dX8_copyRow_12 : decode cX8_copyRow 12 = .ok (.iload_n 3, 1) := by decide +kernel
theorem dX8_copyRow_13 : decode cX8_copyRow 13 = .ok (.ifCond .le 11, 3) := by decide +kernel
theorem dX8_copyRow_16 : decode cX8_copyRow 16 = .ok (.aload_n 0, 1) := by decide +kernel
theorem dX8_copyRow_17 : decode cX8_copyRow 17 = .ok (.iconst 0, 1) := by decide +kernel
theorem dX8_copyRow_18 : decode cX8_copyRow 18 = .ok (.aload_n 1, 1) := by decide +kernel
theorem dX8_copyRow_19 : decode cX8_copyRow 19 = .ok (.iconst 0, 1) := by decide +kernel
theorem dX8_copyRow_20 : decode cX8_copyRow 20 = .ok (.iload_n 3, 1) := by decide +kernel
theorem dX8_copyRow_21 : decode cX8_copyRow 21 = .ok (.invokestatic 308, 3) := by decide +kernel
theorem dX8_copyRow_24 : decode cX8_copyRow 24 = .ok (.return_, 1) := by decide +kernel
theorem eX8_copyRow_0 {a : Int} {l0 l1 l3 : Option VV} {S : MM} : rn xX8_copyRow (0, [l0, l1, some (vI a), l3], [], S) = rn xX8_copyRow (1, [l0, l1, some (vI a), l3], [vI a], S) := rn_step dX8_copyRow_0 rfl rfl
theorem eX8_copyRow_1 {a : Option Nat} {l1 l2 l3 : Option VV} {v0 : VV} {S : MM} : rn xX8_copyRow (1, [some (.inr (.inl a)), l1, l2, l3], [v0], S) = rn xX8_copyRow (2, [some (.inr (.inl a)), l1, l2, l3], [.inr (.inl a), v0], S) := rn_step dX8_copyRow_1 rfl rfl
theorem eX8_copyRow_2 {i : Nat} {l0 l1 l2 l3 : Option VV} {v1 : VV} (h : 10 ≤ kd i ∧ kd i ≤ 14) {S : MM} : rn xX8_copyRow (2, [l0, l1, l2, l3], [vR i, v1], S) = rn xX8_copyRow (3, [l0, l1, l2, l3], [vI (alen i), v1], S) := q_alen dX8_copyRow_2 h
theorem eX8_copyRow_2x {l0 l1 l2 l3 : Option VV} {v1 : VV} {S : MM} : rn xX8_copyRow (2, [l0, l1, l2, l3], [vR 602, v1], S) = rn xX8_copyRow (3, [l0, l1, l2, l3], [vI (S 604 0), v1], S) := q_alenX dX8_copyRow_2
theorem eX8_copyRow_2y {l0 l1 l2 l3 : Option VV} {v1 : VV} {S : MM} : rn xX8_copyRow (2, [l0, l1, l2, l3], [vR 603, v1], S) = rn xX8_copyRow (3, [l0, l1, l2, l3], [vI (S 604 1), v1], S) := q_alenY dX8_copyRow_2
theorem eX8_copyRow_3 {a : Option Nat} {l0 l2 l3 : Option VV} {v0 v1 : VV} {S : MM} : rn xX8_copyRow (3, [l0, some (.inr (.inl a)), l2, l3], [v0, v1], S) = rn xX8_copyRow (4, [l0, some (.inr (.inl a)), l2, l3], [.inr (.inl a), v0, v1], S) := rn_step dX8_copyRow_3 rfl rfl
theorem eX8_copyRow_4 {i : Nat} {l0 l1 l2 l3 : Option VV} {v1 v2 : VV} (h : 10 ≤ kd i ∧ kd i ≤ 14) {S : MM} : rn xX8_copyRow (4, [l0, l1, l2, l3], [vR i, v1, v2], S) = rn xX8_copyRow (5, [l0, l1, l2, l3], [vI (alen i), v1, v2], S) := q_alen dX8_copyRow_4 h
theorem eX8_copyRow_4x {l0 l1 l2 l3 : Option VV} {v1 v2 : VV} {S : MM} : rn xX8_copyRow (4, [l0, l1, l2, l3], [vR 602, v1, v2], S) = rn xX8_copyRow (5, [l0, l1, l2, l3], [vI (S 604 0), v1, v2], S) := q_alenX dX8_copyRow_4
theorem eX8_copyRow_4y {l0 l1 l2 l3 : Option VV} {v1 v2 : VV} {S : MM} : rn xX8_copyRow (4, [l0, l1, l2, l3], [vR 603, v1, v2], S) = rn xX8_copyRow (5, [l0, l1, l2, l3], [vI (S 604 1), v1, v2], S) := q_alenY dX8_copyRow_4
theorem eX8_copyRow_5 {a0 : Int} {a1 : Int} {l0 l1 l2 l3 : Option VV} {v2 : VV} {S : MM} : rn xX8_copyRow (5, [l0, l1, l2, l3], [vI a1, vI a0, v2], S) = (f_min [vI a0, vI a1] S).bind (fun q => rn xX8_copyRow (8, [l0, l1, l2, l3], q.1.toList ++ [v2], q.2)) := q_callS (n := 2) (as := [vI a0, vI a1]) (rest := [v2]) dX8_copyRow_5 rfl rfl rfl rfl
theorem eX8_copyRow_8 {a0 : Int} {a1 : Int} {l0 l1 l2 l3 : Option VV} {S : MM} : rn xX8_copyRow (8, [l0, l1, l2, l3], [vI a1, vI a0], S) = (f_min [vI a0, vI a1] S).bind (fun q => rn xX8_copyRow (11, [l0, l1, l2, l3], q.1.toList ++ [], q.2)) := q_callS (n := 2) (as := [vI a0, vI a1]) (rest := []) dX8_copyRow_8 rfl rfl rfl rfl
theorem eX8_copyRow_11 {a : Int} {w : Int} {l0 l1 l3 : Option VV} {S : MM} : rn xX8_copyRow (11, [l0, l1, some (vI w), l3], [vI a], S) = rn xX8_copyRow (12, [l0, l1, some (vI w), some (vI a)], [], S) := rn_step dX8_copyRow_11 rfl rfl
theorem eX8_copyRow_12 {a : Int} {l0 l1 l2 : Option VV} {S : MM} : rn xX8_copyRow (12, [l0, l1, l2, some (vI a)], [], S) = rn xX8_copyRow (13, [l0, l1, l2, some (vI a)], [vI a], S) := rn_step dX8_copyRow_12 rfl rfl
theorem eX8_copyRow_13 {a : Int} {l0 l1 l2 l3 : Option VV} (h : -2147483648 ≤ a ∧ a ≤ 2147483647) {S : MM} : rn xX8_copyRow (13, [l0, l1, l2, l3], [vI a], S) = if 0 < a then rn xX8_copyRow (16, [l0, l1, l2, l3], [], S) else rn xX8_copyRow (24, [l0, l1, l2, l3], [], S) := q_if_le dX8_copyRow_13 (by decide) rfl h
theorem eX8_copyRow_16 {a : Option Nat} {l1 l2 l3 : Option VV} {S : MM} : rn xX8_copyRow (16, [some (.inr (.inl a)), l1, l2, l3], [], S) = rn xX8_copyRow (17, [some (.inr (.inl a)), l1, l2, l3], [.inr (.inl a)], S) := rn_step dX8_copyRow_16 rfl rfl
theorem eX8_copyRow_17 {l0 l1 l2 l3 : Option VV} {v0 : VV} {S : MM} : rn xX8_copyRow (17, [l0, l1, l2, l3], [v0], S) = rn xX8_copyRow (18, [l0, l1, l2, l3], [vI 0, v0], S) := rn_step dX8_copyRow_17 rfl rfl
theorem eX8_copyRow_18 {a : Option Nat} {l0 l2 l3 : Option VV} {v0 v1 : VV} {S : MM} : rn xX8_copyRow (18, [l0, some (.inr (.inl a)), l2, l3], [v0, v1], S) = rn xX8_copyRow (19, [l0, some (.inr (.inl a)), l2, l3], [.inr (.inl a), v0, v1], S) := rn_step dX8_copyRow_18 rfl rfl
theorem eX8_copyRow_19 {l0 l1 l2 l3 : Option VV} {v0 v1 v2 : VV} {S : MM} : rn xX8_copyRow (19, [l0, l1, l2, l3], [v0, v1, v2], S) = rn xX8_copyRow (20, [l0, l1, l2, l3], [vI 0, v0, v1, v2], S) := rn_step dX8_copyRow_19 rfl rfl
theorem eX8_copyRow_20 {a : Int} {l0 l1 l2 : Option VV} {v0 v1 v2 v3 : VV} {S : MM} : rn xX8_copyRow (20, [l0, l1, l2, some (vI a)], [v0, v1, v2, v3], S) = rn xX8_copyRow (21, [l0, l1, l2, some (vI a)], [vI a, v0, v1, v2, v3], S) := rn_step dX8_copyRow_20 rfl rfl
theorem eX8_copyRow_21 {a0 : Option Nat} {a1 : Int} {a2 : Option Nat} {a3 : Int} {a4 : Int} {l0 l1 l2 l3 : Option VV} {S : MM} : rn xX8_copyRow (21, [l0, l1, l2, l3], [vI a4, vI a3, .inr (.inl a2), vI a1, .inr (.inl a0)], S) = (f_acopy [.inr (.inl a0), vI a1, .inr (.inl a2), vI a3, vI a4] S).bind (fun q => rn xX8_copyRow (24, [l0, l1, l2, l3], q.1.toList ++ [], q.2)) := q_callS (n := 5) (as := [.inr (.inl a0), vI a1, .inr (.inl a2), vI a3, vI a4]) (rest := []) dX8_copyRow_21 rfl rfl rfl rfl
theorem eX8_copyRow_24 {l0 l1 l2 l3 : Option VV} {S : MM} : rn xX8_copyRow (24, [l0, l1, l2, l3], [], S) = some (none, S) := q_retV dX8_copyRow_24 rfl
noncomputable def qlX0_copyFrom : List CE := [(1, 140, 0, 3, fX8_copyRow)]
noncomputable def xX0_copyFrom : XX := (cX0_copyFrom, fcF fcl0, mcF qlX0_copyFrom, 0)
noncomputable def fX0_copyFrom : FN := fnX xX0_copyFrom 2
set_option maxRecDepth 100000 in
theorem cwX0_copyFrom : Cond.code yX0_copyFrom cX0_copyFrom 2 none ∈ lw_g := lw_gm 308 (by decide +kernel) (by decide +kernel)
set_option maxRecDepth 100000 in
theorem conX0_copyFrom : Con yX0_copyFrom cX0_copyFrom 2 none { frames := 2, cells := 0, slots := 0, locals := 49 } fX0_copyFrom := con_of (X := xX0_copyFrom) (own := "LeapStones$Crossing") (ql := qlX0_copyFrom) (by decide) rfl FOK0 rfl (List.forall_mem_cons.mpr ⟨call_N conX8_copyRow cwX8_copyRow (lw_gl _ [276, 21] (by decide +kernel) (by decide +kernel)) (List.mem_of_getElem? (i := 16) (by decide +kernel)) ⟨by decide, by decide, by decide +kernel⟩ ⟨rfl, rfl⟩ ⟨by decide, by decide⟩ ⟨Nat.le_refl _, Nat.le_refl _⟩, fun _ h => absurd h List.not_mem_nil⟩) (Or.inl ⟨rfl, rfl⟩)
theorem uX0_copyFrom {i : Nat} {a0 : Option Nat} {S : MM} : fX0_copyFrom [vR i, .inr (.inl a0)] S = rn xX0_copyFrom (0, [some (vR i), some (.inr (.inl a0))], [], S) := rfl
theorem dX0_copyFrom_0 : decode cX0_copyFrom 0 = .ok (.aload_n 0, 1) := by decide +kernel
theorem dX0_copyFrom_1 : decode cX0_copyFrom 1 = .ok (.aload_n 1, 1) := by decide +kernel
theorem dX0_copyFrom_2 : decode cX0_copyFrom 2 = .ok (.getfield 33, 3) := by decide +kernel
theorem dX0_copyFrom_5 : decode cX0_copyFrom 5 = .ok (.putfield 33, 3) := by decide +kernel
theorem dX0_copyFrom_8 : decode cX0_copyFrom 8 = .ok (.aload_n 0, 1) := by decide +kernel
theorem dX0_copyFrom_9 : decode cX0_copyFrom 9 = .ok (.aload_n 1, 1) := by decide +kernel
theorem dX0_copyFrom_10 : decode cX0_copyFrom 10 = .ok (.getfield 37, 3) := by decide +kernel
theorem dX0_copyFrom_13 : decode cX0_copyFrom 13 = .ok (.putfield 37, 3) := by decide +kernel
theorem dX0_copyFrom_16 : decode cX0_copyFrom 16 = .ok (.aload_n 0, 1) := by decide +kernel
theorem dX0_copyFrom_17 : decode cX0_copyFrom 17 = .ok (.aload_n 1, 1) := by decide +kernel
theorem dX0_copyFrom_18 : decode cX0_copyFrom 18 = .ok (.getfield 62, 3) := by decide +kernel
theorem dX0_copyFrom_21 : decode cX0_copyFrom 21 = .ok (.putfield 62, 3) := by decide +kernel
theorem dX0_copyFrom_24 : decode cX0_copyFrom 24 = .ok (.aload_n 0, 1) := by decide +kernel
theorem dX0_copyFrom_25 : decode cX0_copyFrom 25 = .ok (.aload_n 1, 1) := by decide +kernel
theorem dX0_copyFrom_26 : decode cX0_copyFrom 26 = .ok (.getfield 69, 3) := by decide +kernel
theorem dX0_copyFrom_29 : decode cX0_copyFrom 29 = .ok (.putfield 69, 3) := by decide +kernel
theorem dX0_copyFrom_32 : decode cX0_copyFrom 32 = .ok (.aload_n 0, 1) := by decide +kernel
theorem dX0_copyFrom_33 : decode cX0_copyFrom 33 = .ok (.aload_n 1, 1) := by decide +kernel
theorem dX0_copyFrom_34 : decode cX0_copyFrom 34 = .ok (.getfield 44, 3) := by decide +kernel
theorem dX0_copyFrom_37 : decode cX0_copyFrom 37 = .ok (.putfield 44, 3) := by decide +kernel
theorem dX0_copyFrom_40 : decode cX0_copyFrom 40 = .ok (.aload_n 1, 1) := by decide +kernel
theorem dX0_copyFrom_41 : decode cX0_copyFrom 41 = .ok (.getfield 9, 3) := by decide +kernel
theorem dX0_copyFrom_44 : decode cX0_copyFrom 44 = .ok (.aload_n 0, 1) := by decide +kernel
theorem dX0_copyFrom_45 : decode cX0_copyFrom 45 = .ok (.getfield 9, 3) := by decide +kernel
theorem dX0_copyFrom_48 : decode cX0_copyFrom 48 = .ok (.aload_n 0, 1) := by decide +kernel
theorem dX0_copyFrom_49 : decode cX0_copyFrom 49 = .ok (.getfield 44, 3) := by decide +kernel
theorem dX0_copyFrom_52 : decode cX0_copyFrom 52 = .ok (.invokestatic 140, 3) := by decide +kernel
theorem dX0_copyFrom_55 : decode cX0_copyFrom 55 = .ok (.aload_n 1, 1) := by decide +kernel
theorem dX0_copyFrom_56 : decode cX0_copyFrom 56 = .ok (.getfield 15, 3) := by decide +kernel
theorem dX0_copyFrom_59 : decode cX0_copyFrom 59 = .ok (.aload_n 0, 1) := by decide +kernel
theorem dX0_copyFrom_60 : decode cX0_copyFrom 60 = .ok (.getfield 15, 3) := by decide +kernel
theorem dX0_copyFrom_63 : decode cX0_copyFrom 63 = .ok (.aload_n 0, 1) := by decide +kernel
theorem dX0_copyFrom_64 : decode cX0_copyFrom 64 = .ok (.getfield 44, 3) := by decide +kernel
theorem dX0_copyFrom_67 : decode cX0_copyFrom 67 = .ok (.invokestatic 140, 3) := by decide +kernel
theorem dX0_copyFrom_70 : decode cX0_copyFrom 70 = .ok (.aload_n 1, 1) := by decide +kernel
theorem dX0_copyFrom_71 : decode cX0_copyFrom 71 = .ok (.getfield 18, 3) := by decide +kernel
theorem dX0_copyFrom_74 : decode cX0_copyFrom 74 = .ok (.aload_n 0, 1) := by decide +kernel
theorem dX0_copyFrom_75 : decode cX0_copyFrom 75 = .ok (.getfield 18, 3) := by decide +kernel
theorem dX0_copyFrom_78 : decode cX0_copyFrom 78 = .ok (.iconst 3, 1) := by decide +kernel
theorem dX0_copyFrom_79 : decode cX0_copyFrom 79 = .ok (.invokestatic 140, 3) := by decide +kernel
theorem dX0_copyFrom_82 : decode cX0_copyFrom 82 = .ok (.aload_n 1, 1) := by decide +kernel
theorem dX0_copyFrom_83 : decode cX0_copyFrom 83 = .ok (.getfield 21, 3) := by decide +kernel
theorem dX0_copyFrom_86 : decode cX0_copyFrom 86 = .ok (.aload_n 0, 1) := by decide +kernel
theorem dX0_copyFrom_87 : decode cX0_copyFrom 87 = .ok (.getfield 21, 3) := by decide +kernel
theorem dX0_copyFrom_90 : decode cX0_copyFrom 90 = .ok (.iconst 3, 1) := by decide +kernel
theorem dX0_copyFrom_91 : decode cX0_copyFrom 91 = .ok (.invokestatic 140, 3) := by decide +kernel
theorem dX0_copyFrom_94 : decode cX0_copyFrom 94 = .ok (.aload_n 1, 1) := by decide +kernel
theorem dX0_copyFrom_95 : decode cX0_copyFrom 95 = .ok (.getfield 24, 3) := by decide +kernel
theorem dX0_copyFrom_98 : decode cX0_copyFrom 98 = .ok (.aload_n 0, 1) := by decide +kernel
theorem dX0_copyFrom_99 : decode cX0_copyFrom 99 = .ok (.getfield 24, 3) := by decide +kernel
theorem dX0_copyFrom_102 : decode cX0_copyFrom 102 = .ok (.iconst 3, 1) := by decide +kernel
theorem dX0_copyFrom_103 : decode cX0_copyFrom 103 = .ok (.invokestatic 140, 3) := by decide +kernel
theorem dX0_copyFrom_106 : decode cX0_copyFrom 106 = .ok (.aload_n 1, 1) := by decide +kernel
theorem dX0_copyFrom_107 : decode cX0_copyFrom 107 = .ok (.getfield 27, 3) := by decide +kernel
theorem dX0_copyFrom_110 : decode cX0_copyFrom 110 = .ok (.aload_n 0, 1) := by decide +kernel
theorem dX0_copyFrom_111 : decode cX0_copyFrom 111 = .ok (.getfield 27, 3) := by decide +kernel
theorem dX0_copyFrom_114 : decode cX0_copyFrom 114 = .ok (.iconst 3, 1) := by decide +kernel
theorem dX0_copyFrom_115 : decode cX0_copyFrom 115 = .ok (.invokestatic 140, 3) := by decide +kernel
theorem dX0_copyFrom_118 : decode cX0_copyFrom 118 = .ok (.aload_n 1, 1) := by decide +kernel
theorem dX0_copyFrom_119 : decode cX0_copyFrom 119 = .ok (.getfield 30, 3) := by decide +kernel
theorem dX0_copyFrom_122 : decode cX0_copyFrom 122 = .ok (.aload_n 0, 1) := by decide +kernel
theorem dX0_copyFrom_123 : decode cX0_copyFrom 123 = .ok (.getfield 30, 3) := by decide +kernel
theorem dX0_copyFrom_126 : decode cX0_copyFrom 126 = .ok (.iconst 3, 1) := by decide +kernel
theorem dX0_copyFrom_127 : decode cX0_copyFrom 127 = .ok (.invokestatic 140, 3) := by decide +kernel
theorem dX0_copyFrom_130 : decode cX0_copyFrom 130 = .ok (.return_, 1) := by decide +kernel
theorem eX0_copyFrom_0 {a : Option Nat} {l1 : Option VV} {S : MM} : rn xX0_copyFrom (0, [some (.inr (.inl a)), l1], [], S) = rn xX0_copyFrom (1, [some (.inr (.inl a)), l1], [.inr (.inl a)], S) := rn_step dX0_copyFrom_0 rfl rfl
theorem eX0_copyFrom_1 {a : Option Nat} {l0 : Option VV} {v0 : VV} {S : MM} : rn xX0_copyFrom (1, [l0, some (.inr (.inl a))], [v0], S) = rn xX0_copyFrom (2, [l0, some (.inr (.inl a))], [.inr (.inl a), v0], S) := rn_step dX0_copyFrom_1 rfl rfl
theorem eX0_copyFrom_2 {i : Nat} {l0 l1 : Option VV} {v1 : VV} (h : kd i = 0) {S : MM} : rn xX0_copyFrom (2, [l0, l1], [vR i, v1], S) = rn xX0_copyFrom (5, [l0, l1], [vI (S i 0), v1], S) := q_getI dX0_copyFrom_2 rfl ⟨⟨by decide, by decide⟩, by decide⟩ h
theorem eX0_copyFrom_5 {z : Int} {i : Nat} {l0 l1 : Option VV} (hz : z = 0 ∨ z = 1) (h : kd i = 0) {S : MM} : rn xX0_copyFrom (5, [l0, l1], [vI z, vR i], S) = rn xX0_copyFrom (8, [l0, l1], [], updM S i 0 z) := q_put dX0_copyFrom_5 rfl ⟨by decide, by decide⟩ (fit1 hz) h
theorem eX0_copyFrom_8 {a : Option Nat} {l1 : Option VV} {S : MM} : rn xX0_copyFrom (8, [some (.inr (.inl a)), l1], [], S) = rn xX0_copyFrom (9, [some (.inr (.inl a)), l1], [.inr (.inl a)], S) := rn_step dX0_copyFrom_8 rfl rfl
theorem eX0_copyFrom_9 {a : Option Nat} {l0 : Option VV} {v0 : VV} {S : MM} : rn xX0_copyFrom (9, [l0, some (.inr (.inl a))], [v0], S) = rn xX0_copyFrom (10, [l0, some (.inr (.inl a))], [.inr (.inl a), v0], S) := rn_step dX0_copyFrom_9 rfl rfl
theorem eX0_copyFrom_10 {i : Nat} {l0 l1 : Option VV} {v1 : VV} (h : kd i = 0) {S : MM} : rn xX0_copyFrom (10, [l0, l1], [vR i, v1], S) = rn xX0_copyFrom (13, [l0, l1], [vI (S i 1), v1], S) := q_getI dX0_copyFrom_10 rfl ⟨⟨by decide, by decide⟩, by decide⟩ h
theorem eX0_copyFrom_13 {z : Int} {i : Nat} {l0 l1 : Option VV} (hz : z = 0 ∨ z = 1) (h : kd i = 0) {S : MM} : rn xX0_copyFrom (13, [l0, l1], [vI z, vR i], S) = rn xX0_copyFrom (16, [l0, l1], [], updM S i 1 z) := q_put dX0_copyFrom_13 rfl ⟨by decide, by decide⟩ (fit1 hz) h
theorem eX0_copyFrom_16 {a : Option Nat} {l1 : Option VV} {S : MM} : rn xX0_copyFrom (16, [some (.inr (.inl a)), l1], [], S) = rn xX0_copyFrom (17, [some (.inr (.inl a)), l1], [.inr (.inl a)], S) := rn_step dX0_copyFrom_16 rfl rfl
theorem eX0_copyFrom_17 {a : Option Nat} {l0 : Option VV} {v0 : VV} {S : MM} : rn xX0_copyFrom (17, [l0, some (.inr (.inl a))], [v0], S) = rn xX0_copyFrom (18, [l0, some (.inr (.inl a))], [.inr (.inl a), v0], S) := rn_step dX0_copyFrom_17 rfl rfl
theorem eX0_copyFrom_18 {i : Nat} {l0 l1 : Option VV} {v1 : VV} (h : kd i = 0) {S : MM} : rn xX0_copyFrom (18, [l0, l1], [vR i, v1], S) = rn xX0_copyFrom (21, [l0, l1], [vI (S i 2), v1], S) := q_getI dX0_copyFrom_18 rfl ⟨⟨by decide, by decide⟩, by decide⟩ h
theorem eX0_copyFrom_21 {z : Int} {i : Nat} {l0 l1 : Option VV} (h : kd i = 0) {S : MM} : rn xX0_copyFrom (21, [l0, l1], [vI z, vR i], S) = rn xX0_copyFrom (24, [l0, l1], [], updM S i 2 z) := q_put dX0_copyFrom_21 rfl ⟨by decide, by decide⟩ rfl h
theorem eX0_copyFrom_24 {a : Option Nat} {l1 : Option VV} {S : MM} : rn xX0_copyFrom (24, [some (.inr (.inl a)), l1], [], S) = rn xX0_copyFrom (25, [some (.inr (.inl a)), l1], [.inr (.inl a)], S) := rn_step dX0_copyFrom_24 rfl rfl
theorem eX0_copyFrom_25 {a : Option Nat} {l0 : Option VV} {v0 : VV} {S : MM} : rn xX0_copyFrom (25, [l0, some (.inr (.inl a))], [v0], S) = rn xX0_copyFrom (26, [l0, some (.inr (.inl a))], [.inr (.inl a), v0], S) := rn_step dX0_copyFrom_25 rfl rfl
theorem eX0_copyFrom_26 {i : Nat} {l0 l1 : Option VV} {v1 : VV} (h : kd i = 0) {S : MM} : rn xX0_copyFrom (26, [l0, l1], [vR i, v1], S) = rn xX0_copyFrom (29, [l0, l1], [vI (S i 3), v1], S) := q_getI dX0_copyFrom_26 rfl ⟨⟨by decide, by decide⟩, by decide⟩ h
theorem eX0_copyFrom_29 {z : Int} {i : Nat} {l0 l1 : Option VV} (h : kd i = 0) {S : MM} : rn xX0_copyFrom (29, [l0, l1], [vI z, vR i], S) = rn xX0_copyFrom (32, [l0, l1], [], updM S i 3 z) := q_put dX0_copyFrom_29 rfl ⟨by decide, by decide⟩ rfl h
theorem eX0_copyFrom_32 {a : Option Nat} {l1 : Option VV} {S : MM} : rn xX0_copyFrom (32, [some (.inr (.inl a)), l1], [], S) = rn xX0_copyFrom (33, [some (.inr (.inl a)), l1], [.inr (.inl a)], S) := rn_step dX0_copyFrom_32 rfl rfl
theorem eX0_copyFrom_33 {a : Option Nat} {l0 : Option VV} {v0 : VV} {S : MM} : rn xX0_copyFrom (33, [l0, some (.inr (.inl a))], [v0], S) = rn xX0_copyFrom (34, [l0, some (.inr (.inl a))], [.inr (.inl a), v0], S) := rn_step dX0_copyFrom_33 rfl rfl
theorem eX0_copyFrom_34 {i : Nat} {l0 l1 : Option VV} {v1 : VV} (h : kd i = 0) {S : MM} : rn xX0_copyFrom (34, [l0, l1], [vR i, v1], S) = rn xX0_copyFrom (37, [l0, l1], [vI (S i 4), v1], S) := q_getI dX0_copyFrom_34 rfl ⟨⟨by decide, by decide⟩, by decide⟩ h
theorem eX0_copyFrom_37 {z : Int} {i : Nat} {l0 l1 : Option VV} (h : kd i = 0) {S : MM} : rn xX0_copyFrom (37, [l0, l1], [vI z, vR i], S) = rn xX0_copyFrom (40, [l0, l1], [], updM S i 4 z) := q_put dX0_copyFrom_37 rfl ⟨by decide, by decide⟩ rfl h
theorem eX0_copyFrom_40 {a : Option Nat} {l0 : Option VV} {S : MM} : rn xX0_copyFrom (40, [l0, some (.inr (.inl a))], [], S) = rn xX0_copyFrom (41, [l0, some (.inr (.inl a))], [.inr (.inl a)], S) := rn_step dX0_copyFrom_40 rfl rfl
theorem eX0_copyFrom_41 {i : Nat} {l0 l1 : Option VV} (h : kd i = 0) {S : MM} : rn xX0_copyFrom (41, [l0, l1], [vR i], S) = rn xX0_copyFrom (44, [l0, l1], [vR (i + 1)], S) := q_getR dX0_copyFrom_41 rfl ⟨⟨by decide, by decide⟩, by decide⟩ (fun h => (fref0 h).trans (by first | rfl | omega)) h
theorem eX0_copyFrom_44 {a : Option Nat} {l1 : Option VV} {v0 : VV} {S : MM} : rn xX0_copyFrom (44, [some (.inr (.inl a)), l1], [v0], S) = rn xX0_copyFrom (45, [some (.inr (.inl a)), l1], [.inr (.inl a), v0], S) := rn_step dX0_copyFrom_44 rfl rfl
theorem eX0_copyFrom_45 {i : Nat} {l0 l1 : Option VV} {v1 : VV} (h : kd i = 0) {S : MM} : rn xX0_copyFrom (45, [l0, l1], [vR i, v1], S) = rn xX0_copyFrom (48, [l0, l1], [vR (i + 1), v1], S) := q_getR dX0_copyFrom_45 rfl ⟨⟨by decide, by decide⟩, by decide⟩ (fun h => (fref0 h).trans (by first | rfl | omega)) h
theorem eX0_copyFrom_48 {a : Option Nat} {l1 : Option VV} {v0 v1 : VV} {S : MM} : rn xX0_copyFrom (48, [some (.inr (.inl a)), l1], [v0, v1], S) = rn xX0_copyFrom (49, [some (.inr (.inl a)), l1], [.inr (.inl a), v0, v1], S) := rn_step dX0_copyFrom_48 rfl rfl
theorem eX0_copyFrom_49 {i : Nat} {l0 l1 : Option VV} {v1 v2 : VV} (h : kd i = 0) {S : MM} : rn xX0_copyFrom (49, [l0, l1], [vR i, v1, v2], S) = rn xX0_copyFrom (52, [l0, l1], [vI (S i 4), v1, v2], S) := q_getI dX0_copyFrom_49 rfl ⟨⟨by decide, by decide⟩, by decide⟩ h
theorem eX0_copyFrom_52 {a0 : Option Nat} {a1 : Option Nat} {a2 : Int} {l0 l1 : Option VV} {S : MM} : rn xX0_copyFrom (52, [l0, l1], [vI a2, .inr (.inl a1), .inr (.inl a0)], S) = (fX8_copyRow [.inr (.inl a0), .inr (.inl a1), vI a2] S).bind (fun q => rn xX0_copyFrom (55, [l0, l1], q.1.toList ++ [], q.2)) := q_callS (n := 3) (as := [.inr (.inl a0), .inr (.inl a1), vI a2]) (rest := []) dX0_copyFrom_52 rfl rfl rfl rfl
theorem eX0_copyFrom_55 {a : Option Nat} {l0 : Option VV} {S : MM} : rn xX0_copyFrom (55, [l0, some (.inr (.inl a))], [], S) = rn xX0_copyFrom (56, [l0, some (.inr (.inl a))], [.inr (.inl a)], S) := rn_step dX0_copyFrom_55 rfl rfl
theorem eX0_copyFrom_56 {i : Nat} {l0 l1 : Option VV} (h : kd i = 0) {S : MM} : rn xX0_copyFrom (56, [l0, l1], [vR i], S) = rn xX0_copyFrom (59, [l0, l1], [vR (i + 2)], S) := q_getR dX0_copyFrom_56 rfl ⟨⟨by decide, by decide⟩, by decide⟩ (fun h => (fref0 h).trans (by first | rfl | omega)) h
theorem eX0_copyFrom_59 {a : Option Nat} {l1 : Option VV} {v0 : VV} {S : MM} : rn xX0_copyFrom (59, [some (.inr (.inl a)), l1], [v0], S) = rn xX0_copyFrom (60, [some (.inr (.inl a)), l1], [.inr (.inl a), v0], S) := rn_step dX0_copyFrom_59 rfl rfl
theorem eX0_copyFrom_60 {i : Nat} {l0 l1 : Option VV} {v1 : VV} (h : kd i = 0) {S : MM} : rn xX0_copyFrom (60, [l0, l1], [vR i, v1], S) = rn xX0_copyFrom (63, [l0, l1], [vR (i + 2), v1], S) := q_getR dX0_copyFrom_60 rfl ⟨⟨by decide, by decide⟩, by decide⟩ (fun h => (fref0 h).trans (by first | rfl | omega)) h
theorem eX0_copyFrom_63 {a : Option Nat} {l1 : Option VV} {v0 v1 : VV} {S : MM} : rn xX0_copyFrom (63, [some (.inr (.inl a)), l1], [v0, v1], S) = rn xX0_copyFrom (64, [some (.inr (.inl a)), l1], [.inr (.inl a), v0, v1], S) := rn_step dX0_copyFrom_63 rfl rfl
theorem eX0_copyFrom_64 {i : Nat} {l0 l1 : Option VV} {v1 v2 : VV} (h : kd i = 0) {S : MM} : rn xX0_copyFrom (64, [l0, l1], [vR i, v1, v2], S) = rn xX0_copyFrom (67, [l0, l1], [vI (S i 4), v1, v2], S) := q_getI dX0_copyFrom_64 rfl ⟨⟨by decide, by decide⟩, by decide⟩ h
theorem eX0_copyFrom_67 {a0 : Option Nat} {a1 : Option Nat} {a2 : Int} {l0 l1 : Option VV} {S : MM} : rn xX0_copyFrom (67, [l0, l1], [vI a2, .inr (.inl a1), .inr (.inl a0)], S) = (fX8_copyRow [.inr (.inl a0), .inr (.inl a1), vI a2] S).bind (fun q => rn xX0_copyFrom (70, [l0, l1], q.1.toList ++ [], q.2)) := q_callS (n := 3) (as := [.inr (.inl a0), .inr (.inl a1), vI a2]) (rest := []) dX0_copyFrom_67 rfl rfl rfl rfl
theorem eX0_copyFrom_70 {a : Option Nat} {l0 : Option VV} {S : MM} : rn xX0_copyFrom (70, [l0, some (.inr (.inl a))], [], S) = rn xX0_copyFrom (71, [l0, some (.inr (.inl a))], [.inr (.inl a)], S) := rn_step dX0_copyFrom_70 rfl rfl
theorem eX0_copyFrom_71 {i : Nat} {l0 l1 : Option VV} (h : kd i = 0) {S : MM} : rn xX0_copyFrom (71, [l0, l1], [vR i], S) = rn xX0_copyFrom (74, [l0, l1], [vR (i + 3)], S) := q_getR dX0_copyFrom_71 rfl ⟨⟨by decide, by decide⟩, by decide⟩ (fun h => (fref0 h).trans (by first | rfl | omega)) h
theorem eX0_copyFrom_74 {a : Option Nat} {l1 : Option VV} {v0 : VV} {S : MM} : rn xX0_copyFrom (74, [some (.inr (.inl a)), l1], [v0], S) = rn xX0_copyFrom (75, [some (.inr (.inl a)), l1], [.inr (.inl a), v0], S) := rn_step dX0_copyFrom_74 rfl rfl
theorem eX0_copyFrom_75 {i : Nat} {l0 l1 : Option VV} {v1 : VV} (h : kd i = 0) {S : MM} : rn xX0_copyFrom (75, [l0, l1], [vR i, v1], S) = rn xX0_copyFrom (78, [l0, l1], [vR (i + 3), v1], S) := q_getR dX0_copyFrom_75 rfl ⟨⟨by decide, by decide⟩, by decide⟩ (fun h => (fref0 h).trans (by first | rfl | omega)) h
theorem eX0_copyFrom_78 {l0 l1 : Option VV} {v0 v1 : VV} {S : MM} : rn xX0_copyFrom (78, [l0, l1], [v0, v1], S) = rn xX0_copyFrom (79, [l0, l1], [vI 3, v0, v1], S) := rn_step dX0_copyFrom_78 rfl rfl
theorem eX0_copyFrom_79 {a0 : Option Nat} {a1 : Option Nat} {a2 : Int} {l0 l1 : Option VV} {S : MM} : rn xX0_copyFrom (79, [l0, l1], [vI a2, .inr (.inl a1), .inr (.inl a0)], S) = (fX8_copyRow [.inr (.inl a0), .inr (.inl a1), vI a2] S).bind (fun q => rn xX0_copyFrom (82, [l0, l1], q.1.toList ++ [], q.2)) := q_callS (n := 3) (as := [.inr (.inl a0), .inr (.inl a1), vI a2]) (rest := []) dX0_copyFrom_79 rfl rfl rfl rfl
theorem eX0_copyFrom_82 {a : Option Nat} {l0 : Option VV} {S : MM} : rn xX0_copyFrom (82, [l0, some (.inr (.inl a))], [], S) = rn xX0_copyFrom (83, [l0, some (.inr (.inl a))], [.inr (.inl a)], S) := rn_step dX0_copyFrom_82 rfl rfl
theorem eX0_copyFrom_83 {i : Nat} {l0 l1 : Option VV} (h : kd i = 0) {S : MM} : rn xX0_copyFrom (83, [l0, l1], [vR i], S) = rn xX0_copyFrom (86, [l0, l1], [vR (i + 4)], S) := q_getR dX0_copyFrom_83 rfl ⟨⟨by decide, by decide⟩, by decide⟩ (fun h => (fref0 h).trans (by first | rfl | omega)) h
theorem eX0_copyFrom_86 {a : Option Nat} {l1 : Option VV} {v0 : VV} {S : MM} : rn xX0_copyFrom (86, [some (.inr (.inl a)), l1], [v0], S) = rn xX0_copyFrom (87, [some (.inr (.inl a)), l1], [.inr (.inl a), v0], S) := rn_step dX0_copyFrom_86 rfl rfl
theorem eX0_copyFrom_87 {i : Nat} {l0 l1 : Option VV} {v1 : VV} (h : kd i = 0) {S : MM} : rn xX0_copyFrom (87, [l0, l1], [vR i, v1], S) = rn xX0_copyFrom (90, [l0, l1], [vR (i + 4), v1], S) := q_getR dX0_copyFrom_87 rfl ⟨⟨by decide, by decide⟩, by decide⟩ (fun h => (fref0 h).trans (by first | rfl | omega)) h
theorem eX0_copyFrom_90 {l0 l1 : Option VV} {v0 v1 : VV} {S : MM} : rn xX0_copyFrom (90, [l0, l1], [v0, v1], S) = rn xX0_copyFrom (91, [l0, l1], [vI 3, v0, v1], S) := rn_step dX0_copyFrom_90 rfl rfl
theorem eX0_copyFrom_91 {a0 : Option Nat} {a1 : Option Nat} {a2 : Int} {l0 l1 : Option VV} {S : MM} : rn xX0_copyFrom (91, [l0, l1], [vI a2, .inr (.inl a1), .inr (.inl a0)], S) = (fX8_copyRow [.inr (.inl a0), .inr (.inl a1), vI a2] S).bind (fun q => rn xX0_copyFrom (94, [l0, l1], q.1.toList ++ [], q.2)) := q_callS (n := 3) (as := [.inr (.inl a0), .inr (.inl a1), vI a2]) (rest := []) dX0_copyFrom_91 rfl rfl rfl rfl
theorem eX0_copyFrom_94 {a : Option Nat} {l0 : Option VV} {S : MM} : rn xX0_copyFrom (94, [l0, some (.inr (.inl a))], [], S) = rn xX0_copyFrom (95, [l0, some (.inr (.inl a))], [.inr (.inl a)], S) := rn_step dX0_copyFrom_94 rfl rfl
theorem eX0_copyFrom_95 {i : Nat} {l0 l1 : Option VV} (h : kd i = 0) {S : MM} : rn xX0_copyFrom (95, [l0, l1], [vR i], S) = rn xX0_copyFrom (98, [l0, l1], [vR (i + 5)], S) := q_getR dX0_copyFrom_95 rfl ⟨⟨by decide, by decide⟩, by decide⟩ (fun h => (fref0 h).trans (by first | rfl | omega)) h
theorem eX0_copyFrom_98 {a : Option Nat} {l1 : Option VV} {v0 : VV} {S : MM} : rn xX0_copyFrom (98, [some (.inr (.inl a)), l1], [v0], S) = rn xX0_copyFrom (99, [some (.inr (.inl a)), l1], [.inr (.inl a), v0], S) := rn_step dX0_copyFrom_98 rfl rfl
theorem eX0_copyFrom_99 {i : Nat} {l0 l1 : Option VV} {v1 : VV} (h : kd i = 0) {S : MM} : rn xX0_copyFrom (99, [l0, l1], [vR i, v1], S) = rn xX0_copyFrom (102, [l0, l1], [vR (i + 5), v1], S) := q_getR dX0_copyFrom_99 rfl ⟨⟨by decide, by decide⟩, by decide⟩ (fun h => (fref0 h).trans (by first | rfl | omega)) h
theorem eX0_copyFrom_102 {l0 l1 : Option VV} {v0 v1 : VV} {S : MM} : rn xX0_copyFrom (102, [l0, l1], [v0, v1], S) = rn xX0_copyFrom (103, [l0, l1], [vI 3, v0, v1], S) := rn_step dX0_copyFrom_102 rfl rfl
theorem eX0_copyFrom_103 {a0 : Option Nat} {a1 : Option Nat} {a2 : Int} {l0 l1 : Option VV} {S : MM} : rn xX0_copyFrom (103, [l0, l1], [vI a2, .inr (.inl a1), .inr (.inl a0)], S) = (fX8_copyRow [.inr (.inl a0), .inr (.inl a1), vI a2] S).bind (fun q => rn xX0_copyFrom (106, [l0, l1], q.1.toList ++ [], q.2)) := q_callS (n := 3) (as := [.inr (.inl a0), .inr (.inl a1), vI a2]) (rest := []) dX0_copyFrom_103 rfl rfl rfl rfl
theorem eX0_copyFrom_106 {a : Option Nat} {l0 : Option VV} {S : MM} : rn xX0_copyFrom (106, [l0, some (.inr (.inl a))], [], S) = rn xX0_copyFrom (107, [l0, some (.inr (.inl a))], [.inr (.inl a)], S) := rn_step dX0_copyFrom_106 rfl rfl
theorem eX0_copyFrom_107 {i : Nat} {l0 l1 : Option VV} (h : kd i = 0) {S : MM} : rn xX0_copyFrom (107, [l0, l1], [vR i], S) = rn xX0_copyFrom (110, [l0, l1], [vR (i + 6)], S) := q_getR dX0_copyFrom_107 rfl ⟨⟨by decide, by decide⟩, by decide⟩ (fun h => (fref0 h).trans (by first | rfl | omega)) h
theorem eX0_copyFrom_110 {a : Option Nat} {l1 : Option VV} {v0 : VV} {S : MM} : rn xX0_copyFrom (110, [some (.inr (.inl a)), l1], [v0], S) = rn xX0_copyFrom (111, [some (.inr (.inl a)), l1], [.inr (.inl a), v0], S) := rn_step dX0_copyFrom_110 rfl rfl
theorem eX0_copyFrom_111 {i : Nat} {l0 l1 : Option VV} {v1 : VV} (h : kd i = 0) {S : MM} : rn xX0_copyFrom (111, [l0, l1], [vR i, v1], S) = rn xX0_copyFrom (114, [l0, l1], [vR (i + 6), v1], S) := q_getR dX0_copyFrom_111 rfl ⟨⟨by decide, by decide⟩, by decide⟩ (fun h => (fref0 h).trans (by first | rfl | omega)) h
theorem eX0_copyFrom_114 {l0 l1 : Option VV} {v0 v1 : VV} {S : MM} : rn xX0_copyFrom (114, [l0, l1], [v0, v1], S) = rn xX0_copyFrom (115, [l0, l1], [vI 3, v0, v1], S) := rn_step dX0_copyFrom_114 rfl rfl
theorem eX0_copyFrom_115 {a0 : Option Nat} {a1 : Option Nat} {a2 : Int} {l0 l1 : Option VV} {S : MM} : rn xX0_copyFrom (115, [l0, l1], [vI a2, .inr (.inl a1), .inr (.inl a0)], S) = (fX8_copyRow [.inr (.inl a0), .inr (.inl a1), vI a2] S).bind (fun q => rn xX0_copyFrom (118, [l0, l1], q.1.toList ++ [], q.2)) := q_callS (n := 3) (as := [.inr (.inl a0), .inr (.inl a1), vI a2]) (rest := []) dX0_copyFrom_115 rfl rfl rfl rfl
theorem eX0_copyFrom_118 {a : Option Nat} {l0 : Option VV} {S : MM} : rn xX0_copyFrom (118, [l0, some (.inr (.inl a))], [], S) = rn xX0_copyFrom (119, [l0, some (.inr (.inl a))], [.inr (.inl a)], S) := rn_step dX0_copyFrom_118 rfl rfl
theorem eX0_copyFrom_119 {i : Nat} {l0 l1 : Option VV} (h : kd i = 0) {S : MM} : rn xX0_copyFrom (119, [l0, l1], [vR i], S) = rn xX0_copyFrom (122, [l0, l1], [vR (i + 7)], S) := q_getR dX0_copyFrom_119 rfl ⟨⟨by decide, by decide⟩, by decide⟩ (fun h => (fref0 h).trans (by first | rfl | omega)) h
theorem eX0_copyFrom_122 {a : Option Nat} {l1 : Option VV} {v0 : VV} {S : MM} : rn xX0_copyFrom (122, [some (.inr (.inl a)), l1], [v0], S) = rn xX0_copyFrom (123, [some (.inr (.inl a)), l1], [.inr (.inl a), v0], S) := rn_step dX0_copyFrom_122 rfl rfl
theorem eX0_copyFrom_123 {i : Nat} {l0 l1 : Option VV} {v1 : VV} (h : kd i = 0) {S : MM} : rn xX0_copyFrom (123, [l0, l1], [vR i, v1], S) = rn xX0_copyFrom (126, [l0, l1], [vR (i + 7), v1], S) := q_getR dX0_copyFrom_123 rfl ⟨⟨by decide, by decide⟩, by decide⟩ (fun h => (fref0 h).trans (by first | rfl | omega)) h
theorem eX0_copyFrom_126 {l0 l1 : Option VV} {v0 v1 : VV} {S : MM} : rn xX0_copyFrom (126, [l0, l1], [v0, v1], S) = rn xX0_copyFrom (127, [l0, l1], [vI 3, v0, v1], S) := rn_step dX0_copyFrom_126 rfl rfl
theorem eX0_copyFrom_127 {a0 : Option Nat} {a1 : Option Nat} {a2 : Int} {l0 l1 : Option VV} {S : MM} : rn xX0_copyFrom (127, [l0, l1], [vI a2, .inr (.inl a1), .inr (.inl a0)], S) = (fX8_copyRow [.inr (.inl a0), .inr (.inl a1), vI a2] S).bind (fun q => rn xX0_copyFrom (130, [l0, l1], q.1.toList ++ [], q.2)) := q_callS (n := 3) (as := [.inr (.inl a0), .inr (.inl a1), vI a2]) (rest := []) dX0_copyFrom_127 rfl rfl rfl rfl
theorem eX0_copyFrom_130 {l0 l1 : Option VV} {S : MM} : rn xX0_copyFrom (130, [l0, l1], [], S) = some (none, S) := q_retV dX0_copyFrom_130 rfl
noncomputable def qlX4_kept : List CE := []
noncomputable def xX4_kept : XX := (cX4_kept, fcF fcl4, mcF qlX4_kept, 1)
noncomputable def fX4_kept : FN := fnX xX4_kept 1
set_option maxRecDepth 100000 in
theorem cwX4_kept : Cond.code yX4_kept cX4_kept 1 (some .int) ∈ lw_g := lw_gm 530 (by decide +kernel) (by decide +kernel)
set_option maxRecDepth 100000 in
theorem conX4_kept : Con yX4_kept cX4_kept 1 (some .int) { frames := 0, cells := 0, slots := 0, locals := 0 } fX4_kept := con_of (X := xX4_kept) (own := "LeapStones$Ring") (ql := qlX4_kept) (by decide) rfl FOK4 rfl (fun _ h => absurd h List.not_mem_nil) (Or.inr (Or.inl ⟨rfl, rfl⟩))
theorem uX4_kept {i : Nat} {S : MM} : fX4_kept [vR i] S = rn xX4_kept (0, [some (vR i)], [], S) := rfl
theorem dX4_kept_0 : decode cX4_kept 0 = .ok (.aload_n 0, 1) := by decide +kernel
theorem dX4_kept_1 : decode cX4_kept 1 = .ok (.getfield 13, 3) := by decide +kernel
theorem dX4_kept_4 : decode cX4_kept 4 = .ok (.ireturn, 1) := by decide +kernel
theorem eX4_kept_0 {a : Option Nat} {S : MM} : rn xX4_kept (0, [some (.inr (.inl a))], [], S) = rn xX4_kept (1, [some (.inr (.inl a))], [.inr (.inl a)], S) := rn_step dX4_kept_0 rfl rfl
theorem eX4_kept_1 {i : Nat} {l0 : Option VV} (h : kd i = 4) {S : MM} : rn xX4_kept (1, [l0], [vR i], S) = rn xX4_kept (4, [l0], [vI (S i 2)], S) := q_getI dX4_kept_1 rfl ⟨⟨by decide, by decide⟩, by decide⟩ h
theorem eX4_kept_4 {z : Int} {l0 : Option VV} {S : MM} : rn xX4_kept (4, [l0], [vI z], S) = some (some (vI z), S) := q_retI dX4_kept_4 rfl
noncomputable def qlX1_kept : List CE := [(0, 27, 4, 1, fX4_kept)]
noncomputable def xX1_kept : XX := (cX1_kept, fcF fcl1, mcF qlX1_kept, 1)
noncomputable def fX1_kept : FN := fnX xX1_kept 1
set_option maxRecDepth 100000 in
theorem cwX1_kept : Cond.code yX1_kept cX1_kept 1 (some .int) ∈ lw_g := lw_gm 526 (by decide +kernel) (by decide +kernel)
set_option maxRecDepth 100000 in
theorem conX1_kept : Con yX1_kept cX1_kept 1 (some .int) { frames := 1, cells := 0, slots := 0, locals := 20 } fX1_kept := con_of (X := xX1_kept) (own := "LeapStones$Floods") (ql := qlX1_kept) (by decide) rfl FOK1 rfl (List.forall_mem_cons.mpr ⟨call_V conX4_kept cwX4_kept (lw_gl _ [527, 528, 529, 27] (by decide +kernel) (by decide +kernel)) (by decide) rfl ⟨by decide, by decide, by decide +kernel⟩ ⟨rfl, rfl⟩ ⟨by decide, by decide⟩ ⟨Nat.le_refl _, Nat.le_refl _⟩, fun _ h => absurd h List.not_mem_nil⟩) (Or.inr (Or.inl ⟨rfl, rfl⟩))
theorem uX1_kept {i : Nat} {S : MM} : fX1_kept [vR i] S = rn xX1_kept (0, [some (vR i)], [], S) := rfl
theorem dX1_kept_0 : decode cX1_kept 0 = .ok (.aload_n 0, 1) := by decide +kernel
theorem dX1_kept_1 : decode cX1_kept 1 = .ok (.getfield 22, 3) := by decide +kernel
theorem dX1_kept_4 : decode cX1_kept 4 = .ok (.invokevirtual 27, 3) := by decide +kernel
theorem dX1_kept_7 : decode cX1_kept 7 = .ok (.ireturn, 1) := by decide +kernel
theorem eX1_kept_0 {a : Option Nat} {S : MM} : rn xX1_kept (0, [some (.inr (.inl a))], [], S) = rn xX1_kept (1, [some (.inr (.inl a))], [.inr (.inl a)], S) := rn_step dX1_kept_0 rfl rfl
theorem eX1_kept_1 {i : Nat} {l0 : Option VV} (h : kd i = 1) {S : MM} : rn xX1_kept (1, [l0], [vR i], S) = rn xX1_kept (4, [l0], [vR (i + 2)], S) := q_getR dX1_kept_1 rfl ⟨⟨by decide, by decide⟩, by decide⟩ (fun h => (fref1 h).trans (by first | rfl | omega)) h
theorem eX1_kept_4 {i : Nat} {l0 : Option VV} (h : kd i = 4) {S : MM} : rn xX1_kept (4, [l0], [vR i], S) = (fX4_kept [vR i] S).bind (fun q => rn xX1_kept (7, [l0], q.1.toList ++ [], q.2)) := q_callV (n := 0) (as := []) (rest := []) dX1_kept_4 rfl rfl rfl rfl h
theorem eX1_kept_7 {z : Int} {l0 : Option VV} {S : MM} : rn xX1_kept (7, [l0], [vI z], S) = some (some (vI z), S) := q_retI dX1_kept_7 rfl
noncomputable def qlX1_at : List CE := [(1, 31, 0, 3, fX8_isBetween)]
noncomputable def xX1_at : XX := (cX1_at, fcF fcl1, mcF qlX1_at, 4)
noncomputable def fX1_at : FN := fnX xX1_at 2
set_option maxRecDepth 100000 in
theorem cwX1_at : Cond.code yX1_at cX1_at 2 (some (.object "LeapStones$River")) ∈ lw_g := lw_gm 302 (by decide +kernel) (by decide +kernel)
set_option maxRecDepth 100000 in
theorem conX1_at : Con yX1_at cX1_at 2 (some (.object "LeapStones$River")) { frames := 1, cells := 0, slots := 0, locals := 22 } fX1_at := con_of (X := xX1_at) (own := "LeapStones$Floods") (ql := qlX1_at) (by decide) rfl FOK1 rfl (List.forall_mem_cons.mpr ⟨call_N conX8_isBetween cwX8_isBetween (lw_gl _ [251, 21] (by decide +kernel) (by decide +kernel)) (List.mem_of_getElem? (i := 15) (by decide +kernel)) ⟨by decide, by decide, by decide +kernel⟩ ⟨rfl, rfl⟩ ⟨by decide, by decide⟩ ⟨Nat.le_refl _, Nat.le_refl _⟩, fun _ h => absurd h List.not_mem_nil⟩) (Or.inr (Or.inr (Or.inr (Or.inr (Or.inl ⟨rfl, _, rfl⟩)))))
theorem uX1_at {i : Nat} {a0 : Int} {S : MM} : fX1_at [vR i, vI a0] S = rn xX1_at (0, [some (vR i), some (vI a0)], [], S) := rfl
theorem dX1_at_0 : decode cX1_at 0 = .ok (.iload_n 1, 1) := by decide +kernel
theorem dX1_at_1 : decode cX1_at 1 = .ok (.iconst 0, 1) := by decide +kernel
theorem dX1_at_2 : decode cX1_at 2 = .ok (.aload_n 0, 1) := by decide +kernel
theorem dX1_at_3 : decode cX1_at 3 = .ok (.getfield 11, 3) := by decide +kernel
theorem dX1_at_6 : decode cX1_at 6 = .ok (.arraylength, 1) := by decide +kernel
theorem dX1_at_7 : decode cX1_at 7 = .ok (.iconst 1, 1) := by decide +kernel
theorem dX1_at_8 : decode cX1_at 8 = .ok (.isub, 1) := by decide +kernel
theorem dX1_at_9 : decode cX1_at 9 = .ok (.invokestatic 31, 3) := by decide +kernel
theorem dX1_at_12 : decode cX1_at 12 = .ok (.ifCond .eq 12, 3) := by decide +kernel
theorem dX1_at_15 : decode cX1_at 15 = .ok (.aload_n 0, 1) := by decide +kernel
theorem dX1_at_16 : decode cX1_at 16 = .ok (.getfield 11, 3) := by decide +kernel
theorem dX1_at_19 : decode cX1_at 19 = .ok (.iload_n 1, 1) := by decide +kernel
theorem dX1_at_20 : decode cX1_at 20 = .ok (.aaload, 1) := by decide +kernel
theorem dX1_at_21 : decode cX1_at 21 = .ok (.goto 4, 3) := by decide +kernel
theorem dX1_at_24 : decode cX1_at 24 = .ok (.aconst_null, 1) := by decide +kernel
theorem dX1_at_25 : decode cX1_at 25 = .ok (.areturn, 1) := by decide +kernel
theorem eX1_at_0 {a : Int} {l0 : Option VV} {S : MM} : rn xX1_at (0, [l0, some (vI a)], [], S) = rn xX1_at (1, [l0, some (vI a)], [vI a], S) := rn_step dX1_at_0 rfl rfl
theorem eX1_at_1 {l0 l1 : Option VV} {v0 : VV} {S : MM} : rn xX1_at (1, [l0, l1], [v0], S) = rn xX1_at (2, [l0, l1], [vI 0, v0], S) := rn_step dX1_at_1 rfl rfl
theorem eX1_at_2 {a : Option Nat} {l1 : Option VV} {v0 v1 : VV} {S : MM} : rn xX1_at (2, [some (.inr (.inl a)), l1], [v0, v1], S) = rn xX1_at (3, [some (.inr (.inl a)), l1], [.inr (.inl a), v0, v1], S) := rn_step dX1_at_2 rfl rfl
theorem eX1_at_3 {i : Nat} {l0 l1 : Option VV} {v1 v2 : VV} (h : kd i = 1) {S : MM} : rn xX1_at (3, [l0, l1], [vR i, v1, v2], S) = rn xX1_at (6, [l0, l1], [vR (i + 1), v1, v2], S) := q_getR dX1_at_3 rfl ⟨⟨by decide, by decide⟩, by decide⟩ (fun h => (fref1 h).trans (by first | rfl | omega)) h
theorem eX1_at_6 {i : Nat} {l0 l1 : Option VV} {v1 v2 : VV} (h : 10 ≤ kd i ∧ kd i ≤ 14) {S : MM} : rn xX1_at (6, [l0, l1], [vR i, v1, v2], S) = rn xX1_at (7, [l0, l1], [vI (alen i), v1, v2], S) := q_alen dX1_at_6 h
theorem eX1_at_6x {l0 l1 : Option VV} {v1 v2 : VV} {S : MM} : rn xX1_at (6, [l0, l1], [vR 602, v1, v2], S) = rn xX1_at (7, [l0, l1], [vI (S 604 0), v1, v2], S) := q_alenX dX1_at_6
theorem eX1_at_6y {l0 l1 : Option VV} {v1 v2 : VV} {S : MM} : rn xX1_at (6, [l0, l1], [vR 603, v1, v2], S) = rn xX1_at (7, [l0, l1], [vI (S 604 1), v1, v2], S) := q_alenY dX1_at_6
theorem eX1_at_7 {l0 l1 : Option VV} {v0 v1 v2 : VV} {S : MM} : rn xX1_at (7, [l0, l1], [v0, v1, v2], S) = rn xX1_at (8, [l0, l1], [vI 1, v0, v1, v2], S) := rn_step dX1_at_7 rfl rfl
theorem eX1_at_8 {a b : Int} {l0 l1 : Option VV} {v2 v3 : VV} {S : MM} : rn xX1_at (8, [l0, l1], [vI b, vI a, v2, v3], S) = rn xX1_at (9, [l0, l1], [vI (a - b), v2, v3], S) := rn_step dX1_at_8 rfl rfl
theorem eX1_at_9 {a0 : Int} {a1 : Int} {a2 : Int} {l0 l1 : Option VV} {S : MM} : rn xX1_at (9, [l0, l1], [vI a2, vI a1, vI a0], S) = (fX8_isBetween [vI a0, vI a1, vI a2] S).bind (fun q => rn xX1_at (12, [l0, l1], q.1.toList ++ [], q.2)) := q_callS (n := 3) (as := [vI a0, vI a1, vI a2]) (rest := []) dX1_at_9 rfl rfl rfl rfl
theorem eX1_at_12 {a : Int} {l0 l1 : Option VV} (h : -2147483648 ≤ a ∧ a ≤ 2147483647) {S : MM} : rn xX1_at (12, [l0, l1], [vI a], S) = if a = 0 then rn xX1_at (24, [l0, l1], [], S) else rn xX1_at (15, [l0, l1], [], S) := q_if_eq dX1_at_12 (by decide) rfl h
theorem eX1_at_15 {a : Option Nat} {l1 : Option VV} {S : MM} : rn xX1_at (15, [some (.inr (.inl a)), l1], [], S) = rn xX1_at (16, [some (.inr (.inl a)), l1], [.inr (.inl a)], S) := rn_step dX1_at_15 rfl rfl
theorem eX1_at_16 {i : Nat} {l0 l1 : Option VV} (h : kd i = 1) {S : MM} : rn xX1_at (16, [l0, l1], [vR i], S) = rn xX1_at (19, [l0, l1], [vR (i + 1)], S) := q_getR dX1_at_16 rfl ⟨⟨by decide, by decide⟩, by decide⟩ (fun h => (fref1 h).trans (by first | rfl | omega)) h
theorem eX1_at_19 {a : Int} {l0 : Option VV} {v0 : VV} {S : MM} : rn xX1_at (19, [l0, some (vI a)], [v0], S) = rn xX1_at (20, [l0, some (vI a)], [vI a, v0], S) := rn_step dX1_at_19 rfl rfl
theorem eX1_at_20 {i : Nat} {j : Int} {l0 l1 : Option VV} (h : kd i = 13 ∨ kd i = 14) (h0 : 0 ≤ j) (h1 : j < alen i) {S : MM} : rn xX1_at (20, [l0, l1], [vI j, vR i], S) = rn xX1_at (21, [l0, l1], [vR (fref i j.toNat)], S) := q_aald dX1_at_20 h h0 h1
theorem eX1_at_21 {l0 l1 : Option VV} {v0 : VV} {S : MM} : rn xX1_at (21, [l0, l1], [v0], S) = rn xX1_at (25, [l0, l1], [v0], S) := rn_step dX1_at_21 rfl rfl
theorem eX1_at_24 {l0 l1 : Option VV} {S : MM} : rn xX1_at (24, [l0, l1], [], S) = rn xX1_at (25, [l0, l1], [vN], S) := rn_step dX1_at_24 rfl rfl
theorem eX1_at_25 {r : Option Nat} {l0 l1 : Option VV} {S : MM} : rn xX1_at (25, [l0, l1], [.inr (.inl r)], S) = some (some (.inr (.inl r)), S) := q_retA dX1_at_25 rfl
noncomputable def qlX4_add : List CE := [(1, 19, 0, 2, f_min)]
noncomputable def xX4_add : XX := (cX4_add, fcF fcl4, mcF qlX4_add, 1)
noncomputable def fX4_add : FN := fnX xX4_add 2
set_option maxRecDepth 100000 in
theorem cwX4_add : Cond.code yX4_add cX4_add 2 (some .int) ∈ lw_g := lw_gm 263 (by decide +kernel) (by decide +kernel)
set_option maxRecDepth 100000 in
theorem conX4_add : Con yX4_add cX4_add 2 (some .int) { frames := 1, cells := 0, slots := 0, locals := 21 } fX4_add := con_of (X := xX4_add) (own := "LeapStones$Ring") (ql := qlX4_add) (by decide) rfl FOK4 rfl (List.forall_mem_cons.mpr ⟨call_min (lw_gl _ [264, 265, 30, 266] (by decide +kernel) (by decide +kernel)) ⟨by decide, by decide⟩ ⟨Nat.le_refl _, Nat.le_refl _⟩, fun _ h => absurd h List.not_mem_nil⟩) (Or.inr (Or.inl ⟨rfl, rfl⟩))
theorem uX4_add {i : Nat} {S : MM} : fX4_add [vR i] S = rn xX4_add (0, [some (vR i), none], [], S) := rfl
theorem dX4_add_0 : decode cX4_add 0 = .ok (.aload_n 0, 1) := by decide +kernel
theorem dX4_add_1 : decode cX4_add 1 = .ok (.getfield 16, 3) := by decide +kernel
theorem dX4_add_4 : decode cX4_add 4 = .ok (.istore_n 1, 1) := by decide +kernel
theorem dX4_add_5 : decode cX4_add 5 = .ok (.aload_n 0, 1) := by decide +kernel
theorem dX4_add_6 : decode cX4_add 6 = .ok (.aload_n 0, 1) := by decide +kernel
theorem dX4_add_7 : decode cX4_add 7 = .ok (.getfield 16, 3) := by decide +kernel
theorem dX4_add_10 : decode cX4_add 10 = .ok (.iconst 1, 1) := by decide +kernel
theorem dX4_add_11 : decode cX4_add 11 = .ok (.iadd, 1) := by decide +kernel
theorem dX4_add_12 : decode cX4_add 12 = .ok (.aload_n 0, 1) := by decide +kernel
theorem dX4_add_13 : decode cX4_add 13 = .ok (.getfield 7, 3) := by decide +kernel
theorem dX4_add_16 : decode cX4_add 16 = .ok (.if_icmp .ge 12, 3) := by decide +kernel
theorem dX4_add_19 : decode cX4_add 19 = .ok (.aload_n 0, 1) := by decide +kernel
theorem dX4_add_20 : decode cX4_add 20 = .ok (.getfield 16, 3) := by decide +kernel
theorem dX4_add_23 : decode cX4_add 23 = .ok (.iconst 1, 1) := by decide +kernel
theorem dX4_add_24 : decode cX4_add 24 = .ok (.iadd, 1) := by decide +kernel
theorem dX4_add_25 : decode cX4_add 25 = .ok (.goto 4, 3) := by decide +kernel
theorem dX4_add_28 : decode cX4_add 28 = .ok (.iconst 0, 1) := by decide +kernel
theorem dX4_add_29 : decode cX4_add 29 = .ok (.putfield 16, 3) := by decide +kernel
theorem dX4_add_32 : decode cX4_add 32 = .ok (.aload_n 0, 1) := by decide +kernel
theorem dX4_add_33 : decode cX4_add 33 = .ok (.aload_n 0, 1) := by decide +kernel
theorem dX4_add_34 : decode cX4_add 34 = .ok (.getfield 13, 3) := by decide +kernel
theorem dX4_add_37 : decode cX4_add 37 = .ok (.iconst 1, 1) := by decide +kernel
theorem dX4_add_38 : decode cX4_add 38 = .ok (.iadd, 1) := by decide +kernel
theorem dX4_add_39 : decode cX4_add 39 = .ok (.aload_n 0, 1) := by decide +kernel
theorem dX4_add_40 : decode cX4_add 40 = .ok (.getfield 7, 3) := by decide +kernel
theorem dX4_add_43 : decode cX4_add 43 = .ok (.invokestatic 19, 3) := by decide +kernel
theorem dX4_add_46 : decode cX4_add 46 = .ok (.putfield 13, 3) := by decide +kernel
theorem dX4_add_49 : decode cX4_add 49 = .ok (.iload_n 1, 1) := by decide +kernel
theorem dX4_add_50 : decode cX4_add 50 = .ok (.ireturn, 1) := by decide +kernel
theorem eX4_add_0 {a : Option Nat} {l1 : Option VV} {S : MM} : rn xX4_add (0, [some (.inr (.inl a)), l1], [], S) = rn xX4_add (1, [some (.inr (.inl a)), l1], [.inr (.inl a)], S) := rn_step dX4_add_0 rfl rfl
theorem eX4_add_1 {i : Nat} {l0 l1 : Option VV} (h : kd i = 4) {S : MM} : rn xX4_add (1, [l0, l1], [vR i], S) = rn xX4_add (4, [l0, l1], [vI (S i 1)], S) := q_getI dX4_add_1 rfl ⟨⟨by decide, by decide⟩, by decide⟩ h
theorem eX4_add_4 {a : Int} {w : Option Nat} {l1 : Option VV} {S : MM} : rn xX4_add (4, [some (.inr (.inl w)), l1], [vI a], S) = rn xX4_add (5, [some (.inr (.inl w)), some (vI a)], [], S) := rn_step dX4_add_4 rfl rfl
theorem eX4_add_5 {a : Option Nat} {l1 : Option VV} {S : MM} : rn xX4_add (5, [some (.inr (.inl a)), l1], [], S) = rn xX4_add (6, [some (.inr (.inl a)), l1], [.inr (.inl a)], S) := rn_step dX4_add_5 rfl rfl
theorem eX4_add_6 {a : Option Nat} {l1 : Option VV} {v0 : VV} {S : MM} : rn xX4_add (6, [some (.inr (.inl a)), l1], [v0], S) = rn xX4_add (7, [some (.inr (.inl a)), l1], [.inr (.inl a), v0], S) := rn_step dX4_add_6 rfl rfl
theorem eX4_add_7 {i : Nat} {l0 l1 : Option VV} {v1 : VV} (h : kd i = 4) {S : MM} : rn xX4_add (7, [l0, l1], [vR i, v1], S) = rn xX4_add (10, [l0, l1], [vI (S i 1), v1], S) := q_getI dX4_add_7 rfl ⟨⟨by decide, by decide⟩, by decide⟩ h
theorem eX4_add_10 {l0 l1 : Option VV} {v0 v1 : VV} {S : MM} : rn xX4_add (10, [l0, l1], [v0, v1], S) = rn xX4_add (11, [l0, l1], [vI 1, v0, v1], S) := rn_step dX4_add_10 rfl rfl
theorem eX4_add_11 {a b : Int} {l0 l1 : Option VV} {v2 : VV} {S : MM} : rn xX4_add (11, [l0, l1], [vI b, vI a, v2], S) = rn xX4_add (12, [l0, l1], [vI (a + b), v2], S) := rn_step dX4_add_11 rfl rfl
theorem eX4_add_12 {a : Option Nat} {l1 : Option VV} {v0 v1 : VV} {S : MM} : rn xX4_add (12, [some (.inr (.inl a)), l1], [v0, v1], S) = rn xX4_add (13, [some (.inr (.inl a)), l1], [.inr (.inl a), v0, v1], S) := rn_step dX4_add_12 rfl rfl
theorem eX4_add_13 {i : Nat} {l0 l1 : Option VV} {v1 v2 : VV} (h : kd i = 4) {S : MM} : rn xX4_add (13, [l0, l1], [vR i, v1, v2], S) = rn xX4_add (16, [l0, l1], [vI (S i 0), v1, v2], S) := q_getI dX4_add_13 rfl ⟨⟨by decide, by decide⟩, by decide⟩ h
theorem eX4_add_16 {a b : Int} {l0 l1 : Option VV} {v2 : VV} (h : -2147483648 ≤ a ∧ a ≤ 2147483647) (h1 : -2147483648 ≤ b ∧ b ≤ 2147483647) {S : MM} : rn xX4_add (16, [l0, l1], [vI b, vI a, v2], S) = if a < b then rn xX4_add (19, [l0, l1], [v2], S) else rn xX4_add (28, [l0, l1], [v2], S) := q_icmp_ge dX4_add_16 (by decide) rfl h h1
theorem eX4_add_19 {a : Option Nat} {l1 : Option VV} {v0 : VV} {S : MM} : rn xX4_add (19, [some (.inr (.inl a)), l1], [v0], S) = rn xX4_add (20, [some (.inr (.inl a)), l1], [.inr (.inl a), v0], S) := rn_step dX4_add_19 rfl rfl
theorem eX4_add_20 {i : Nat} {l0 l1 : Option VV} {v1 : VV} (h : kd i = 4) {S : MM} : rn xX4_add (20, [l0, l1], [vR i, v1], S) = rn xX4_add (23, [l0, l1], [vI (S i 1), v1], S) := q_getI dX4_add_20 rfl ⟨⟨by decide, by decide⟩, by decide⟩ h
theorem eX4_add_23 {l0 l1 : Option VV} {v0 v1 : VV} {S : MM} : rn xX4_add (23, [l0, l1], [v0, v1], S) = rn xX4_add (24, [l0, l1], [vI 1, v0, v1], S) := rn_step dX4_add_23 rfl rfl
theorem eX4_add_24 {a b : Int} {l0 l1 : Option VV} {v2 : VV} {S : MM} : rn xX4_add (24, [l0, l1], [vI b, vI a, v2], S) = rn xX4_add (25, [l0, l1], [vI (a + b), v2], S) := rn_step dX4_add_24 rfl rfl
theorem eX4_add_25 {l0 l1 : Option VV} {v0 v1 : VV} {S : MM} : rn xX4_add (25, [l0, l1], [v0, v1], S) = rn xX4_add (29, [l0, l1], [v0, v1], S) := rn_step dX4_add_25 rfl rfl
theorem eX4_add_28 {l0 l1 : Option VV} {v0 : VV} {S : MM} : rn xX4_add (28, [l0, l1], [v0], S) = rn xX4_add (29, [l0, l1], [vI 0, v0], S) := rn_step dX4_add_28 rfl rfl
theorem eX4_add_29 {z : Int} {i : Nat} {l0 l1 : Option VV} (h : kd i = 4) {S : MM} : rn xX4_add (29, [l0, l1], [vI z, vR i], S) = rn xX4_add (32, [l0, l1], [], updM S i 1 z) := q_put dX4_add_29 rfl ⟨by decide, by decide⟩ rfl h
theorem eX4_add_32 {a : Option Nat} {l1 : Option VV} {S : MM} : rn xX4_add (32, [some (.inr (.inl a)), l1], [], S) = rn xX4_add (33, [some (.inr (.inl a)), l1], [.inr (.inl a)], S) := rn_step dX4_add_32 rfl rfl
theorem eX4_add_33 {a : Option Nat} {l1 : Option VV} {v0 : VV} {S : MM} : rn xX4_add (33, [some (.inr (.inl a)), l1], [v0], S) = rn xX4_add (34, [some (.inr (.inl a)), l1], [.inr (.inl a), v0], S) := rn_step dX4_add_33 rfl rfl
theorem eX4_add_34 {i : Nat} {l0 l1 : Option VV} {v1 : VV} (h : kd i = 4) {S : MM} : rn xX4_add (34, [l0, l1], [vR i, v1], S) = rn xX4_add (37, [l0, l1], [vI (S i 2), v1], S) := q_getI dX4_add_34 rfl ⟨⟨by decide, by decide⟩, by decide⟩ h
theorem eX4_add_37 {l0 l1 : Option VV} {v0 v1 : VV} {S : MM} : rn xX4_add (37, [l0, l1], [v0, v1], S) = rn xX4_add (38, [l0, l1], [vI 1, v0, v1], S) := rn_step dX4_add_37 rfl rfl
theorem eX4_add_38 {a b : Int} {l0 l1 : Option VV} {v2 : VV} {S : MM} : rn xX4_add (38, [l0, l1], [vI b, vI a, v2], S) = rn xX4_add (39, [l0, l1], [vI (a + b), v2], S) := rn_step dX4_add_38 rfl rfl
theorem eX4_add_39 {a : Option Nat} {l1 : Option VV} {v0 v1 : VV} {S : MM} : rn xX4_add (39, [some (.inr (.inl a)), l1], [v0, v1], S) = rn xX4_add (40, [some (.inr (.inl a)), l1], [.inr (.inl a), v0, v1], S) := rn_step dX4_add_39 rfl rfl
theorem eX4_add_40 {i : Nat} {l0 l1 : Option VV} {v1 v2 : VV} (h : kd i = 4) {S : MM} : rn xX4_add (40, [l0, l1], [vR i, v1, v2], S) = rn xX4_add (43, [l0, l1], [vI (S i 0), v1, v2], S) := q_getI dX4_add_40 rfl ⟨⟨by decide, by decide⟩, by decide⟩ h
theorem eX4_add_43 {a0 : Int} {a1 : Int} {l0 l1 : Option VV} {v2 : VV} {S : MM} : rn xX4_add (43, [l0, l1], [vI a1, vI a0, v2], S) = (f_min [vI a0, vI a1] S).bind (fun q => rn xX4_add (46, [l0, l1], q.1.toList ++ [v2], q.2)) := q_callS (n := 2) (as := [vI a0, vI a1]) (rest := [v2]) dX4_add_43 rfl rfl rfl rfl
theorem eX4_add_46 {z : Int} {i : Nat} {l0 l1 : Option VV} (h : kd i = 4) {S : MM} : rn xX4_add (46, [l0, l1], [vI z, vR i], S) = rn xX4_add (49, [l0, l1], [], updM S i 2 z) := q_put dX4_add_46 rfl ⟨by decide, by decide⟩ rfl h
theorem eX4_add_49 {a : Int} {l0 : Option VV} {S : MM} : rn xX4_add (49, [l0, some (vI a)], [], S) = rn xX4_add (50, [l0, some (vI a)], [vI a], S) := rn_step dX4_add_49 rfl rfl
theorem eX4_add_50 {z : Int} {l0 l1 : Option VV} {S : MM} : rn xX4_add (50, [l0, l1], [vI z], S) = some (some (vI z), S) := q_retI dX4_add_50 rfl
noncomputable def qlX3_clear : List CE := []
noncomputable def xX3_clear : XX := (cX3_clear, fcF fcl3, mcF qlX3_clear, 0)
noncomputable def fX3_clear : FN := fnX xX3_clear 1
set_option maxRecDepth 100000 in
theorem cwX3_clear : Cond.code yX3_clear cX3_clear 1 none ∈ lw_g := lw_gm 452 (by decide +kernel) (by decide +kernel)
set_option maxRecDepth 100000 in
theorem conX3_clear : Con yX3_clear cX3_clear 1 none { frames := 0, cells := 0, slots := 0, locals := 0 } fX3_clear := con_of (X := xX3_clear) (own := "LeapStones$Path") (ql := qlX3_clear) (by decide) rfl FOK3 rfl (fun _ h => absurd h List.not_mem_nil) (Or.inl ⟨rfl, rfl⟩)
theorem uX3_clear {i : Nat} {S : MM} : fX3_clear [vR i] S = rn xX3_clear (0, [some (vR i)], [], S) := rfl
theorem dX3_clear_0 : decode cX3_clear 0 = .ok (.aload_n 0, 1) := by decide +kernel
theorem dX3_clear_1 : decode cX3_clear 1 = .ok (.iconst 0, 1) := by decide +kernel
theorem dX3_clear_2 : decode cX3_clear 2 = .ok (.putfield 18, 3) := by decide +kernel
theorem dX3_clear_5 : decode cX3_clear 5 = .ok (.return_, 1) := by decide +kernel
theorem eX3_clear_0 {a : Option Nat} {S : MM} : rn xX3_clear (0, [some (.inr (.inl a))], [], S) = rn xX3_clear (1, [some (.inr (.inl a))], [.inr (.inl a)], S) := rn_step dX3_clear_0 rfl rfl
theorem eX3_clear_1 {l0 : Option VV} {v0 : VV} {S : MM} : rn xX3_clear (1, [l0], [v0], S) = rn xX3_clear (2, [l0], [vI 0, v0], S) := rn_step dX3_clear_1 rfl rfl
theorem eX3_clear_2 {z : Int} {i : Nat} {l0 : Option VV} (h : kd i = 3) {S : MM} : rn xX3_clear (2, [l0], [vI z, vR i], S) = rn xX3_clear (5, [l0], [], updM S i 2 z) := q_put dX3_clear_2 rfl ⟨by decide, by decide⟩ rfl h
theorem eX3_clear_5 {l0 : Option VV} {S : MM} : rn xX3_clear (5, [l0], [], S) = some (none, S) := q_retV dX3_clear_5 rfl
noncomputable def qlX5_clear : List CE := [(0, 51, 3, 1, fX3_clear)]
noncomputable def xX5_clear : XX := (cX5_clear, fcF fcl5, mcF qlX5_clear, 0)
noncomputable def fX5_clear : FN := fnX xX5_clear 1
set_option maxRecDepth 100000 in
theorem cwX5_clear : Cond.code yX5_clear cX5_clear 1 none ∈ lw_g := lw_gm 448 (by decide +kernel) (by decide +kernel)
set_option maxRecDepth 100000 in
theorem conX5_clear : Con yX5_clear cX5_clear 1 none { frames := 1, cells := 0, slots := 0, locals := 20 } fX5_clear := con_of (X := xX5_clear) (own := "LeapStones$River") (ql := qlX5_clear) (by decide) rfl FOK5 rfl (List.forall_mem_cons.mpr ⟨call_V conX3_clear cwX3_clear (lw_gl _ [449, 450, 451, 25] (by decide +kernel) (by decide +kernel)) (by decide) rfl ⟨by decide, by decide, by decide +kernel⟩ ⟨rfl, rfl⟩ ⟨by decide, by decide⟩ ⟨Nat.le_refl _, Nat.le_refl _⟩, fun _ h => absurd h List.not_mem_nil⟩) (Or.inl ⟨rfl, rfl⟩)
theorem uX5_clear {i : Nat} {S : MM} : fX5_clear [vR i] S = rn xX5_clear (0, [some (vR i)], [], S) := rfl
theorem dX5_clear_0 : decode cX5_clear 0 = .ok (.aload_n 0, 1) := by decide +kernel
theorem dX5_clear_1 : decode cX5_clear 1 = .ok (.getfield 12, 3) := by decide +kernel
theorem dX5_clear_4 : decode cX5_clear 4 = .ok (.invokevirtual 51, 3) := by decide +kernel
theorem dX5_clear_7 : decode cX5_clear 7 = .ok (.aload_n 0, 1) := by decide +kernel
theorem dX5_clear_8 : decode cX5_clear 8 = .ok (.getfield 18, 3) := by decide +kernel
theorem dX5_clear_11 : decode cX5_clear 11 = .ok (.invokevirtual 51, 3) := by decide +kernel
theorem dX5_clear_14 : decode cX5_clear 14 = .ok (.aload_n 0, 1) := by decide +kernel
theorem dX5_clear_15 : decode cX5_clear 15 = .ok (.getfield 21, 3) := by decide +kernel
theorem dX5_clear_18 : decode cX5_clear 18 = .ok (.invokevirtual 51, 3) := by decide +kernel
theorem dX5_clear_21 : decode cX5_clear 21 = .ok (.return_, 1) := by decide +kernel
theorem eX5_clear_0 {a : Option Nat} {S : MM} : rn xX5_clear (0, [some (.inr (.inl a))], [], S) = rn xX5_clear (1, [some (.inr (.inl a))], [.inr (.inl a)], S) := rn_step dX5_clear_0 rfl rfl
theorem eX5_clear_1 {i : Nat} {l0 : Option VV} (h : kd i = 5) {S : MM} : rn xX5_clear (1, [l0], [vR i], S) = rn xX5_clear (4, [l0], [vR (i + 1)], S) := q_getR dX5_clear_1 rfl ⟨⟨by decide, by decide⟩, by decide⟩ (fun h => (fref5 h).trans (by first | rfl | omega)) h
theorem eX5_clear_4 {i : Nat} {l0 : Option VV} (h : kd i = 3) {S : MM} : rn xX5_clear (4, [l0], [vR i], S) = (fX3_clear [vR i] S).bind (fun q => rn xX5_clear (7, [l0], q.1.toList ++ [], q.2)) := q_callV (n := 0) (as := []) (rest := []) dX5_clear_4 rfl rfl rfl rfl h
theorem eX5_clear_7 {a : Option Nat} {S : MM} : rn xX5_clear (7, [some (.inr (.inl a))], [], S) = rn xX5_clear (8, [some (.inr (.inl a))], [.inr (.inl a)], S) := rn_step dX5_clear_7 rfl rfl
theorem eX5_clear_8 {i : Nat} {l0 : Option VV} (h : kd i = 5) {S : MM} : rn xX5_clear (8, [l0], [vR i], S) = rn xX5_clear (11, [l0], [vR (i + 4)], S) := q_getR dX5_clear_8 rfl ⟨⟨by decide, by decide⟩, by decide⟩ (fun h => (fref5 h).trans (by first | rfl | omega)) h
theorem eX5_clear_11 {i : Nat} {l0 : Option VV} (h : kd i = 3) {S : MM} : rn xX5_clear (11, [l0], [vR i], S) = (fX3_clear [vR i] S).bind (fun q => rn xX5_clear (14, [l0], q.1.toList ++ [], q.2)) := q_callV (n := 0) (as := []) (rest := []) dX5_clear_11 rfl rfl rfl rfl h
theorem eX5_clear_14 {a : Option Nat} {S : MM} : rn xX5_clear (14, [some (.inr (.inl a))], [], S) = rn xX5_clear (15, [some (.inr (.inl a))], [.inr (.inl a)], S) := rn_step dX5_clear_14 rfl rfl
theorem eX5_clear_15 {i : Nat} {l0 : Option VV} (h : kd i = 5) {S : MM} : rn xX5_clear (15, [l0], [vR i], S) = rn xX5_clear (18, [l0], [vR (i + 7)], S) := q_getR dX5_clear_15 rfl ⟨⟨by decide, by decide⟩, by decide⟩ (fun h => (fref5 h).trans (by first | rfl | omega)) h
theorem eX5_clear_18 {i : Nat} {l0 : Option VV} (h : kd i = 3) {S : MM} : rn xX5_clear (18, [l0], [vR i], S) = (fX3_clear [vR i] S).bind (fun q => rn xX5_clear (21, [l0], q.1.toList ++ [], q.2)) := q_callV (n := 0) (as := []) (rest := []) dX5_clear_18 rfl rfl rfl rfl h
theorem eX5_clear_21 {l0 : Option VV} {S : MM} : rn xX5_clear (21, [l0], [], S) = some (none, S) := q_retV dX5_clear_21 rfl
noncomputable def qlX1_addEmpty : List CE := [(0, 35, 4, 1, fX4_add), (0, 38, 1, 2, fX1_at), (0, 42, 5, 1, fX5_clear)]
noncomputable def xX1_addEmpty : XX := (cX1_addEmpty, fcF fcl1, mcF qlX1_addEmpty, 4)
noncomputable def fX1_addEmpty : FN := fnX xX1_addEmpty 2
set_option maxRecDepth 100000 in
theorem cwX1_addEmpty : Cond.code yX1_addEmpty cX1_addEmpty 2 (some (.object "LeapStones$River")) ∈ lw_g := lw_gm 443 (by decide +kernel) (by decide +kernel)
set_option maxRecDepth 100000 in
theorem conX1_addEmpty : Con yX1_addEmpty cX1_addEmpty 2 (some (.object "LeapStones$River")) { frames := 2, cells := 0, slots := 0, locals := 43 } fX1_addEmpty := con_of (X := xX1_addEmpty) (own := "LeapStones$Floods") (ql := qlX1_addEmpty) (by decide) rfl FOK1 rfl (List.forall_mem_cons.mpr ⟨call_V conX4_add cwX4_add (lw_gl _ [444, 261, 262, 27] (by decide +kernel) (by decide +kernel)) (by decide) rfl ⟨by decide, by decide, by decide +kernel⟩ ⟨rfl, rfl⟩ ⟨by decide, by decide⟩ ⟨Nat.le_refl _, Nat.le_refl _⟩, List.forall_mem_cons.mpr ⟨call_V conX1_at cwX1_at (lw_gl _ [299, 301, 1, 26] (by decide +kernel) (by decide +kernel)) (by decide) rfl ⟨by decide, by decide, by decide +kernel⟩ ⟨rfl, rfl⟩ ⟨by decide, by decide⟩ ⟨Nat.le_refl _, Nat.le_refl _⟩, List.forall_mem_cons.mpr ⟨call_V conX5_clear cwX5_clear (lw_gl _ [445, 446, 447, 24] (by decide +kernel) (by decide +kernel)) (by decide) rfl ⟨by decide, by decide, by decide +kernel⟩ ⟨rfl, rfl⟩ ⟨by decide, by decide⟩ ⟨Nat.le_refl _, Nat.le_refl _⟩, fun _ h => absurd h List.not_mem_nil⟩⟩⟩) (Or.inr (Or.inr (Or.inr (Or.inr (Or.inl ⟨rfl, _, rfl⟩)))))
theorem uX1_addEmpty {i : Nat} {S : MM} : fX1_addEmpty [vR i] S = rn xX1_addEmpty (0, [some (vR i), none], [], S) := rfl
theorem dX1_addEmpty_0 : decode cX1_addEmpty 0 = .ok (.aload_n 0, 1) := by decide +kernel
theorem dX1_addEmpty_1 : decode cX1_addEmpty 1 = .ok (.aload_n 0, 1) := by decide +kernel
theorem dX1_addEmpty_2 : decode cX1_addEmpty 2 = .ok (.getfield 22, 3) := by decide +kernel
theorem dX1_addEmpty_5 : decode cX1_addEmpty 5 = .ok (.invokevirtual 35, 3) := by decide +kernel
theorem dX1_addEmpty_8 : decode cX1_addEmpty 8 = .ok (.invokevirtual 38, 3) := by decide +kernel
theorem dX1_addEmpty_11 : decode cX1_addEmpty 11 = .ok (.astore_n 1, 1) := by decide +kernel
theorem dX1_addEmpty_12 : decode cX1_addEmpty 12 = .ok (.aload_n 1, 1) := by decide +kernel
theorem dX1_addEmpty_13 : decode cX1_addEmpty 13 = .ok (.ifnull 7, 3) := by decide +kernel
theorem dX1_addEmpty_16 : decode cX1_addEmpty 16 = .ok (.aload_n 1, 1) := by decide +kernel
theorem dX1_addEmpty_17 : decode cX1_addEmpty 17 = .ok (.invokevirtual 42, 3) := by decide +kernel
theorem dX1_addEmpty_20 : decode cX1_addEmpty 20 = .ok (.aload_n 1, 1) := by decide +kernel
theorem dX1_addEmpty_21 : decode cX1_addEmpty 21 = .ok (.areturn, 1) := by decide +kernel
theorem eX1_addEmpty_0 {a : Option Nat} {l1 : Option VV} {S : MM} : rn xX1_addEmpty (0, [some (.inr (.inl a)), l1], [], S) = rn xX1_addEmpty (1, [some (.inr (.inl a)), l1], [.inr (.inl a)], S) := rn_step dX1_addEmpty_0 rfl rfl
theorem eX1_addEmpty_1 {a : Option Nat} {l1 : Option VV} {v0 : VV} {S : MM} : rn xX1_addEmpty (1, [some (.inr (.inl a)), l1], [v0], S) = rn xX1_addEmpty (2, [some (.inr (.inl a)), l1], [.inr (.inl a), v0], S) := rn_step dX1_addEmpty_1 rfl rfl
theorem eX1_addEmpty_2 {i : Nat} {l0 l1 : Option VV} {v1 : VV} (h : kd i = 1) {S : MM} : rn xX1_addEmpty (2, [l0, l1], [vR i, v1], S) = rn xX1_addEmpty (5, [l0, l1], [vR (i + 2), v1], S) := q_getR dX1_addEmpty_2 rfl ⟨⟨by decide, by decide⟩, by decide⟩ (fun h => (fref1 h).trans (by first | rfl | omega)) h
theorem eX1_addEmpty_5 {i : Nat} {l0 l1 : Option VV} {v1 : VV} (h : kd i = 4) {S : MM} : rn xX1_addEmpty (5, [l0, l1], [vR i, v1], S) = (fX4_add [vR i] S).bind (fun q => rn xX1_addEmpty (8, [l0, l1], q.1.toList ++ [v1], q.2)) := q_callV (n := 0) (as := []) (rest := [v1]) dX1_addEmpty_5 rfl rfl rfl rfl h
theorem eX1_addEmpty_8 {a0 : Int} {i : Nat} {l0 l1 : Option VV} (h : kd i = 1) {S : MM} : rn xX1_addEmpty (8, [l0, l1], [vI a0, vR i], S) = (fX1_at [vR i, vI a0] S).bind (fun q => rn xX1_addEmpty (11, [l0, l1], q.1.toList ++ [], q.2)) := q_callV (n := 1) (as := [vI a0]) (rest := []) dX1_addEmpty_8 rfl rfl rfl rfl h
theorem eX1_addEmpty_11 {a : Option Nat} {w : Option Nat} {l1 : Option VV} {S : MM} : rn xX1_addEmpty (11, [some (.inr (.inl w)), l1], [.inr (.inl a)], S) = rn xX1_addEmpty (12, [some (.inr (.inl w)), some (.inr (.inl a))], [], S) := rn_step dX1_addEmpty_11 rfl rfl
theorem eX1_addEmpty_12 {a : Option Nat} {l0 : Option VV} {S : MM} : rn xX1_addEmpty (12, [l0, some (.inr (.inl a))], [], S) = rn xX1_addEmpty (13, [l0, some (.inr (.inl a))], [.inr (.inl a)], S) := rn_step dX1_addEmpty_12 rfl rfl
theorem eX1_addEmpty_13n {l0 l1 : Option VV} {S : MM} : rn xX1_addEmpty (13, [l0, l1], [vN], S) = rn xX1_addEmpty (20, [l0, l1], [], S) := rn_step dX1_addEmpty_13 rfl rfl
theorem eX1_addEmpty_13r {i : Nat} {l0 l1 : Option VV} {S : MM} : rn xX1_addEmpty (13, [l0, l1], [vR i], S) = rn xX1_addEmpty (16, [l0, l1], [], S) := rn_step dX1_addEmpty_13 rfl rfl
theorem eX1_addEmpty_16 {a : Option Nat} {l0 : Option VV} {S : MM} : rn xX1_addEmpty (16, [l0, some (.inr (.inl a))], [], S) = rn xX1_addEmpty (17, [l0, some (.inr (.inl a))], [.inr (.inl a)], S) := rn_step dX1_addEmpty_16 rfl rfl
theorem eX1_addEmpty_17 {i : Nat} {l0 l1 : Option VV} (h : kd i = 5) {S : MM} : rn xX1_addEmpty (17, [l0, l1], [vR i], S) = (fX5_clear [vR i] S).bind (fun q => rn xX1_addEmpty (20, [l0, l1], q.1.toList ++ [], q.2)) := q_callV (n := 0) (as := []) (rest := []) dX1_addEmpty_17 rfl rfl rfl rfl h
theorem eX1_addEmpty_20 {a : Option Nat} {l0 : Option VV} {S : MM} : rn xX1_addEmpty (20, [l0, some (.inr (.inl a))], [], S) = rn xX1_addEmpty (21, [l0, some (.inr (.inl a))], [.inr (.inl a)], S) := rn_step dX1_addEmpty_20 rfl rfl
theorem eX1_addEmpty_21 {r : Option Nat} {l0 l1 : Option VV} {S : MM} : rn xX1_addEmpty (21, [l0, l1], [.inr (.inl r)], S) = some (some (.inr (.inl r)), S) := q_retA dX1_addEmpty_21 rfl
noncomputable def qlX4_latest : List CE := []
noncomputable def xX4_latest : XX := (cX4_latest, fcF fcl4, mcF qlX4_latest, 1)
noncomputable def fX4_latest : FN := fnX xX4_latest 1
set_option maxRecDepth 100000 in
theorem cwX4_latest : Cond.code yX4_latest cX4_latest 1 (some .int) ∈ lw_g := lw_gm 552 (by decide +kernel) (by decide +kernel)
set_option maxRecDepth 100000 in
theorem conX4_latest : Con yX4_latest cX4_latest 1 (some .int) { frames := 0, cells := 0, slots := 0, locals := 0 } fX4_latest := con_of (X := xX4_latest) (own := "LeapStones$Ring") (ql := qlX4_latest) (by decide) rfl FOK4 rfl (fun _ h => absurd h List.not_mem_nil) (Or.inr (Or.inl ⟨rfl, rfl⟩))
theorem uX4_latest {i : Nat} {S : MM} : fX4_latest [vR i] S = rn xX4_latest (0, [some (vR i)], [], S) := rfl
theorem dX4_latest_0 : decode cX4_latest 0 = .ok (.aload_n 0, 1) := by decide +kernel
theorem dX4_latest_1 : decode cX4_latest 1 = .ok (.getfield 16, 3) := by decide +kernel
theorem dX4_latest_4 : decode cX4_latest 4 = .ok (.ifCond .le 12, 3) := by decide +kernel
theorem dX4_latest_7 : decode cX4_latest 7 = .ok (.aload_n 0, 1) := by decide +kernel
theorem dX4_latest_8 : decode cX4_latest 8 = .ok (.getfield 16, 3) := by decide +kernel
theorem dX4_latest_11 : decode cX4_latest 11 = .ok (.iconst 1, 1) := by decide +kernel
theorem dX4_latest_12 : decode cX4_latest 12 = .ok (.isub, 1) := by decide +kernel
theorem dX4_latest_13 : decode cX4_latest 13 = .ok (.goto 9, 3) := by decide +kernel
theorem dX4_latest_16 : decode cX4_latest 16 = .ok (.aload_n 0, 1) := by decide +kernel
theorem dX4_latest_17 : decode cX4_latest 17 = .ok (.getfield 7, 3) := by decide +kernel
theorem dX4_latest_20 : decode cX4_latest 20 = .ok (.iconst 1, 1) := by decide +kernel
theorem dX4_latest_21 : decode cX4_latest 21 = .ok (.isub, 1) := by decide +kernel
theorem dX4_latest_22 : decode cX4_latest 22 = .ok (.ireturn, 1) := by decide +kernel
theorem eX4_latest_0 {a : Option Nat} {S : MM} : rn xX4_latest (0, [some (.inr (.inl a))], [], S) = rn xX4_latest (1, [some (.inr (.inl a))], [.inr (.inl a)], S) := rn_step dX4_latest_0 rfl rfl
theorem eX4_latest_1 {i : Nat} {l0 : Option VV} (h : kd i = 4) {S : MM} : rn xX4_latest (1, [l0], [vR i], S) = rn xX4_latest (4, [l0], [vI (S i 1)], S) := q_getI dX4_latest_1 rfl ⟨⟨by decide, by decide⟩, by decide⟩ h
theorem eX4_latest_4 {a : Int} {l0 : Option VV} (h : -2147483648 ≤ a ∧ a ≤ 2147483647) {S : MM} : rn xX4_latest (4, [l0], [vI a], S) = if 0 < a then rn xX4_latest (7, [l0], [], S) else rn xX4_latest (16, [l0], [], S) := q_if_le dX4_latest_4 (by decide) rfl h
theorem eX4_latest_7 {a : Option Nat} {S : MM} : rn xX4_latest (7, [some (.inr (.inl a))], [], S) = rn xX4_latest (8, [some (.inr (.inl a))], [.inr (.inl a)], S) := rn_step dX4_latest_7 rfl rfl
theorem eX4_latest_8 {i : Nat} {l0 : Option VV} (h : kd i = 4) {S : MM} : rn xX4_latest (8, [l0], [vR i], S) = rn xX4_latest (11, [l0], [vI (S i 1)], S) := q_getI dX4_latest_8 rfl ⟨⟨by decide, by decide⟩, by decide⟩ h
theorem eX4_latest_11 {l0 : Option VV} {v0 : VV} {S : MM} : rn xX4_latest (11, [l0], [v0], S) = rn xX4_latest (12, [l0], [vI 1, v0], S) := rn_step dX4_latest_11 rfl rfl
theorem eX4_latest_12 {a b : Int} {l0 : Option VV} {S : MM} : rn xX4_latest (12, [l0], [vI b, vI a], S) = rn xX4_latest (13, [l0], [vI (a - b)], S) := rn_step dX4_latest_12 rfl rfl
theorem eX4_latest_13 {l0 : Option VV} {v0 : VV} {S : MM} : rn xX4_latest (13, [l0], [v0], S) = rn xX4_latest (22, [l0], [v0], S) := rn_step dX4_latest_13 rfl rfl
theorem eX4_latest_16 {a : Option Nat} {S : MM} : rn xX4_latest (16, [some (.inr (.inl a))], [], S) = rn xX4_latest (17, [some (.inr (.inl a))], [.inr (.inl a)], S) := rn_step dX4_latest_16 rfl rfl
theorem eX4_latest_17 {i : Nat} {l0 : Option VV} (h : kd i = 4) {S : MM} : rn xX4_latest (17, [l0], [vR i], S) = rn xX4_latest (20, [l0], [vI (S i 0)], S) := q_getI dX4_latest_17 rfl ⟨⟨by decide, by decide⟩, by decide⟩ h
theorem eX4_latest_20 {l0 : Option VV} {v0 : VV} {S : MM} : rn xX4_latest (20, [l0], [v0], S) = rn xX4_latest (21, [l0], [vI 1, v0], S) := rn_step dX4_latest_20 rfl rfl
theorem eX4_latest_21 {a b : Int} {l0 : Option VV} {S : MM} : rn xX4_latest (21, [l0], [vI b, vI a], S) = rn xX4_latest (22, [l0], [vI (a - b)], S) := rn_step dX4_latest_21 rfl rfl
theorem eX4_latest_22 {z : Int} {l0 : Option VV} {S : MM} : rn xX4_latest (22, [l0], [vI z], S) = some (some (vI z), S) := q_retI dX4_latest_22 rfl
noncomputable def qlX1_latest : List CE := [(0, 27, 4, 1, fX4_kept), (0, 45, 4, 1, fX4_latest), (0, 38, 1, 2, fX1_at)]
noncomputable def xX1_latest : XX := (cX1_latest, fcF fcl1, mcF qlX1_latest, 4)
noncomputable def fX1_latest : FN := fnX xX1_latest 1
set_option maxRecDepth 100000 in
theorem cwX1_latest : Cond.code yX1_latest cX1_latest 1 (some (.object "LeapStones$River")) ∈ lw_g := lw_gm 548 (by decide +kernel) (by decide +kernel)
set_option maxRecDepth 100000 in
theorem conX1_latest : Con yX1_latest cX1_latest 1 (some (.object "LeapStones$River")) { frames := 2, cells := 0, slots := 0, locals := 43 } fX1_latest := con_of (X := xX1_latest) (own := "LeapStones$Floods") (ql := qlX1_latest) (by decide) rfl FOK1 rfl (List.forall_mem_cons.mpr ⟨call_V conX4_kept cwX4_kept (lw_gl _ [527, 528, 529, 27] (by decide +kernel) (by decide +kernel)) (by decide) rfl ⟨by decide, by decide, by decide +kernel⟩ ⟨rfl, rfl⟩ ⟨by decide, by decide⟩ ⟨Nat.le_refl _, Nat.le_refl _⟩, List.forall_mem_cons.mpr ⟨call_V conX4_latest cwX4_latest (lw_gl _ [549, 550, 551, 27] (by decide +kernel) (by decide +kernel)) (by decide) rfl ⟨by decide, by decide, by decide +kernel⟩ ⟨rfl, rfl⟩ ⟨by decide, by decide⟩ ⟨Nat.le_refl _, Nat.le_refl _⟩, List.forall_mem_cons.mpr ⟨call_V conX1_at cwX1_at (lw_gl _ [299, 301, 1, 26] (by decide +kernel) (by decide +kernel)) (by decide) rfl ⟨by decide, by decide, by decide +kernel⟩ ⟨rfl, rfl⟩ ⟨by decide, by decide⟩ ⟨Nat.le_refl _, Nat.le_refl _⟩, fun _ h => absurd h List.not_mem_nil⟩⟩⟩) (Or.inr (Or.inr (Or.inr (Or.inr (Or.inl ⟨rfl, _, rfl⟩)))))
theorem uX1_latest {i : Nat} {S : MM} : fX1_latest [vR i] S = rn xX1_latest (0, [some (vR i)], [], S) := rfl
theorem dX1_latest_0 : decode cX1_latest 0 = .ok (.aload_n 0, 1) := by decide +kernel
theorem dX1_latest_1 : decode cX1_latest 1 = .ok (.getfield 22, 3) := by decide +kernel
theorem dX1_latest_4 : decode cX1_latest 4 = .ok (.invokevirtual 27, 3) := by decide +kernel
theorem dX1_latest_7 : decode cX1_latest 7 = .ok (.ifCond .le 17, 3) := by decide +kernel
theorem dX1_latest_10 : decode cX1_latest 10 = .ok (.aload_n 0, 1) := by decide +kernel
theorem dX1_latest_11 : decode cX1_latest 11 = .ok (.aload_n 0, 1) := by decide +kernel
theorem dX1_latest_12 : decode cX1_latest 12 = .ok (.getfield 22, 3) := by decide +kernel
theorem dX1_latest_15 : decode cX1_latest 15 = .ok (.invokevirtual 45, 3) := by decide +kernel
theorem dX1_latest_18 : decode cX1_latest 18 = .ok (.invokevirtual 38, 3) := by decide +kernel
theorem dX1_latest_21 : decode cX1_latest 21 = .ok (.goto 4, 3) := by decide +kernel
theorem dX1_latest_24 : decode cX1_latest 24 = .ok (.aconst_null, 1) := by decide +kernel
theorem dX1_latest_25 : decode cX1_latest 25 = .ok (.areturn, 1) := by decide +kernel
theorem eX1_latest_0 {a : Option Nat} {S : MM} : rn xX1_latest (0, [some (.inr (.inl a))], [], S) = rn xX1_latest (1, [some (.inr (.inl a))], [.inr (.inl a)], S) := rn_step dX1_latest_0 rfl rfl
theorem eX1_latest_1 {i : Nat} {l0 : Option VV} (h : kd i = 1) {S : MM} : rn xX1_latest (1, [l0], [vR i], S) = rn xX1_latest (4, [l0], [vR (i + 2)], S) := q_getR dX1_latest_1 rfl ⟨⟨by decide, by decide⟩, by decide⟩ (fun h => (fref1 h).trans (by first | rfl | omega)) h
theorem eX1_latest_4 {i : Nat} {l0 : Option VV} (h : kd i = 4) {S : MM} : rn xX1_latest (4, [l0], [vR i], S) = (fX4_kept [vR i] S).bind (fun q => rn xX1_latest (7, [l0], q.1.toList ++ [], q.2)) := q_callV (n := 0) (as := []) (rest := []) dX1_latest_4 rfl rfl rfl rfl h
theorem eX1_latest_7 {a : Int} {l0 : Option VV} (h : -2147483648 ≤ a ∧ a ≤ 2147483647) {S : MM} : rn xX1_latest (7, [l0], [vI a], S) = if 0 < a then rn xX1_latest (10, [l0], [], S) else rn xX1_latest (24, [l0], [], S) := q_if_le dX1_latest_7 (by decide) rfl h
theorem eX1_latest_10 {a : Option Nat} {S : MM} : rn xX1_latest (10, [some (.inr (.inl a))], [], S) = rn xX1_latest (11, [some (.inr (.inl a))], [.inr (.inl a)], S) := rn_step dX1_latest_10 rfl rfl
theorem eX1_latest_11 {a : Option Nat} {v0 : VV} {S : MM} : rn xX1_latest (11, [some (.inr (.inl a))], [v0], S) = rn xX1_latest (12, [some (.inr (.inl a))], [.inr (.inl a), v0], S) := rn_step dX1_latest_11 rfl rfl
theorem eX1_latest_12 {i : Nat} {l0 : Option VV} {v1 : VV} (h : kd i = 1) {S : MM} : rn xX1_latest (12, [l0], [vR i, v1], S) = rn xX1_latest (15, [l0], [vR (i + 2), v1], S) := q_getR dX1_latest_12 rfl ⟨⟨by decide, by decide⟩, by decide⟩ (fun h => (fref1 h).trans (by first | rfl | omega)) h
theorem eX1_latest_15 {i : Nat} {l0 : Option VV} {v1 : VV} (h : kd i = 4) {S : MM} : rn xX1_latest (15, [l0], [vR i, v1], S) = (fX4_latest [vR i] S).bind (fun q => rn xX1_latest (18, [l0], q.1.toList ++ [v1], q.2)) := q_callV (n := 0) (as := []) (rest := [v1]) dX1_latest_15 rfl rfl rfl rfl h
theorem eX1_latest_18 {a0 : Int} {i : Nat} {l0 : Option VV} (h : kd i = 1) {S : MM} : rn xX1_latest (18, [l0], [vI a0, vR i], S) = (fX1_at [vR i, vI a0] S).bind (fun q => rn xX1_latest (21, [l0], q.1.toList ++ [], q.2)) := q_callV (n := 1) (as := [vI a0]) (rest := []) dX1_latest_18 rfl rfl rfl rfl h
theorem eX1_latest_21 {l0 : Option VV} {v0 : VV} {S : MM} : rn xX1_latest (21, [l0], [v0], S) = rn xX1_latest (25, [l0], [v0], S) := rn_step dX1_latest_21 rfl rfl
theorem eX1_latest_24 {l0 : Option VV} {S : MM} : rn xX1_latest (24, [l0], [], S) = rn xX1_latest (25, [l0], [vN], S) := rn_step dX1_latest_24 rfl rfl
theorem eX1_latest_25 {r : Option Nat} {l0 : Option VV} {S : MM} : rn xX1_latest (25, [l0], [.inr (.inl r)], S) = some (some (.inr (.inl r)), S) := q_retA dX1_latest_25 rfl
noncomputable def qlX4_dropLatest : List CE := [(0, 25, 4, 1, fX4_latest)]
noncomputable def xX4_dropLatest : XX := (cX4_dropLatest, fcF fcl4, mcF qlX4_dropLatest, 0)
noncomputable def fX4_dropLatest : FN := fnX xX4_dropLatest 1
set_option maxRecDepth 100000 in
theorem cwX4_dropLatest : Cond.code yX4_dropLatest cX4_dropLatest 1 none ∈ lw_g := lw_gm 574 (by decide +kernel) (by decide +kernel)
set_option maxRecDepth 100000 in
theorem conX4_dropLatest : Con yX4_dropLatest cX4_dropLatest 1 none { frames := 1, cells := 0, slots := 0, locals := 20 } fX4_dropLatest := con_of (X := xX4_dropLatest) (own := "LeapStones$Ring") (ql := qlX4_dropLatest) (by decide) rfl FOK4 rfl (List.forall_mem_cons.mpr ⟨call_V conX4_latest cwX4_latest (lw_gl _ [575, 550, 551, 27] (by decide +kernel) (by decide +kernel)) (by decide) rfl ⟨by decide, by decide, by decide +kernel⟩ ⟨rfl, rfl⟩ ⟨by decide, by decide⟩ ⟨Nat.le_refl _, Nat.le_refl _⟩, fun _ h => absurd h List.not_mem_nil⟩) (Or.inl ⟨rfl, rfl⟩)
theorem uX4_dropLatest {i : Nat} {S : MM} : fX4_dropLatest [vR i] S = rn xX4_dropLatest (0, [some (vR i)], [], S) := rfl
theorem dX4_dropLatest_0 : decode cX4_dropLatest 0 = .ok (.aload_n 0, 1) := by decide +kernel
theorem dX4_dropLatest_1 : decode cX4_dropLatest 1 = .ok (.getfield 13, 3) := by decide +kernel
theorem dX4_dropLatest_4 : decode cX4_dropLatest 4 = .ok (.ifCond .le 21, 3) := by decide +kernel
theorem dX4_dropLatest_7 : decode cX4_dropLatest 7 = .ok (.aload_n 0, 1) := by decide +kernel
theorem dX4_dropLatest_8 : decode cX4_dropLatest 8 = .ok (.aload_n 0, 1) := by decide +kernel
theorem dX4_dropLatest_9 : decode cX4_dropLatest 9 = .ok (.invokevirtual 25, 3) := by decide +kernel
theorem dX4_dropLatest_12 : decode cX4_dropLatest 12 = .ok (.putfield 16, 3) := by decide +kernel
theorem dX4_dropLatest_15 : decode cX4_dropLatest 15 = .ok (.aload_n 0, 1) := by decide +kernel
theorem dX4_dropLatest_16 : decode cX4_dropLatest 16 = .ok (.dup, 1) := by decide +kernel
theorem dX4_dropLatest_17 : decode cX4_dropLatest 17 = .ok (.getfield 13, 3) := by decide +kernel
theorem dX4_dropLatest_20 : decode cX4_dropLatest 20 = .ok (.iconst 1, 1) := by decide +kernel
theorem dX4_dropLatest_21 : decode cX4_dropLatest 21 = .ok (.isub, 1) := by decide +kernel
theorem dX4_dropLatest_22 : decode cX4_dropLatest 22 = .ok (.putfield 13, 3) := by decide +kernel
theorem dX4_dropLatest_25 : decode cX4_dropLatest 25 = .ok (.return_, 1) := by decide +kernel
theorem eX4_dropLatest_0 {a : Option Nat} {S : MM} : rn xX4_dropLatest (0, [some (.inr (.inl a))], [], S) = rn xX4_dropLatest (1, [some (.inr (.inl a))], [.inr (.inl a)], S) := rn_step dX4_dropLatest_0 rfl rfl
theorem eX4_dropLatest_1 {i : Nat} {l0 : Option VV} (h : kd i = 4) {S : MM} : rn xX4_dropLatest (1, [l0], [vR i], S) = rn xX4_dropLatest (4, [l0], [vI (S i 2)], S) := q_getI dX4_dropLatest_1 rfl ⟨⟨by decide, by decide⟩, by decide⟩ h
theorem eX4_dropLatest_4 {a : Int} {l0 : Option VV} (h : -2147483648 ≤ a ∧ a ≤ 2147483647) {S : MM} : rn xX4_dropLatest (4, [l0], [vI a], S) = if 0 < a then rn xX4_dropLatest (7, [l0], [], S) else rn xX4_dropLatest (25, [l0], [], S) := q_if_le dX4_dropLatest_4 (by decide) rfl h
theorem eX4_dropLatest_7 {a : Option Nat} {S : MM} : rn xX4_dropLatest (7, [some (.inr (.inl a))], [], S) = rn xX4_dropLatest (8, [some (.inr (.inl a))], [.inr (.inl a)], S) := rn_step dX4_dropLatest_7 rfl rfl
theorem eX4_dropLatest_8 {a : Option Nat} {v0 : VV} {S : MM} : rn xX4_dropLatest (8, [some (.inr (.inl a))], [v0], S) = rn xX4_dropLatest (9, [some (.inr (.inl a))], [.inr (.inl a), v0], S) := rn_step dX4_dropLatest_8 rfl rfl
theorem eX4_dropLatest_9 {i : Nat} {l0 : Option VV} {v1 : VV} (h : kd i = 4) {S : MM} : rn xX4_dropLatest (9, [l0], [vR i, v1], S) = (fX4_latest [vR i] S).bind (fun q => rn xX4_dropLatest (12, [l0], q.1.toList ++ [v1], q.2)) := q_callV (n := 0) (as := []) (rest := [v1]) dX4_dropLatest_9 rfl rfl rfl rfl h
theorem eX4_dropLatest_12 {z : Int} {i : Nat} {l0 : Option VV} (h : kd i = 4) {S : MM} : rn xX4_dropLatest (12, [l0], [vI z, vR i], S) = rn xX4_dropLatest (15, [l0], [], updM S i 1 z) := q_put dX4_dropLatest_12 rfl ⟨by decide, by decide⟩ rfl h
theorem eX4_dropLatest_15 {a : Option Nat} {S : MM} : rn xX4_dropLatest (15, [some (.inr (.inl a))], [], S) = rn xX4_dropLatest (16, [some (.inr (.inl a))], [.inr (.inl a)], S) := rn_step dX4_dropLatest_15 rfl rfl
theorem eX4_dropLatest_16 {a : Option Nat} {l0 : Option VV} {S : MM} : rn xX4_dropLatest (16, [l0], [.inr (.inl a)], S) = rn xX4_dropLatest (17, [l0], [.inr (.inl a), .inr (.inl a)], S) := rn_step dX4_dropLatest_16 rfl rfl
theorem eX4_dropLatest_17 {i : Nat} {l0 : Option VV} {v1 : VV} (h : kd i = 4) {S : MM} : rn xX4_dropLatest (17, [l0], [vR i, v1], S) = rn xX4_dropLatest (20, [l0], [vI (S i 2), v1], S) := q_getI dX4_dropLatest_17 rfl ⟨⟨by decide, by decide⟩, by decide⟩ h
theorem eX4_dropLatest_20 {l0 : Option VV} {v0 v1 : VV} {S : MM} : rn xX4_dropLatest (20, [l0], [v0, v1], S) = rn xX4_dropLatest (21, [l0], [vI 1, v0, v1], S) := rn_step dX4_dropLatest_20 rfl rfl
theorem eX4_dropLatest_21 {a b : Int} {l0 : Option VV} {v2 : VV} {S : MM} : rn xX4_dropLatest (21, [l0], [vI b, vI a, v2], S) = rn xX4_dropLatest (22, [l0], [vI (a - b), v2], S) := rn_step dX4_dropLatest_21 rfl rfl
theorem eX4_dropLatest_22 {z : Int} {i : Nat} {l0 : Option VV} (h : kd i = 4) {S : MM} : rn xX4_dropLatest (22, [l0], [vI z, vR i], S) = rn xX4_dropLatest (25, [l0], [], updM S i 2 z) := q_put dX4_dropLatest_22 rfl ⟨by decide, by decide⟩ rfl h
theorem eX4_dropLatest_25 {l0 : Option VV} {S : MM} : rn xX4_dropLatest (25, [l0], [], S) = some (none, S) := q_retV dX4_dropLatest_25 rfl
noncomputable def qlX1_dropLatest : List CE := [(0, 48, 4, 1, fX4_dropLatest)]
noncomputable def xX1_dropLatest : XX := (cX1_dropLatest, fcF fcl1, mcF qlX1_dropLatest, 0)
noncomputable def fX1_dropLatest : FN := fnX xX1_dropLatest 1
set_option maxRecDepth 100000 in
theorem cwX1_dropLatest : Cond.code yX1_dropLatest cX1_dropLatest 1 none ∈ lw_g := lw_gm 570 (by decide +kernel) (by decide +kernel)
set_option maxRecDepth 100000 in
theorem conX1_dropLatest : Con yX1_dropLatest cX1_dropLatest 1 none { frames := 2, cells := 0, slots := 0, locals := 40 } fX1_dropLatest := con_of (X := xX1_dropLatest) (own := "LeapStones$Floods") (ql := qlX1_dropLatest) (by decide) rfl FOK1 rfl (List.forall_mem_cons.mpr ⟨call_V conX4_dropLatest cwX4_dropLatest (lw_gl _ [571, 572, 573, 27] (by decide +kernel) (by decide +kernel)) (by decide) rfl ⟨by decide, by decide, by decide +kernel⟩ ⟨rfl, rfl⟩ ⟨by decide, by decide⟩ ⟨Nat.le_refl _, Nat.le_refl _⟩, fun _ h => absurd h List.not_mem_nil⟩) (Or.inl ⟨rfl, rfl⟩)
theorem uX1_dropLatest {i : Nat} {S : MM} : fX1_dropLatest [vR i] S = rn xX1_dropLatest (0, [some (vR i)], [], S) := rfl
theorem dX1_dropLatest_0 : decode cX1_dropLatest 0 = .ok (.aload_n 0, 1) := by decide +kernel
theorem dX1_dropLatest_1 : decode cX1_dropLatest 1 = .ok (.getfield 22, 3) := by decide +kernel
theorem dX1_dropLatest_4 : decode cX1_dropLatest 4 = .ok (.invokevirtual 48, 3) := by decide +kernel
theorem dX1_dropLatest_7 : decode cX1_dropLatest 7 = .ok (.return_, 1) := by decide +kernel
theorem eX1_dropLatest_0 {a : Option Nat} {S : MM} : rn xX1_dropLatest (0, [some (.inr (.inl a))], [], S) = rn xX1_dropLatest (1, [some (.inr (.inl a))], [.inr (.inl a)], S) := rn_step dX1_dropLatest_0 rfl rfl
theorem eX1_dropLatest_1 {i : Nat} {l0 : Option VV} (h : kd i = 1) {S : MM} : rn xX1_dropLatest (1, [l0], [vR i], S) = rn xX1_dropLatest (4, [l0], [vR (i + 2)], S) := q_getR dX1_dropLatest_1 rfl ⟨⟨by decide, by decide⟩, by decide⟩ (fun h => (fref1 h).trans (by first | rfl | omega)) h
theorem eX1_dropLatest_4 {i : Nat} {l0 : Option VV} (h : kd i = 4) {S : MM} : rn xX1_dropLatest (4, [l0], [vR i], S) = (fX4_dropLatest [vR i] S).bind (fun q => rn xX1_dropLatest (7, [l0], q.1.toList ++ [], q.2)) := q_callV (n := 0) (as := []) (rest := []) dX1_dropLatest_4 rfl rfl rfl rfl h
theorem eX1_dropLatest_7 {l0 : Option VV} {S : MM} : rn xX1_dropLatest (7, [l0], [], S) = some (none, S) := q_retV dX1_dropLatest_7 rfl
noncomputable def qlX4_copyFrom : List CE := []
noncomputable def xX4_copyFrom : XX := (cX4_copyFrom, fcF fcl4, mcF qlX4_copyFrom, 0)
noncomputable def fX4_copyFrom : FN := fnX xX4_copyFrom 2
set_option maxRecDepth 100000 in
theorem cwX4_copyFrom : Cond.code yX4_copyFrom cX4_copyFrom 2 none ∈ lw_g := lw_gm 298 (by decide +kernel) (by decide +kernel)
set_option maxRecDepth 100000 in
theorem conX4_copyFrom : Con yX4_copyFrom cX4_copyFrom 2 none { frames := 0, cells := 0, slots := 0, locals := 0 } fX4_copyFrom := con_of (X := xX4_copyFrom) (own := "LeapStones$Ring") (ql := qlX4_copyFrom) (by decide) rfl FOK4 rfl (fun _ h => absurd h List.not_mem_nil) (Or.inl ⟨rfl, rfl⟩)
theorem uX4_copyFrom {i : Nat} {a0 : Option Nat} {S : MM} : fX4_copyFrom [vR i, .inr (.inl a0)] S = rn xX4_copyFrom (0, [some (vR i), some (.inr (.inl a0))], [], S) := rfl
theorem dX4_copyFrom_0 : decode cX4_copyFrom 0 = .ok (.aload_n 0, 1) := by decide +kernel
theorem dX4_copyFrom_1 : decode cX4_copyFrom 1 = .ok (.aload_n 1, 1) := by decide +kernel
theorem dX4_copyFrom_2 : decode cX4_copyFrom 2 = .ok (.getfield 16, 3) := by decide +kernel
theorem dX4_copyFrom_5 : decode cX4_copyFrom 5 = .ok (.putfield 16, 3) := by decide +kernel
theorem dX4_copyFrom_8 : decode cX4_copyFrom 8 = .ok (.aload_n 0, 1) := by decide +kernel
theorem dX4_copyFrom_9 : decode cX4_copyFrom 9 = .ok (.aload_n 1, 1) := by decide +kernel
theorem dX4_copyFrom_10 : decode cX4_copyFrom 10 = .ok (.getfield 13, 3) := by decide +kernel
theorem dX4_copyFrom_13 : decode cX4_copyFrom 13 = .ok (.putfield 13, 3) := by decide +kernel
theorem dX4_copyFrom_16 : decode cX4_copyFrom 16 = .ok (.return_, 1) := by decide +kernel
theorem eX4_copyFrom_0 {a : Option Nat} {l1 : Option VV} {S : MM} : rn xX4_copyFrom (0, [some (.inr (.inl a)), l1], [], S) = rn xX4_copyFrom (1, [some (.inr (.inl a)), l1], [.inr (.inl a)], S) := rn_step dX4_copyFrom_0 rfl rfl
theorem eX4_copyFrom_1 {a : Option Nat} {l0 : Option VV} {v0 : VV} {S : MM} : rn xX4_copyFrom (1, [l0, some (.inr (.inl a))], [v0], S) = rn xX4_copyFrom (2, [l0, some (.inr (.inl a))], [.inr (.inl a), v0], S) := rn_step dX4_copyFrom_1 rfl rfl
theorem eX4_copyFrom_2 {i : Nat} {l0 l1 : Option VV} {v1 : VV} (h : kd i = 4) {S : MM} : rn xX4_copyFrom (2, [l0, l1], [vR i, v1], S) = rn xX4_copyFrom (5, [l0, l1], [vI (S i 1), v1], S) := q_getI dX4_copyFrom_2 rfl ⟨⟨by decide, by decide⟩, by decide⟩ h
theorem eX4_copyFrom_5 {z : Int} {i : Nat} {l0 l1 : Option VV} (h : kd i = 4) {S : MM} : rn xX4_copyFrom (5, [l0, l1], [vI z, vR i], S) = rn xX4_copyFrom (8, [l0, l1], [], updM S i 1 z) := q_put dX4_copyFrom_5 rfl ⟨by decide, by decide⟩ rfl h
theorem eX4_copyFrom_8 {a : Option Nat} {l1 : Option VV} {S : MM} : rn xX4_copyFrom (8, [some (.inr (.inl a)), l1], [], S) = rn xX4_copyFrom (9, [some (.inr (.inl a)), l1], [.inr (.inl a)], S) := rn_step dX4_copyFrom_8 rfl rfl
theorem eX4_copyFrom_9 {a : Option Nat} {l0 : Option VV} {v0 : VV} {S : MM} : rn xX4_copyFrom (9, [l0, some (.inr (.inl a))], [v0], S) = rn xX4_copyFrom (10, [l0, some (.inr (.inl a))], [.inr (.inl a), v0], S) := rn_step dX4_copyFrom_9 rfl rfl
theorem eX4_copyFrom_10 {i : Nat} {l0 l1 : Option VV} {v1 : VV} (h : kd i = 4) {S : MM} : rn xX4_copyFrom (10, [l0, l1], [vR i, v1], S) = rn xX4_copyFrom (13, [l0, l1], [vI (S i 2), v1], S) := q_getI dX4_copyFrom_10 rfl ⟨⟨by decide, by decide⟩, by decide⟩ h
theorem eX4_copyFrom_13 {z : Int} {i : Nat} {l0 l1 : Option VV} (h : kd i = 4) {S : MM} : rn xX4_copyFrom (13, [l0, l1], [vI z, vR i], S) = rn xX4_copyFrom (16, [l0, l1], [], updM S i 2 z) := q_put dX4_copyFrom_13 rfl ⟨by decide, by decide⟩ rfl h
theorem eX4_copyFrom_16 {l0 l1 : Option VV} {S : MM} : rn xX4_copyFrom (16, [l0, l1], [], S) = some (none, S) := q_retV dX4_copyFrom_16 rfl
noncomputable def qlX3_copyFrom : List CE := [(1, 60, 0, 3, fX8_copyRow)]
noncomputable def xX3_copyFrom : XX := (cX3_copyFrom, fcF fcl3, mcF qlX3_copyFrom, 0)
noncomputable def fX3_copyFrom : FN := fnX xX3_copyFrom 2
set_option maxRecDepth 100000 in
theorem cwX3_copyFrom : Cond.code yX3_copyFrom cX3_copyFrom 2 none ∈ lw_g := lw_gm 289 (by decide +kernel) (by decide +kernel)
set_option maxRecDepth 100000 in
theorem conX3_copyFrom : Con yX3_copyFrom cX3_copyFrom 2 none { frames := 2, cells := 0, slots := 0, locals := 49 } fX3_copyFrom := con_of (X := xX3_copyFrom) (own := "LeapStones$Path") (ql := qlX3_copyFrom) (by decide) rfl FOK3 rfl (List.forall_mem_cons.mpr ⟨call_N conX8_copyRow cwX8_copyRow (lw_gl _ [276, 21] (by decide +kernel) (by decide +kernel)) (List.mem_of_getElem? (i := 14) (by decide +kernel)) ⟨by decide, by decide, by decide +kernel⟩ ⟨rfl, rfl⟩ ⟨by decide, by decide⟩ ⟨Nat.le_refl _, Nat.le_refl _⟩, fun _ h => absurd h List.not_mem_nil⟩) (Or.inl ⟨rfl, rfl⟩)
theorem uX3_copyFrom {i : Nat} {a0 : Option Nat} {S : MM} : fX3_copyFrom [vR i, .inr (.inl a0)] S = rn xX3_copyFrom (0, [some (vR i), some (.inr (.inl a0))], [], S) := rfl
theorem dX3_copyFrom_0 : decode cX3_copyFrom 0 = .ok (.aload_n 0, 1) := by decide +kernel
theorem dX3_copyFrom_1 : decode cX3_copyFrom 1 = .ok (.aload_n 1, 1) := by decide +kernel
theorem dX3_copyFrom_2 : decode cX3_copyFrom 2 = .ok (.getfield 18, 3) := by decide +kernel
theorem dX3_copyFrom_5 : decode cX3_copyFrom 5 = .ok (.putfield 18, 3) := by decide +kernel
theorem dX3_copyFrom_8 : decode cX3_copyFrom 8 = .ok (.aload_n 1, 1) := by decide +kernel
theorem dX3_copyFrom_9 : decode cX3_copyFrom 9 = .ok (.getfield 9, 3) := by decide +kernel
theorem dX3_copyFrom_12 : decode cX3_copyFrom 12 = .ok (.aload_n 0, 1) := by decide +kernel
theorem dX3_copyFrom_13 : decode cX3_copyFrom 13 = .ok (.getfield 9, 3) := by decide +kernel
theorem dX3_copyFrom_16 : decode cX3_copyFrom 16 = .ok (.aload_n 0, 1) := by decide +kernel
theorem dX3_copyFrom_17 : decode cX3_copyFrom 17 = .ok (.getfield 18, 3) := by decide +kernel
theorem dX3_copyFrom_20 : decode cX3_copyFrom 20 = .ok (.invokestatic 60, 3) := by decide +kernel
theorem dX3_copyFrom_23 : decode cX3_copyFrom 23 = .ok (.aload_n 1, 1) := by decide +kernel
theorem dX3_copyFrom_24 : decode cX3_copyFrom 24 = .ok (.getfield 15, 3) := by decide +kernel
theorem dX3_copyFrom_27 : decode cX3_copyFrom 27 = .ok (.aload_n 0, 1) := by decide +kernel
theorem dX3_copyFrom_28 : decode cX3_copyFrom 28 = .ok (.getfield 15, 3) := by decide +kernel
theorem dX3_copyFrom_31 : decode cX3_copyFrom 31 = .ok (.aload_n 0, 1) := by decide +kernel
theorem dX3_copyFrom_32 : decode cX3_copyFrom 32 = .ok (.getfield 18, 3) := by decide +kernel
theorem dX3_copyFrom_35 : decode cX3_copyFrom 35 = .ok (.invokestatic 60, 3) := by decide +kernel
theorem dX3_copyFrom_38 : decode cX3_copyFrom 38 = .ok (.return_, 1) := by decide +kernel
theorem eX3_copyFrom_0 {a : Option Nat} {l1 : Option VV} {S : MM} : rn xX3_copyFrom (0, [some (.inr (.inl a)), l1], [], S) = rn xX3_copyFrom (1, [some (.inr (.inl a)), l1], [.inr (.inl a)], S) := rn_step dX3_copyFrom_0 rfl rfl
theorem eX3_copyFrom_1 {a : Option Nat} {l0 : Option VV} {v0 : VV} {S : MM} : rn xX3_copyFrom (1, [l0, some (.inr (.inl a))], [v0], S) = rn xX3_copyFrom (2, [l0, some (.inr (.inl a))], [.inr (.inl a), v0], S) := rn_step dX3_copyFrom_1 rfl rfl
theorem eX3_copyFrom_2 {i : Nat} {l0 l1 : Option VV} {v1 : VV} (h : kd i = 3) {S : MM} : rn xX3_copyFrom (2, [l0, l1], [vR i, v1], S) = rn xX3_copyFrom (5, [l0, l1], [vI (S i 2), v1], S) := q_getI dX3_copyFrom_2 rfl ⟨⟨by decide, by decide⟩, by decide⟩ h
theorem eX3_copyFrom_5 {z : Int} {i : Nat} {l0 l1 : Option VV} (h : kd i = 3) {S : MM} : rn xX3_copyFrom (5, [l0, l1], [vI z, vR i], S) = rn xX3_copyFrom (8, [l0, l1], [], updM S i 2 z) := q_put dX3_copyFrom_5 rfl ⟨by decide, by decide⟩ rfl h
theorem eX3_copyFrom_8 {a : Option Nat} {l0 : Option VV} {S : MM} : rn xX3_copyFrom (8, [l0, some (.inr (.inl a))], [], S) = rn xX3_copyFrom (9, [l0, some (.inr (.inl a))], [.inr (.inl a)], S) := rn_step dX3_copyFrom_8 rfl rfl
theorem eX3_copyFrom_9 {i : Nat} {l0 l1 : Option VV} (h : kd i = 3) {S : MM} : rn xX3_copyFrom (9, [l0, l1], [vR i], S) = rn xX3_copyFrom (12, [l0, l1], [vR (i + 1)], S) := q_getR dX3_copyFrom_9 rfl ⟨⟨by decide, by decide⟩, by decide⟩ (fun h => (fref3 h).trans (by first | rfl | omega)) h
theorem eX3_copyFrom_12 {a : Option Nat} {l1 : Option VV} {v0 : VV} {S : MM} : rn xX3_copyFrom (12, [some (.inr (.inl a)), l1], [v0], S) = rn xX3_copyFrom (13, [some (.inr (.inl a)), l1], [.inr (.inl a), v0], S) := rn_step dX3_copyFrom_12 rfl rfl
theorem eX3_copyFrom_13 {i : Nat} {l0 l1 : Option VV} {v1 : VV} (h : kd i = 3) {S : MM} : rn xX3_copyFrom (13, [l0, l1], [vR i, v1], S) = rn xX3_copyFrom (16, [l0, l1], [vR (i + 1), v1], S) := q_getR dX3_copyFrom_13 rfl ⟨⟨by decide, by decide⟩, by decide⟩ (fun h => (fref3 h).trans (by first | rfl | omega)) h
theorem eX3_copyFrom_16 {a : Option Nat} {l1 : Option VV} {v0 v1 : VV} {S : MM} : rn xX3_copyFrom (16, [some (.inr (.inl a)), l1], [v0, v1], S) = rn xX3_copyFrom (17, [some (.inr (.inl a)), l1], [.inr (.inl a), v0, v1], S) := rn_step dX3_copyFrom_16 rfl rfl
theorem eX3_copyFrom_17 {i : Nat} {l0 l1 : Option VV} {v1 v2 : VV} (h : kd i = 3) {S : MM} : rn xX3_copyFrom (17, [l0, l1], [vR i, v1, v2], S) = rn xX3_copyFrom (20, [l0, l1], [vI (S i 2), v1, v2], S) := q_getI dX3_copyFrom_17 rfl ⟨⟨by decide, by decide⟩, by decide⟩ h
theorem eX3_copyFrom_20 {a0 : Option Nat} {a1 : Option Nat} {a2 : Int} {l0 l1 : Option VV} {S : MM} : rn xX3_copyFrom (20, [l0, l1], [vI a2, .inr (.inl a1), .inr (.inl a0)], S) = (fX8_copyRow [.inr (.inl a0), .inr (.inl a1), vI a2] S).bind (fun q => rn xX3_copyFrom (23, [l0, l1], q.1.toList ++ [], q.2)) := q_callS (n := 3) (as := [.inr (.inl a0), .inr (.inl a1), vI a2]) (rest := []) dX3_copyFrom_20 rfl rfl rfl rfl
theorem eX3_copyFrom_23 {a : Option Nat} {l0 : Option VV} {S : MM} : rn xX3_copyFrom (23, [l0, some (.inr (.inl a))], [], S) = rn xX3_copyFrom (24, [l0, some (.inr (.inl a))], [.inr (.inl a)], S) := rn_step dX3_copyFrom_23 rfl rfl
theorem eX3_copyFrom_24 {i : Nat} {l0 l1 : Option VV} (h : kd i = 3) {S : MM} : rn xX3_copyFrom (24, [l0, l1], [vR i], S) = rn xX3_copyFrom (27, [l0, l1], [vR (i + 2)], S) := q_getR dX3_copyFrom_24 rfl ⟨⟨by decide, by decide⟩, by decide⟩ (fun h => (fref3 h).trans (by first | rfl | omega)) h
theorem eX3_copyFrom_27 {a : Option Nat} {l1 : Option VV} {v0 : VV} {S : MM} : rn xX3_copyFrom (27, [some (.inr (.inl a)), l1], [v0], S) = rn xX3_copyFrom (28, [some (.inr (.inl a)), l1], [.inr (.inl a), v0], S) := rn_step dX3_copyFrom_27 rfl rfl
theorem eX3_copyFrom_28 {i : Nat} {l0 l1 : Option VV} {v1 : VV} (h : kd i = 3) {S : MM} : rn xX3_copyFrom (28, [l0, l1], [vR i, v1], S) = rn xX3_copyFrom (31, [l0, l1], [vR (i + 2), v1], S) := q_getR dX3_copyFrom_28 rfl ⟨⟨by decide, by decide⟩, by decide⟩ (fun h => (fref3 h).trans (by first | rfl | omega)) h
theorem eX3_copyFrom_31 {a : Option Nat} {l1 : Option VV} {v0 v1 : VV} {S : MM} : rn xX3_copyFrom (31, [some (.inr (.inl a)), l1], [v0, v1], S) = rn xX3_copyFrom (32, [some (.inr (.inl a)), l1], [.inr (.inl a), v0, v1], S) := rn_step dX3_copyFrom_31 rfl rfl
theorem eX3_copyFrom_32 {i : Nat} {l0 l1 : Option VV} {v1 v2 : VV} (h : kd i = 3) {S : MM} : rn xX3_copyFrom (32, [l0, l1], [vR i, v1, v2], S) = rn xX3_copyFrom (35, [l0, l1], [vI (S i 2), v1, v2], S) := q_getI dX3_copyFrom_32 rfl ⟨⟨by decide, by decide⟩, by decide⟩ h
theorem eX3_copyFrom_35 {a0 : Option Nat} {a1 : Option Nat} {a2 : Int} {l0 l1 : Option VV} {S : MM} : rn xX3_copyFrom (35, [l0, l1], [vI a2, .inr (.inl a1), .inr (.inl a0)], S) = (fX8_copyRow [.inr (.inl a0), .inr (.inl a1), vI a2] S).bind (fun q => rn xX3_copyFrom (38, [l0, l1], q.1.toList ++ [], q.2)) := q_callS (n := 3) (as := [.inr (.inl a0), .inr (.inl a1), vI a2]) (rest := []) dX3_copyFrom_35 rfl rfl rfl rfl
theorem eX3_copyFrom_38 {l0 l1 : Option VV} {S : MM} : rn xX3_copyFrom (38, [l0, l1], [], S) = some (none, S) := q_retV dX3_copyFrom_38 rfl
noncomputable def qlX5_copyFrom : List CE := [(0, 54, 3, 2, fX3_copyFrom)]
noncomputable def xX5_copyFrom : XX := (cX5_copyFrom, fcF fcl5, mcF qlX5_copyFrom, 0)
noncomputable def fX5_copyFrom : FN := fnX xX5_copyFrom 2
set_option maxRecDepth 100000 in
theorem cwX5_copyFrom : Cond.code yX5_copyFrom cX5_copyFrom 2 none ∈ lw_g := lw_gm 285 (by decide +kernel) (by decide +kernel)
set_option maxRecDepth 100000 in
theorem conX5_copyFrom : Con yX5_copyFrom cX5_copyFrom 2 none { frames := 3, cells := 0, slots := 0, locals := 70 } fX5_copyFrom := con_of (X := xX5_copyFrom) (own := "LeapStones$River") (ql := qlX5_copyFrom) (by decide) rfl FOK5 rfl (List.forall_mem_cons.mpr ⟨call_V conX3_copyFrom cwX3_copyFrom (lw_gl _ [286, 287, 288, 25] (by decide +kernel) (by decide +kernel)) (by decide) rfl ⟨by decide, by decide, by decide +kernel⟩ ⟨rfl, rfl⟩ ⟨by decide, by decide⟩ ⟨Nat.le_refl _, Nat.le_refl _⟩, fun _ h => absurd h List.not_mem_nil⟩) (Or.inl ⟨rfl, rfl⟩)
theorem uX5_copyFrom {i : Nat} {a0 : Option Nat} {S : MM} : fX5_copyFrom [vR i, .inr (.inl a0)] S = rn xX5_copyFrom (0, [some (vR i), some (.inr (.inl a0))], [], S) := rfl
theorem dX5_copyFrom_0 : decode cX5_copyFrom 0 = .ok (.aload_n 1, 1) := by decide +kernel
theorem dX5_copyFrom_1 : decode cX5_copyFrom 1 = .ok (.ifnonnull 4, 3) := by decide +kernel
theorem dX5_copyFrom_4 : decode cX5_copyFrom 4 = .ok (.return_, 1) := by decide +kernel
theorem dX5_copyFrom_5 : decode cX5_copyFrom 5 = .ok (.aload_n 0, 1) := by decide +kernel
theorem dX5_copyFrom_6 : decode cX5_copyFrom 6 = .ok (.getfield 12, 3) := by decide +kernel
theorem dX5_copyFrom_9 : decode cX5_copyFrom 9 = .ok (.aload_n 1, 1) := by decide +kernel
theorem dX5_copyFrom_10 : decode cX5_copyFrom 10 = .ok (.getfield 12, 3) := by decide +kernel
theorem dX5_copyFrom_13 : decode cX5_copyFrom 13 = .ok (.invokevirtual 54, 3) := by decide +kernel
theorem dX5_copyFrom_16 : decode cX5_copyFrom 16 = .ok (.aload_n 0, 1) := by decide +kernel
theorem dX5_copyFrom_17 : decode cX5_copyFrom 17 = .ok (.getfield 18, 3) := by decide +kernel
theorem dX5_copyFrom_20 : decode cX5_copyFrom 20 = .ok (.aload_n 1, 1) := by decide +kernel
theorem dX5_copyFrom_21 : decode cX5_copyFrom 21 = .ok (.getfield 18, 3) := by decide +kernel
theorem dX5_copyFrom_24 : decode cX5_copyFrom 24 = .ok (.invokevirtual 54, 3) := by decide +kernel
theorem dX5_copyFrom_27 : decode cX5_copyFrom 27 = .ok (.aload_n 0, 1) := by decide +kernel
theorem dX5_copyFrom_28 : decode cX5_copyFrom 28 = .ok (.getfield 21, 3) := by decide +kernel
theorem dX5_copyFrom_31 : decode cX5_copyFrom 31 = .ok (.aload_n 1, 1) := by decide +kernel
theorem dX5_copyFrom_32 : decode cX5_copyFrom 32 = .ok (.getfield 21, 3) := by decide +kernel
theorem dX5_copyFrom_35 : decode cX5_copyFrom 35 = .ok (.invokevirtual 54, 3) := by decide +kernel
theorem dX5_copyFrom_38 : decode cX5_copyFrom 38 = .ok (.return_, 1) := by decide +kernel
theorem eX5_copyFrom_0 {a : Option Nat} {l0 : Option VV} {S : MM} : rn xX5_copyFrom (0, [l0, some (.inr (.inl a))], [], S) = rn xX5_copyFrom (1, [l0, some (.inr (.inl a))], [.inr (.inl a)], S) := rn_step dX5_copyFrom_0 rfl rfl
theorem eX5_copyFrom_1n {l0 l1 : Option VV} {S : MM} : rn xX5_copyFrom (1, [l0, l1], [vN], S) = rn xX5_copyFrom (4, [l0, l1], [], S) := rn_step dX5_copyFrom_1 rfl rfl
theorem eX5_copyFrom_1r {i : Nat} {l0 l1 : Option VV} {S : MM} : rn xX5_copyFrom (1, [l0, l1], [vR i], S) = rn xX5_copyFrom (5, [l0, l1], [], S) := rn_step dX5_copyFrom_1 rfl rfl
theorem eX5_copyFrom_4 {l0 l1 : Option VV} {S : MM} : rn xX5_copyFrom (4, [l0, l1], [], S) = some (none, S) := q_retV dX5_copyFrom_4 rfl
theorem eX5_copyFrom_5 {a : Option Nat} {l1 : Option VV} {S : MM} : rn xX5_copyFrom (5, [some (.inr (.inl a)), l1], [], S) = rn xX5_copyFrom (6, [some (.inr (.inl a)), l1], [.inr (.inl a)], S) := rn_step dX5_copyFrom_5 rfl rfl
theorem eX5_copyFrom_6 {i : Nat} {l0 l1 : Option VV} (h : kd i = 5) {S : MM} : rn xX5_copyFrom (6, [l0, l1], [vR i], S) = rn xX5_copyFrom (9, [l0, l1], [vR (i + 1)], S) := q_getR dX5_copyFrom_6 rfl ⟨⟨by decide, by decide⟩, by decide⟩ (fun h => (fref5 h).trans (by first | rfl | omega)) h
theorem eX5_copyFrom_9 {a : Option Nat} {l0 : Option VV} {v0 : VV} {S : MM} : rn xX5_copyFrom (9, [l0, some (.inr (.inl a))], [v0], S) = rn xX5_copyFrom (10, [l0, some (.inr (.inl a))], [.inr (.inl a), v0], S) := rn_step dX5_copyFrom_9 rfl rfl
theorem eX5_copyFrom_10 {i : Nat} {l0 l1 : Option VV} {v1 : VV} (h : kd i = 5) {S : MM} : rn xX5_copyFrom (10, [l0, l1], [vR i, v1], S) = rn xX5_copyFrom (13, [l0, l1], [vR (i + 1), v1], S) := q_getR dX5_copyFrom_10 rfl ⟨⟨by decide, by decide⟩, by decide⟩ (fun h => (fref5 h).trans (by first | rfl | omega)) h
theorem eX5_copyFrom_13 {a0 : Option Nat} {i : Nat} {l0 l1 : Option VV} (h : kd i = 3) {S : MM} : rn xX5_copyFrom (13, [l0, l1], [.inr (.inl a0), vR i], S) = (fX3_copyFrom [vR i, .inr (.inl a0)] S).bind (fun q => rn xX5_copyFrom (16, [l0, l1], q.1.toList ++ [], q.2)) := q_callV (n := 1) (as := [.inr (.inl a0)]) (rest := []) dX5_copyFrom_13 rfl rfl rfl rfl h
theorem eX5_copyFrom_16 {a : Option Nat} {l1 : Option VV} {S : MM} : rn xX5_copyFrom (16, [some (.inr (.inl a)), l1], [], S) = rn xX5_copyFrom (17, [some (.inr (.inl a)), l1], [.inr (.inl a)], S) := rn_step dX5_copyFrom_16 rfl rfl
theorem eX5_copyFrom_17 {i : Nat} {l0 l1 : Option VV} (h : kd i = 5) {S : MM} : rn xX5_copyFrom (17, [l0, l1], [vR i], S) = rn xX5_copyFrom (20, [l0, l1], [vR (i + 4)], S) := q_getR dX5_copyFrom_17 rfl ⟨⟨by decide, by decide⟩, by decide⟩ (fun h => (fref5 h).trans (by first | rfl | omega)) h
theorem eX5_copyFrom_20 {a : Option Nat} {l0 : Option VV} {v0 : VV} {S : MM} : rn xX5_copyFrom (20, [l0, some (.inr (.inl a))], [v0], S) = rn xX5_copyFrom (21, [l0, some (.inr (.inl a))], [.inr (.inl a), v0], S) := rn_step dX5_copyFrom_20 rfl rfl
theorem eX5_copyFrom_21 {i : Nat} {l0 l1 : Option VV} {v1 : VV} (h : kd i = 5) {S : MM} : rn xX5_copyFrom (21, [l0, l1], [vR i, v1], S) = rn xX5_copyFrom (24, [l0, l1], [vR (i + 4), v1], S) := q_getR dX5_copyFrom_21 rfl ⟨⟨by decide, by decide⟩, by decide⟩ (fun h => (fref5 h).trans (by first | rfl | omega)) h
theorem eX5_copyFrom_24 {a0 : Option Nat} {i : Nat} {l0 l1 : Option VV} (h : kd i = 3) {S : MM} : rn xX5_copyFrom (24, [l0, l1], [.inr (.inl a0), vR i], S) = (fX3_copyFrom [vR i, .inr (.inl a0)] S).bind (fun q => rn xX5_copyFrom (27, [l0, l1], q.1.toList ++ [], q.2)) := q_callV (n := 1) (as := [.inr (.inl a0)]) (rest := []) dX5_copyFrom_24 rfl rfl rfl rfl h
theorem eX5_copyFrom_27 {a : Option Nat} {l1 : Option VV} {S : MM} : rn xX5_copyFrom (27, [some (.inr (.inl a)), l1], [], S) = rn xX5_copyFrom (28, [some (.inr (.inl a)), l1], [.inr (.inl a)], S) := rn_step dX5_copyFrom_27 rfl rfl
theorem eX5_copyFrom_28 {i : Nat} {l0 l1 : Option VV} (h : kd i = 5) {S : MM} : rn xX5_copyFrom (28, [l0, l1], [vR i], S) = rn xX5_copyFrom (31, [l0, l1], [vR (i + 7)], S) := q_getR dX5_copyFrom_28 rfl ⟨⟨by decide, by decide⟩, by decide⟩ (fun h => (fref5 h).trans (by first | rfl | omega)) h
theorem eX5_copyFrom_31 {a : Option Nat} {l0 : Option VV} {v0 : VV} {S : MM} : rn xX5_copyFrom (31, [l0, some (.inr (.inl a))], [v0], S) = rn xX5_copyFrom (32, [l0, some (.inr (.inl a))], [.inr (.inl a), v0], S) := rn_step dX5_copyFrom_31 rfl rfl
theorem eX5_copyFrom_32 {i : Nat} {l0 l1 : Option VV} {v1 : VV} (h : kd i = 5) {S : MM} : rn xX5_copyFrom (32, [l0, l1], [vR i, v1], S) = rn xX5_copyFrom (35, [l0, l1], [vR (i + 7), v1], S) := q_getR dX5_copyFrom_32 rfl ⟨⟨by decide, by decide⟩, by decide⟩ (fun h => (fref5 h).trans (by first | rfl | omega)) h
theorem eX5_copyFrom_35 {a0 : Option Nat} {i : Nat} {l0 l1 : Option VV} (h : kd i = 3) {S : MM} : rn xX5_copyFrom (35, [l0, l1], [.inr (.inl a0), vR i], S) = (fX3_copyFrom [vR i, .inr (.inl a0)] S).bind (fun q => rn xX5_copyFrom (38, [l0, l1], q.1.toList ++ [], q.2)) := q_callV (n := 1) (as := [.inr (.inl a0)]) (rest := []) dX5_copyFrom_35 rfl rfl rfl rfl h
theorem eX5_copyFrom_38 {l0 l1 : Option VV} {S : MM} : rn xX5_copyFrom (38, [l0, l1], [], S) = some (none, S) := q_retV dX5_copyFrom_38 rfl
noncomputable def qlX1_copyFrom : List CE := [(0, 51, 4, 2, fX4_copyFrom), (0, 38, 1, 2, fX1_at), (0, 55, 5, 2, fX5_copyFrom)]
noncomputable def xX1_copyFrom : XX := (cX1_copyFrom, fcF fcl1, mcF qlX1_copyFrom, 0)
noncomputable def fX1_copyFrom : FN := fnX xX1_copyFrom 4
set_option maxRecDepth 100000 in
theorem cwX1_copyFrom : Cond.code yX1_copyFrom cX1_copyFrom 4 none ∈ lw_g := lw_gm 294 (by decide +kernel) (by decide +kernel)
set_option maxRecDepth 100000 in
theorem conX1_copyFrom : Con yX1_copyFrom cX1_copyFrom 4 none { frames := 4, cells := 0, slots := 0, locals := 91 } fX1_copyFrom := con_of (X := xX1_copyFrom) (own := "LeapStones$Floods") (ql := qlX1_copyFrom) (by decide) rfl FOK1 rfl (List.forall_mem_cons.mpr ⟨call_V conX4_copyFrom cwX4_copyFrom (lw_gl _ [295, 296, 297, 27] (by decide +kernel) (by decide +kernel)) (by decide) rfl ⟨by decide, by decide, by decide +kernel⟩ ⟨rfl, rfl⟩ ⟨by decide, by decide⟩ ⟨Nat.le_refl _, Nat.le_refl _⟩, List.forall_mem_cons.mpr ⟨call_V conX1_at cwX1_at (lw_gl _ [299, 301, 1, 26] (by decide +kernel) (by decide +kernel)) (by decide) rfl ⟨by decide, by decide, by decide +kernel⟩ ⟨rfl, rfl⟩ ⟨by decide, by decide⟩ ⟨Nat.le_refl _, Nat.le_refl _⟩, List.forall_mem_cons.mpr ⟨call_V conX5_copyFrom cwX5_copyFrom (lw_gl _ [304, 283, 284, 24] (by decide +kernel) (by decide +kernel)) (by decide) rfl ⟨by decide, by decide, by decide +kernel⟩ ⟨rfl, rfl⟩ ⟨by decide, by decide⟩ ⟨Nat.le_refl _, Nat.le_refl _⟩, fun _ h => absurd h List.not_mem_nil⟩⟩⟩) (Or.inl ⟨rfl, rfl⟩)
theorem uX1_copyFrom {i : Nat} {a0 : Option Nat} {S : MM} : fX1_copyFrom [vR i, .inr (.inl a0)] S = rn xX1_copyFrom (0, [some (vR i), some (.inr (.inl a0)), none, none], [], S) := rfl
theorem dX1_copyFrom_0 : decode cX1_copyFrom 0 = .ok (.aload_n 0, 1) := by decide +kernel
theorem dX1_copyFrom_1 : decode cX1_copyFrom 1 = .ok (.getfield 22, 3) := by decide +kernel
theorem dX1_copyFrom_4 : decode cX1_copyFrom 4 = .ok (.aload_n 1, 1) := by decide +kernel
theorem dX1_copyFrom_5 : decode cX1_copyFrom 5 = .ok (.getfield 22, 3) := by decide +kernel
theorem dX1_copyFrom_8 : decode cX1_copyFrom 8 = .ok (.invokevirtual 51, 3) := by decide +kernel
theorem dX1_copyFrom_11 : decode cX1_copyFrom 11 = .ok (.iconst 0, 1) := by decide +kernel
theorem dX1_copyFrom_12 : decode cX1_copyFrom 12 = .ok (.istore_n 2, 1) := by decide +kernel
theorem dX1_copyFrom_13 : decode cX1_copyFrom 13 = .ok (.iload_n 2, 1) := by decide +kernel
theorem dX1_copyFrom_14 : decode cX1_copyFrom 14 = .ok (.iconst 4, 1) := by decide +kernel
theorem dX1_copyFrom_15 : decode cX1_copyFrom 15 = .ok (.if_icmp .ge 28, 3) := by decide +kernel
theorem dX1_copyFrom_18 : decode cX1_copyFrom 18 = .ok (.aload_n 0, 1) := by decide +kernel
theorem dX1_copyFrom_19 : decode cX1_copyFrom 19 = .ok (.iload_n 2, 1) := by decide +kernel
theorem dX1_copyFrom_20 : decode cX1_copyFrom 20 = .ok (.invokevirtual 38, 3) := by decide +kernel
theorem dX1_copyFrom_23 : decode cX1_copyFrom 23 = .ok (.astore_n 3, 1) := by decide +kernel
theorem dX1_copyFrom_24 : decode cX1_copyFrom 24 = .ok (.aload_n 3, 1) := by decide +kernel
theorem dX1_copyFrom_25 : decode cX1_copyFrom 25 = .ok (.ifnull 12, 3) := by decide +kernel
theorem dX1_copyFrom_28 : decode cX1_copyFrom 28 = .ok (.aload_n 3, 1) := by decide +kernel
theorem dX1_copyFrom_29 : decode cX1_copyFrom 29 = .ok (.aload_n 1, 1) := by decide +kernel
theorem dX1_copyFrom_30 : decode cX1_copyFrom 30 = .ok (.iload_n 2, 1) := by decide +kernel
theorem dX1_copyFrom_31 : decode cX1_copyFrom 31 = .ok (.invokevirtual 38, 3) := by decide +kernel
theorem dX1_copyFrom_34 : decode cX1_copyFrom 34 = .ok (.invokevirtual 55, 3) := by decide +kernel
theorem dX1_copyFrom_37 : decode cX1_copyFrom 37 = .ok (.iinc 2 1, 3) := by decide +kernel
theorem dX1_copyFrom_40 : decode cX1_copyFrom 40 = .ok (.goto (-27), 3) := by decide +kernel
theorem dX1_copyFrom_43 : decode cX1_copyFrom 43 = .ok (.return_, 1) := by decide +kernel
theorem eX1_copyFrom_0 {a : Option Nat} {l1 l2 l3 : Option VV} {S : MM} : rn xX1_copyFrom (0, [some (.inr (.inl a)), l1, l2, l3], [], S) = rn xX1_copyFrom (1, [some (.inr (.inl a)), l1, l2, l3], [.inr (.inl a)], S) := rn_step dX1_copyFrom_0 rfl rfl
theorem eX1_copyFrom_1 {i : Nat} {l0 l1 l2 l3 : Option VV} (h : kd i = 1) {S : MM} : rn xX1_copyFrom (1, [l0, l1, l2, l3], [vR i], S) = rn xX1_copyFrom (4, [l0, l1, l2, l3], [vR (i + 2)], S) := q_getR dX1_copyFrom_1 rfl ⟨⟨by decide, by decide⟩, by decide⟩ (fun h => (fref1 h).trans (by first | rfl | omega)) h
theorem eX1_copyFrom_4 {a : Option Nat} {l0 l2 l3 : Option VV} {v0 : VV} {S : MM} : rn xX1_copyFrom (4, [l0, some (.inr (.inl a)), l2, l3], [v0], S) = rn xX1_copyFrom (5, [l0, some (.inr (.inl a)), l2, l3], [.inr (.inl a), v0], S) := rn_step dX1_copyFrom_4 rfl rfl
theorem eX1_copyFrom_5 {i : Nat} {l0 l1 l2 l3 : Option VV} {v1 : VV} (h : kd i = 1) {S : MM} : rn xX1_copyFrom (5, [l0, l1, l2, l3], [vR i, v1], S) = rn xX1_copyFrom (8, [l0, l1, l2, l3], [vR (i + 2), v1], S) := q_getR dX1_copyFrom_5 rfl ⟨⟨by decide, by decide⟩, by decide⟩ (fun h => (fref1 h).trans (by first | rfl | omega)) h
theorem eX1_copyFrom_8 {a0 : Option Nat} {i : Nat} {l0 l1 l2 l3 : Option VV} (h : kd i = 4) {S : MM} : rn xX1_copyFrom (8, [l0, l1, l2, l3], [.inr (.inl a0), vR i], S) = (fX4_copyFrom [vR i, .inr (.inl a0)] S).bind (fun q => rn xX1_copyFrom (11, [l0, l1, l2, l3], q.1.toList ++ [], q.2)) := q_callV (n := 1) (as := [.inr (.inl a0)]) (rest := []) dX1_copyFrom_8 rfl rfl rfl rfl h
theorem eX1_copyFrom_11 {l0 l1 l2 l3 : Option VV} {S : MM} : rn xX1_copyFrom (11, [l0, l1, l2, l3], [], S) = rn xX1_copyFrom (12, [l0, l1, l2, l3], [vI 0], S) := rn_step dX1_copyFrom_11 rfl rfl
theorem eX1_copyFrom_12 {a : Int} {w : Option Nat} {l0 l2 l3 : Option VV} {S : MM} : rn xX1_copyFrom (12, [l0, some (.inr (.inl w)), l2, l3], [vI a], S) = rn xX1_copyFrom (13, [l0, some (.inr (.inl w)), some (vI a), l3], [], S) := rn_step dX1_copyFrom_12 rfl rfl
theorem eX1_copyFrom_13 {a : Int} {l0 l1 l3 : Option VV} {S : MM} : rn xX1_copyFrom (13, [l0, l1, some (vI a), l3], [], S) = rn xX1_copyFrom (14, [l0, l1, some (vI a), l3], [vI a], S) := rn_step dX1_copyFrom_13 rfl rfl
theorem eX1_copyFrom_14 {l0 l1 l2 l3 : Option VV} {v0 : VV} {S : MM} : rn xX1_copyFrom (14, [l0, l1, l2, l3], [v0], S) = rn xX1_copyFrom (15, [l0, l1, l2, l3], [vI 4, v0], S) := rn_step dX1_copyFrom_14 rfl rfl
theorem eX1_copyFrom_15 {a b : Int} {l0 l1 l2 l3 : Option VV} (h : -2147483648 ≤ a ∧ a ≤ 2147483647) (h1 : -2147483648 ≤ b ∧ b ≤ 2147483647) {S : MM} : rn xX1_copyFrom (15, [l0, l1, l2, l3], [vI b, vI a], S) = if a < b then rn xX1_copyFrom (18, [l0, l1, l2, l3], [], S) else rn xX1_copyFrom (43, [l0, l1, l2, l3], [], S) := q_icmp_ge dX1_copyFrom_15 (by decide) rfl h h1
theorem eX1_copyFrom_18 {a : Option Nat} {l1 l2 l3 : Option VV} {S : MM} : rn xX1_copyFrom (18, [some (.inr (.inl a)), l1, l2, l3], [], S) = rn xX1_copyFrom (19, [some (.inr (.inl a)), l1, l2, l3], [.inr (.inl a)], S) := rn_step dX1_copyFrom_18 rfl rfl
theorem eX1_copyFrom_19 {a : Int} {l0 l1 l3 : Option VV} {v0 : VV} {S : MM} : rn xX1_copyFrom (19, [l0, l1, some (vI a), l3], [v0], S) = rn xX1_copyFrom (20, [l0, l1, some (vI a), l3], [vI a, v0], S) := rn_step dX1_copyFrom_19 rfl rfl
theorem eX1_copyFrom_20 {a0 : Int} {i : Nat} {l0 l1 l2 l3 : Option VV} (h : kd i = 1) {S : MM} : rn xX1_copyFrom (20, [l0, l1, l2, l3], [vI a0, vR i], S) = (fX1_at [vR i, vI a0] S).bind (fun q => rn xX1_copyFrom (23, [l0, l1, l2, l3], q.1.toList ++ [], q.2)) := q_callV (n := 1) (as := [vI a0]) (rest := []) dX1_copyFrom_20 rfl rfl rfl rfl h
theorem eX1_copyFrom_23 {a : Option Nat} {w : Int} {l0 l1 l3 : Option VV} {S : MM} : rn xX1_copyFrom (23, [l0, l1, some (vI w), l3], [.inr (.inl a)], S) = rn xX1_copyFrom (24, [l0, l1, some (vI w), some (.inr (.inl a))], [], S) := rn_step dX1_copyFrom_23 rfl rfl
theorem eX1_copyFrom_24 {a : Option Nat} {l0 l1 l2 : Option VV} {S : MM} : rn xX1_copyFrom (24, [l0, l1, l2, some (.inr (.inl a))], [], S) = rn xX1_copyFrom (25, [l0, l1, l2, some (.inr (.inl a))], [.inr (.inl a)], S) := rn_step dX1_copyFrom_24 rfl rfl
theorem eX1_copyFrom_25n {l0 l1 l2 l3 : Option VV} {S : MM} : rn xX1_copyFrom (25, [l0, l1, l2, l3], [vN], S) = rn xX1_copyFrom (37, [l0, l1, l2, l3], [], S) := rn_step dX1_copyFrom_25 rfl rfl
theorem eX1_copyFrom_25r {i : Nat} {l0 l1 l2 l3 : Option VV} {S : MM} : rn xX1_copyFrom (25, [l0, l1, l2, l3], [vR i], S) = rn xX1_copyFrom (28, [l0, l1, l2, l3], [], S) := rn_step dX1_copyFrom_25 rfl rfl
theorem eX1_copyFrom_28 {a : Option Nat} {l0 l1 l2 : Option VV} {S : MM} : rn xX1_copyFrom (28, [l0, l1, l2, some (.inr (.inl a))], [], S) = rn xX1_copyFrom (29, [l0, l1, l2, some (.inr (.inl a))], [.inr (.inl a)], S) := rn_step dX1_copyFrom_28 rfl rfl
theorem eX1_copyFrom_29 {a : Option Nat} {l0 l2 l3 : Option VV} {v0 : VV} {S : MM} : rn xX1_copyFrom (29, [l0, some (.inr (.inl a)), l2, l3], [v0], S) = rn xX1_copyFrom (30, [l0, some (.inr (.inl a)), l2, l3], [.inr (.inl a), v0], S) := rn_step dX1_copyFrom_29 rfl rfl
theorem eX1_copyFrom_30 {a : Int} {l0 l1 l3 : Option VV} {v0 v1 : VV} {S : MM} : rn xX1_copyFrom (30, [l0, l1, some (vI a), l3], [v0, v1], S) = rn xX1_copyFrom (31, [l0, l1, some (vI a), l3], [vI a, v0, v1], S) := rn_step dX1_copyFrom_30 rfl rfl
theorem eX1_copyFrom_31 {a0 : Int} {i : Nat} {l0 l1 l2 l3 : Option VV} {v2 : VV} (h : kd i = 1) {S : MM} : rn xX1_copyFrom (31, [l0, l1, l2, l3], [vI a0, vR i, v2], S) = (fX1_at [vR i, vI a0] S).bind (fun q => rn xX1_copyFrom (34, [l0, l1, l2, l3], q.1.toList ++ [v2], q.2)) := q_callV (n := 1) (as := [vI a0]) (rest := [v2]) dX1_copyFrom_31 rfl rfl rfl rfl h
theorem eX1_copyFrom_34 {a0 : Option Nat} {i : Nat} {l0 l1 l2 l3 : Option VV} (h : kd i = 5) {S : MM} : rn xX1_copyFrom (34, [l0, l1, l2, l3], [.inr (.inl a0), vR i], S) = (fX5_copyFrom [vR i, .inr (.inl a0)] S).bind (fun q => rn xX1_copyFrom (37, [l0, l1, l2, l3], q.1.toList ++ [], q.2)) := q_callV (n := 1) (as := [.inr (.inl a0)]) (rest := []) dX1_copyFrom_34 rfl rfl rfl rfl h
theorem eX1_copyFrom_37 {a : Int} {w : Option Nat} {l0 l3 : Option VV} {S : MM} : rn xX1_copyFrom (37, [l0, some (.inr (.inl w)), some (vI a), l3], [], S) = rn xX1_copyFrom (40, [l0, some (.inr (.inl w)), some (vI (a + 1)), l3], [], S) := rn_step dX1_copyFrom_37 rfl rfl
theorem eX1_copyFrom_40 {l0 l1 l2 l3 : Option VV} {S : MM} : rn xX1_copyFrom (40, [l0, l1, l2, l3], [], S) = rn xX1_copyFrom (13, [l0, l1, l2, l3], [], S) := rn_step dX1_copyFrom_40 rfl rfl
theorem eX1_copyFrom_43 {l0 l1 l2 l3 : Option VV} {S : MM} : rn xX1_copyFrom (43, [l0, l1, l2, l3], [], S) = some (none, S) := q_retV dX1_copyFrom_43 rfl
noncomputable def qlX2_length : List CE := []
noncomputable def xX2_length : XX := (cX2_length, fcF fcl2, mcF qlX2_length, 1)
noncomputable def fX2_length : FN := fnX xX2_length 1
set_option maxRecDepth 100000 in
theorem cwX2_length : Cond.code yX2_length cX2_length 1 (some .int) ∈ lw_g := lw_gm 535 (by decide +kernel) (by decide +kernel)
set_option maxRecDepth 100000 in
theorem conX2_length : Con yX2_length cX2_length 1 (some .int) { frames := 0, cells := 0, slots := 0, locals := 0 } fX2_length := con_of (X := xX2_length) (own := "LeapStones$Pad") (ql := qlX2_length) (by decide) rfl FOK2 rfl (fun _ h => absurd h List.not_mem_nil) (Or.inr (Or.inl ⟨rfl, rfl⟩))
theorem uX2_length {i : Nat} {S : MM} : fX2_length [vR i] S = rn xX2_length (0, [some (vR i)], [], S) := rfl
theorem dX2_length_0 : decode cX2_length 0 = .ok (.aload_n 0, 1) := by decide +kernel
theorem dX2_length_1 : decode cX2_length 1 = .ok (.getfield 15, 3) := by decide +kernel
theorem dX2_length_4 : decode cX2_length 4 = .ok (.ireturn, 1) := by decide +kernel
theorem eX2_length_0 {a : Option Nat} {S : MM} : rn xX2_length (0, [some (.inr (.inl a))], [], S) = rn xX2_length (1, [some (.inr (.inl a))], [.inr (.inl a)], S) := rn_step dX2_length_0 rfl rfl
theorem eX2_length_1 {i : Nat} {l0 : Option VV} (h : kd i = 2) {S : MM} : rn xX2_length (1, [l0], [vR i], S) = rn xX2_length (4, [l0], [vI (S i 1)], S) := q_getI dX2_length_1 rfl ⟨⟨by decide, by decide⟩, by decide⟩ h
theorem eX2_length_4 {z : Int} {l0 : Option VV} {S : MM} : rn xX2_length (4, [l0], [vI z], S) = some (some (vI z), S) := q_retI dX2_length_4 rfl
noncomputable def qlX2_kind : List CE := []
noncomputable def xX2_kind : XX := (cX2_kind, fcF fcl2, mcF qlX2_kind, 3)
noncomputable def fX2_kind : FN := fnX xX2_kind 1
set_option maxRecDepth 100000 in
theorem cwX2_kind : Cond.code yX2_kind cX2_kind 1 (some .char) ∈ lw_g := lw_gm 762 (by decide +kernel) (by decide +kernel)
set_option maxRecDepth 100000 in
theorem conX2_kind : Con yX2_kind cX2_kind 1 (some .char) { frames := 0, cells := 0, slots := 0, locals := 0 } fX2_kind := con_of (X := xX2_kind) (own := "LeapStones$Pad") (ql := qlX2_kind) (by decide) rfl FOK2 rfl (fun _ h => absurd h List.not_mem_nil) (Or.inr (Or.inr (Or.inr (Or.inl ⟨rfl, rfl⟩))))
theorem uX2_kind {i : Nat} {S : MM} : fX2_kind [vR i] S = rn xX2_kind (0, [some (vR i)], [], S) := rfl
theorem dX2_kind_0 : decode cX2_kind 0 = .ok (.aload_n 0, 1) := by decide +kernel
theorem dX2_kind_1 : decode cX2_kind 1 = .ok (.getfield 19, 3) := by decide +kernel
theorem dX2_kind_4 : decode cX2_kind 4 = .ok (.ireturn, 1) := by decide +kernel
theorem eX2_kind_0 {a : Option Nat} {S : MM} : rn xX2_kind (0, [some (.inr (.inl a))], [], S) = rn xX2_kind (1, [some (.inr (.inl a))], [.inr (.inl a)], S) := rn_step dX2_kind_0 rfl rfl
theorem eX2_kind_1 {i : Nat} {l0 : Option VV} (h : kd i = 2) {S : MM} : rn xX2_kind (1, [l0], [vR i], S) = rn xX2_kind (4, [l0], [vI (S i 3)], S) := q_getI dX2_kind_1 rfl ⟨⟨by decide, by decide⟩, by decide⟩ h
theorem eX2_kind_4 {z : Int} {l0 : Option VV} (hz : 0 ≤ z ∧ z ≤ 65535) {S : MM} : rn xX2_kind (4, [l0], [vI z], S) = some (some (vI z), S) := q_retC dX2_kind_4 rfl hz
noncomputable def qlX2_walker : List CE := []
noncomputable def xX2_walker : XX := (cX2_walker, fcF fcl2, mcF qlX2_walker, 1)
noncomputable def fX2_walker : FN := fnX xX2_walker 1
set_option maxRecDepth 100000 in
theorem cwX2_walker : Cond.code yX2_walker cX2_walker 1 (some .int) ∈ lw_g := lw_gm 766 (by decide +kernel) (by decide +kernel)
set_option maxRecDepth 100000 in
theorem conX2_walker : Con yX2_walker cX2_walker 1 (some .int) { frames := 0, cells := 0, slots := 0, locals := 0 } fX2_walker := con_of (X := xX2_walker) (own := "LeapStones$Pad") (ql := qlX2_walker) (by decide) rfl FOK2 rfl (fun _ h => absurd h List.not_mem_nil) (Or.inr (Or.inl ⟨rfl, rfl⟩))
theorem uX2_walker {i : Nat} {S : MM} : fX2_walker [vR i] S = rn xX2_walker (0, [some (vR i)], [], S) := rfl
theorem dX2_walker_0 : decode cX2_walker 0 = .ok (.aload_n 0, 1) := by decide +kernel
theorem dX2_walker_1 : decode cX2_walker 1 = .ok (.getfield 23, 3) := by decide +kernel
theorem dX2_walker_4 : decode cX2_walker 4 = .ok (.ireturn, 1) := by decide +kernel
theorem eX2_walker_0 {a : Option Nat} {S : MM} : rn xX2_walker (0, [some (.inr (.inl a))], [], S) = rn xX2_walker (1, [some (.inr (.inl a))], [.inr (.inl a)], S) := rn_step dX2_walker_0 rfl rfl
theorem eX2_walker_1 {i : Nat} {l0 : Option VV} (h : kd i = 2) {S : MM} : rn xX2_walker (1, [l0], [vR i], S) = rn xX2_walker (4, [l0], [vI (S i 4)], S) := q_getI dX2_walker_1 rfl ⟨⟨by decide, by decide⟩, by decide⟩ h
theorem eX2_walker_4 {z : Int} {l0 : Option VV} {S : MM} : rn xX2_walker (4, [l0], [vI z], S) = some (some (vI z), S) := q_retI dX2_walker_4 rfl
noncomputable def qlX2_from : List CE := []
noncomputable def xX2_from : XX := (cX2_from, fcF fcl2, mcF qlX2_from, 1)
noncomputable def fX2_from : FN := fnX xX2_from 1
set_option maxRecDepth 100000 in
theorem cwX2_from : Cond.code yX2_from cX2_from 1 (some .int) ∈ lw_g := lw_gm 770 (by decide +kernel) (by decide +kernel)
set_option maxRecDepth 100000 in
theorem conX2_from : Con yX2_from cX2_from 1 (some .int) { frames := 0, cells := 0, slots := 0, locals := 0 } fX2_from := con_of (X := xX2_from) (own := "LeapStones$Pad") (ql := qlX2_from) (by decide) rfl FOK2 rfl (fun _ h => absurd h List.not_mem_nil) (Or.inr (Or.inl ⟨rfl, rfl⟩))
theorem uX2_from {i : Nat} {S : MM} : fX2_from [vR i] S = rn xX2_from (0, [some (vR i)], [], S) := rfl
theorem dX2_from_0 : decode cX2_from 0 = .ok (.aload_n 0, 1) := by decide +kernel
theorem dX2_from_1 : decode cX2_from 1 = .ok (.getfield 26, 3) := by decide +kernel
theorem dX2_from_4 : decode cX2_from 4 = .ok (.ireturn, 1) := by decide +kernel
theorem eX2_from_0 {a : Option Nat} {S : MM} : rn xX2_from (0, [some (.inr (.inl a))], [], S) = rn xX2_from (1, [some (.inr (.inl a))], [.inr (.inl a)], S) := rn_step dX2_from_0 rfl rfl
theorem eX2_from_1 {i : Nat} {l0 : Option VV} (h : kd i = 2) {S : MM} : rn xX2_from (1, [l0], [vR i], S) = rn xX2_from (4, [l0], [vI (S i 5)], S) := q_getI dX2_from_1 rfl ⟨⟨by decide, by decide⟩, by decide⟩ h
theorem eX2_from_4 {z : Int} {l0 : Option VV} {S : MM} : rn xX2_from (4, [l0], [vI z], S) = some (some (vI z), S) := q_retI dX2_from_4 rfl
noncomputable def qlX2_to : List CE := []
noncomputable def xX2_to : XX := (cX2_to, fcF fcl2, mcF qlX2_to, 1)
noncomputable def fX2_to : FN := fnX xX2_to 1
set_option maxRecDepth 100000 in
theorem cwX2_to : Cond.code yX2_to cX2_to 1 (some .int) ∈ lw_g := lw_gm 774 (by decide +kernel) (by decide +kernel)
set_option maxRecDepth 100000 in
theorem conX2_to : Con yX2_to cX2_to 1 (some .int) { frames := 0, cells := 0, slots := 0, locals := 0 } fX2_to := con_of (X := xX2_to) (own := "LeapStones$Pad") (ql := qlX2_to) (by decide) rfl FOK2 rfl (fun _ h => absurd h List.not_mem_nil) (Or.inr (Or.inl ⟨rfl, rfl⟩))
theorem uX2_to {i : Nat} {S : MM} : fX2_to [vR i] S = rn xX2_to (0, [some (vR i)], [], S) := rfl
theorem dX2_to_0 : decode cX2_to 0 = .ok (.aload_n 0, 1) := by decide +kernel
theorem dX2_to_1 : decode cX2_to 1 = .ok (.getfield 29, 3) := by decide +kernel
theorem dX2_to_4 : decode cX2_to 4 = .ok (.ireturn, 1) := by decide +kernel
theorem eX2_to_0 {a : Option Nat} {S : MM} : rn xX2_to (0, [some (.inr (.inl a))], [], S) = rn xX2_to (1, [some (.inr (.inl a))], [.inr (.inl a)], S) := rn_step dX2_to_0 rfl rfl
theorem eX2_to_1 {i : Nat} {l0 : Option VV} (h : kd i = 2) {S : MM} : rn xX2_to (1, [l0], [vR i], S) = rn xX2_to (4, [l0], [vI (S i 6)], S) := q_getI dX2_to_1 rfl ⟨⟨by decide, by decide⟩, by decide⟩ h
theorem eX2_to_4 {z : Int} {l0 : Option VV} {S : MM} : rn xX2_to (4, [l0], [vI z], S) = some (some (vI z), S) := q_retI dX2_to_4 rfl
noncomputable def qlX2_repeats : List CE := []
noncomputable def xX2_repeats : XX := (cX2_repeats, fcF fcl2, mcF qlX2_repeats, 1)
noncomputable def fX2_repeats : FN := fnX xX2_repeats 1
set_option maxRecDepth 100000 in
theorem cwX2_repeats : Cond.code yX2_repeats cX2_repeats 1 (some .int) ∈ lw_g := lw_gm 783 (by decide +kernel) (by decide +kernel)
set_option maxRecDepth 100000 in
theorem conX2_repeats : Con yX2_repeats cX2_repeats 1 (some .int) { frames := 0, cells := 0, slots := 0, locals := 0 } fX2_repeats := con_of (X := xX2_repeats) (own := "LeapStones$Pad") (ql := qlX2_repeats) (by decide) rfl FOK2 rfl (fun _ h => absurd h List.not_mem_nil) (Or.inr (Or.inl ⟨rfl, rfl⟩))
theorem uX2_repeats {i : Nat} {S : MM} : fX2_repeats [vR i] S = rn xX2_repeats (0, [some (vR i)], [], S) := rfl
theorem dX2_repeats_0 : decode cX2_repeats 0 = .ok (.aload_n 0, 1) := by decide +kernel
theorem dX2_repeats_1 : decode cX2_repeats 1 = .ok (.getfield 32, 3) := by decide +kernel
theorem dX2_repeats_4 : decode cX2_repeats 4 = .ok (.ireturn, 1) := by decide +kernel
theorem eX2_repeats_0 {a : Option Nat} {S : MM} : rn xX2_repeats (0, [some (.inr (.inl a))], [], S) = rn xX2_repeats (1, [some (.inr (.inl a))], [.inr (.inl a)], S) := rn_step dX2_repeats_0 rfl rfl
theorem eX2_repeats_1 {i : Nat} {l0 : Option VV} (h : kd i = 2) {S : MM} : rn xX2_repeats (1, [l0], [vR i], S) = rn xX2_repeats (4, [l0], [vI (S i 7)], S) := q_getI dX2_repeats_1 rfl ⟨⟨by decide, by decide⟩, by decide⟩ h
theorem eX2_repeats_4 {z : Int} {l0 : Option VV} {S : MM} : rn xX2_repeats (4, [l0], [vI z], S) = some (some (vI z), S) := q_retI dX2_repeats_4 rfl
noncomputable def qlX2_append : List CE := []
noncomputable def xX2_append : XX := (cX2_append, fcF fcl2, mcF qlX2_append, 0)
noncomputable def fX2_append : FN := fnX xX2_append 2
set_option maxRecDepth 100000 in
theorem cwX2_append : Cond.code yX2_append cX2_append 2 none ∈ lw_g := lw_gm 694 (by decide +kernel) (by decide +kernel)
set_option maxRecDepth 100000 in
theorem conX2_append : Con yX2_append cX2_append 2 none { frames := 0, cells := 0, slots := 0, locals := 0 } fX2_append := con_of (X := xX2_append) (own := "LeapStones$Pad") (ql := qlX2_append) (by decide) rfl FOK2 rfl (fun _ h => absurd h List.not_mem_nil) (Or.inl ⟨rfl, rfl⟩)
theorem uX2_append {i : Nat} {a0 : Int} {S : MM} : fX2_append [vR i, vI a0] S = rn xX2_append (0, [some (vR i), some (vI a0)], [], S) := rfl
theorem dX2_append_0 : decode cX2_append 0 = .ok (.aload_n 0, 1) := by decide +kernel
theorem dX2_append_1 : decode cX2_append 1 = .ok (.getfield 15, 3) := by decide +kernel
theorem dX2_append_4 : decode cX2_append 4 = .ok (.bipush 80, 2) := by decide +kernel
theorem dX2_append_6 : decode cX2_append 6 = .ok (.if_icmp .ge 23, 3) := by decide +kernel
theorem dX2_append_9 : decode cX2_append 9 = .ok (.aload_n 0, 1) := by decide +kernel
theorem dX2_append_10 : decode cX2_append 10 = .ok (.getfield 9, 3) := by decide +kernel
theorem dX2_append_13 : decode cX2_append 13 = .ok (.aload_n 0, 1) := by decide +kernel
theorem dX2_append_14 : decode cX2_append 14 = .ok (.getfield 15, 3) := by decide +kernel
theorem dX2_append_17 : decode cX2_append 17 = .ok (.iload_n 1, 1) := by decide +kernel
theorem dX2_append_18 : decode cX2_append 18 = .ok (.castore, 1) := by decide +kernel
theorem dX2_append_19 : decode cX2_append 19 = .ok (.aload_n 0, 1) := by decide +kernel
theorem dX2_append_20 : decode cX2_append 20 = .ok (.dup, 1) := by decide +kernel
theorem dX2_append_21 : decode cX2_append 21 = .ok (.getfield 15, 3) := by decide +kernel
theorem dX2_append_24 : decode cX2_append 24 = .ok (.iconst 1, 1) := by decide +kernel
theorem dX2_append_25 : decode cX2_append 25 = .ok (.iadd, 1) := by decide +kernel
theorem dX2_append_26 : decode cX2_append 26 = .ok (.putfield 15, 3) := by decide +kernel
theorem dX2_append_29 : decode cX2_append 29 = .ok (.return_, 1) := by decide +kernel
theorem eX2_append_0 {a : Option Nat} {l1 : Option VV} {S : MM} : rn xX2_append (0, [some (.inr (.inl a)), l1], [], S) = rn xX2_append (1, [some (.inr (.inl a)), l1], [.inr (.inl a)], S) := rn_step dX2_append_0 rfl rfl
theorem eX2_append_1 {i : Nat} {l0 l1 : Option VV} (h : kd i = 2) {S : MM} : rn xX2_append (1, [l0, l1], [vR i], S) = rn xX2_append (4, [l0, l1], [vI (S i 1)], S) := q_getI dX2_append_1 rfl ⟨⟨by decide, by decide⟩, by decide⟩ h
theorem eX2_append_4 {l0 l1 : Option VV} {v0 : VV} {S : MM} : rn xX2_append (4, [l0, l1], [v0], S) = rn xX2_append (6, [l0, l1], [vI 80, v0], S) := rn_step dX2_append_4 rfl rfl
theorem eX2_append_6 {a b : Int} {l0 l1 : Option VV} (h : -2147483648 ≤ a ∧ a ≤ 2147483647) (h1 : -2147483648 ≤ b ∧ b ≤ 2147483647) {S : MM} : rn xX2_append (6, [l0, l1], [vI b, vI a], S) = if a < b then rn xX2_append (9, [l0, l1], [], S) else rn xX2_append (29, [l0, l1], [], S) := q_icmp_ge dX2_append_6 (by decide) rfl h h1
theorem eX2_append_9 {a : Option Nat} {l1 : Option VV} {S : MM} : rn xX2_append (9, [some (.inr (.inl a)), l1], [], S) = rn xX2_append (10, [some (.inr (.inl a)), l1], [.inr (.inl a)], S) := rn_step dX2_append_9 rfl rfl
theorem eX2_append_10 {i : Nat} {l0 l1 : Option VV} (h : kd i = 2) {S : MM} : rn xX2_append (10, [l0, l1], [vR i], S) = rn xX2_append (13, [l0, l1], [vR (i + 1)], S) := q_getR dX2_append_10 rfl ⟨⟨by decide, by decide⟩, by decide⟩ (fun h => (fref2 h).trans (by first | rfl | omega)) h
theorem eX2_append_13 {a : Option Nat} {l1 : Option VV} {v0 : VV} {S : MM} : rn xX2_append (13, [some (.inr (.inl a)), l1], [v0], S) = rn xX2_append (14, [some (.inr (.inl a)), l1], [.inr (.inl a), v0], S) := rn_step dX2_append_13 rfl rfl
theorem eX2_append_14 {i : Nat} {l0 l1 : Option VV} {v1 : VV} (h : kd i = 2) {S : MM} : rn xX2_append (14, [l0, l1], [vR i, v1], S) = rn xX2_append (17, [l0, l1], [vI (S i 1), v1], S) := q_getI dX2_append_14 rfl ⟨⟨by decide, by decide⟩, by decide⟩ h
theorem eX2_append_17 {a : Int} {l0 : Option VV} {v0 v1 : VV} {S : MM} : rn xX2_append (17, [l0, some (vI a)], [v0, v1], S) = rn xX2_append (18, [l0, some (vI a)], [vI a, v0, v1], S) := rn_step dX2_append_17 rfl rfl
theorem eX2_append_18 {i : Nat} {j z : Int} {l0 l1 : Option VV} (h : kd i = 12) (h0 : 0 ≤ j) (h1 : j < alen i) (hz : 0 ≤ z ∧ z ≤ 65535) {S : MM} : rn xX2_append (18, [l0, l1], [vI z, vI j, vR i], S) = rn xX2_append (19, [l0, l1], [], updM S i j.toNat z) := q_cast dX2_append_18 h h0 h1 hz
theorem eX2_append_19 {a : Option Nat} {l1 : Option VV} {S : MM} : rn xX2_append (19, [some (.inr (.inl a)), l1], [], S) = rn xX2_append (20, [some (.inr (.inl a)), l1], [.inr (.inl a)], S) := rn_step dX2_append_19 rfl rfl
theorem eX2_append_20 {a : Option Nat} {l0 l1 : Option VV} {S : MM} : rn xX2_append (20, [l0, l1], [.inr (.inl a)], S) = rn xX2_append (21, [l0, l1], [.inr (.inl a), .inr (.inl a)], S) := rn_step dX2_append_20 rfl rfl
theorem eX2_append_21 {i : Nat} {l0 l1 : Option VV} {v1 : VV} (h : kd i = 2) {S : MM} : rn xX2_append (21, [l0, l1], [vR i, v1], S) = rn xX2_append (24, [l0, l1], [vI (S i 1), v1], S) := q_getI dX2_append_21 rfl ⟨⟨by decide, by decide⟩, by decide⟩ h
theorem eX2_append_24 {l0 l1 : Option VV} {v0 v1 : VV} {S : MM} : rn xX2_append (24, [l0, l1], [v0, v1], S) = rn xX2_append (25, [l0, l1], [vI 1, v0, v1], S) := rn_step dX2_append_24 rfl rfl
theorem eX2_append_25 {a b : Int} {l0 l1 : Option VV} {v2 : VV} {S : MM} : rn xX2_append (25, [l0, l1], [vI b, vI a, v2], S) = rn xX2_append (26, [l0, l1], [vI (a + b), v2], S) := rn_step dX2_append_25 rfl rfl
theorem eX2_append_26 {z : Int} {i : Nat} {l0 l1 : Option VV} (h : kd i = 2) {S : MM} : rn xX2_append (26, [l0, l1], [vI z, vR i], S) = rn xX2_append (29, [l0, l1], [], updM S i 1 z) := q_put dX2_append_26 rfl ⟨by decide, by decide⟩ rfl h
theorem eX2_append_29 {l0 l1 : Option VV} {S : MM} : rn xX2_append (29, [l0, l1], [], S) = some (none, S) := q_retV dX2_append_29 rfl
noncomputable def qlX2_clear : List CE := []
noncomputable def xX2_clear : XX := (cX2_clear, fcF fcl2, mcF qlX2_clear, 0)
noncomputable def fX2_clear : FN := fnX xX2_clear 1
set_option maxRecDepth 100000 in
theorem cwX2_clear : Cond.code yX2_clear cX2_clear 1 none ∈ lw_g := lw_gm 676 (by decide +kernel) (by decide +kernel)
set_option maxRecDepth 100000 in
theorem conX2_clear : Con yX2_clear cX2_clear 1 none { frames := 0, cells := 0, slots := 0, locals := 0 } fX2_clear := con_of (X := xX2_clear) (own := "LeapStones$Pad") (ql := qlX2_clear) (by decide) rfl FOK2 rfl (fun _ h => absurd h List.not_mem_nil) (Or.inl ⟨rfl, rfl⟩)
theorem uX2_clear {i : Nat} {S : MM} : fX2_clear [vR i] S = rn xX2_clear (0, [some (vR i)], [], S) := rfl
theorem dX2_clear_0 : decode cX2_clear 0 = .ok (.aload_n 0, 1) := by decide +kernel
theorem dX2_clear_1 : decode cX2_clear 1 = .ok (.iconst 0, 1) := by decide +kernel
theorem dX2_clear_2 : decode cX2_clear 2 = .ok (.putfield 15, 3) := by decide +kernel
theorem dX2_clear_5 : decode cX2_clear 5 = .ok (.aload_n 0, 1) := by decide +kernel
theorem dX2_clear_6 : decode cX2_clear 6 = .ok (.iconst 0, 1) := by decide +kernel
theorem dX2_clear_7 : decode cX2_clear 7 = .ok (.putfield 35, 3) := by decide +kernel
theorem dX2_clear_10 : decode cX2_clear 10 = .ok (.return_, 1) := by decide +kernel
theorem eX2_clear_0 {a : Option Nat} {S : MM} : rn xX2_clear (0, [some (.inr (.inl a))], [], S) = rn xX2_clear (1, [some (.inr (.inl a))], [.inr (.inl a)], S) := rn_step dX2_clear_0 rfl rfl
theorem eX2_clear_1 {l0 : Option VV} {v0 : VV} {S : MM} : rn xX2_clear (1, [l0], [v0], S) = rn xX2_clear (2, [l0], [vI 0, v0], S) := rn_step dX2_clear_1 rfl rfl
theorem eX2_clear_2 {z : Int} {i : Nat} {l0 : Option VV} (h : kd i = 2) {S : MM} : rn xX2_clear (2, [l0], [vI z, vR i], S) = rn xX2_clear (5, [l0], [], updM S i 1 z) := q_put dX2_clear_2 rfl ⟨by decide, by decide⟩ rfl h
theorem eX2_clear_5 {a : Option Nat} {S : MM} : rn xX2_clear (5, [some (.inr (.inl a))], [], S) = rn xX2_clear (6, [some (.inr (.inl a))], [.inr (.inl a)], S) := rn_step dX2_clear_5 rfl rfl
theorem eX2_clear_6 {l0 : Option VV} {v0 : VV} {S : MM} : rn xX2_clear (6, [l0], [v0], S) = rn xX2_clear (7, [l0], [vI 0, v0], S) := rn_step dX2_clear_6 rfl rfl
theorem eX2_clear_7 {z : Int} {i : Nat} {l0 : Option VV} (h : kd i = 2) {S : MM} : rn xX2_clear (7, [l0], [vI z, vR i], S) = rn xX2_clear (10, [l0], [], updM S i 2 z) := q_put dX2_clear_7 rfl ⟨by decide, by decide⟩ rfl h
theorem eX2_clear_10 {l0 : Option VV} {S : MM} : rn xX2_clear (10, [l0], [], S) = some (none, S) := q_retV dX2_clear_10 rfl
noncomputable def qlX2_rewind : List CE := []
noncomputable def xX2_rewind : XX := (cX2_rewind, fcF fcl2, mcF qlX2_rewind, 0)
noncomputable def fX2_rewind : FN := fnX xX2_rewind 1
set_option maxRecDepth 100000 in
theorem cwX2_rewind : Cond.code yX2_rewind cX2_rewind 1 none ∈ lw_g := lw_gm 706 (by decide +kernel) (by decide +kernel)
set_option maxRecDepth 100000 in
theorem conX2_rewind : Con yX2_rewind cX2_rewind 1 none { frames := 0, cells := 0, slots := 0, locals := 0 } fX2_rewind := con_of (X := xX2_rewind) (own := "LeapStones$Pad") (ql := qlX2_rewind) (by decide) rfl FOK2 rfl (fun _ h => absurd h List.not_mem_nil) (Or.inl ⟨rfl, rfl⟩)
theorem uX2_rewind {i : Nat} {S : MM} : fX2_rewind [vR i] S = rn xX2_rewind (0, [some (vR i)], [], S) := rfl
theorem dX2_rewind_0 : decode cX2_rewind 0 = .ok (.aload_n 0, 1) := by decide +kernel
theorem dX2_rewind_1 : decode cX2_rewind 1 = .ok (.iconst 0, 1) := by decide +kernel
theorem dX2_rewind_2 : decode cX2_rewind 2 = .ok (.putfield 35, 3) := by decide +kernel
theorem dX2_rewind_5 : decode cX2_rewind 5 = .ok (.return_, 1) := by decide +kernel
theorem eX2_rewind_0 {a : Option Nat} {S : MM} : rn xX2_rewind (0, [some (.inr (.inl a))], [], S) = rn xX2_rewind (1, [some (.inr (.inl a))], [.inr (.inl a)], S) := rn_step dX2_rewind_0 rfl rfl
theorem eX2_rewind_1 {l0 : Option VV} {v0 : VV} {S : MM} : rn xX2_rewind (1, [l0], [v0], S) = rn xX2_rewind (2, [l0], [vI 0, v0], S) := rn_step dX2_rewind_1 rfl rfl
theorem eX2_rewind_2 {z : Int} {i : Nat} {l0 : Option VV} (h : kd i = 2) {S : MM} : rn xX2_rewind (2, [l0], [vI z, vR i], S) = rn xX2_rewind (5, [l0], [], updM S i 2 z) := q_put dX2_rewind_2 rfl ⟨by decide, by decide⟩ rfl h
theorem eX2_rewind_5 {l0 : Option VV} {S : MM} : rn xX2_rewind (5, [l0], [], S) = some (none, S) := q_retV dX2_rewind_5 rfl
noncomputable def qlX2_next : List CE := []
noncomputable def xX2_next : XX := (cX2_next, fcF fcl2, mcF qlX2_next, 3)
noncomputable def fX2_next : FN := fnX xX2_next 1
set_option maxRecDepth 100000 in
theorem cwX2_next : Cond.code yX2_next cX2_next 1 (some .char) ∈ lw_g := lw_gm 718 (by decide +kernel) (by decide +kernel)
set_option maxRecDepth 100000 in
theorem conX2_next : Con yX2_next cX2_next 1 (some .char) { frames := 0, cells := 0, slots := 0, locals := 0 } fX2_next := con_of (X := xX2_next) (own := "LeapStones$Pad") (ql := qlX2_next) (by decide) rfl FOK2 rfl (fun _ h => absurd h List.not_mem_nil) (Or.inr (Or.inr (Or.inr (Or.inl ⟨rfl, rfl⟩))))
theorem uX2_next {i : Nat} {S : MM} : fX2_next [vR i] S = rn xX2_next (0, [some (vR i)], [], S) := rfl
theorem dX2_next_0 : decode cX2_next 0 = .ok (.aload_n 0, 1) := by decide +kernel
theorem dX2_next_1 : decode cX2_next 1 = .ok (.getfield 35, 3) := by decide +kernel
theorem dX2_next_4 : decode cX2_next 4 = .ok (.ifCond .lt 26, 3) := by decide +kernel
theorem dX2_next_7 : decode cX2_next 7 = .ok (.aload_n 0, 1) := by decide +kernel
theorem dX2_next_8 : decode cX2_next 8 = .ok (.getfield 35, 3) := by decide +kernel
theorem dX2_next_11 : decode cX2_next 11 = .ok (.aload_n 0, 1) := by decide +kernel
theorem dX2_next_12 : decode cX2_next 12 = .ok (.getfield 15, 3) := by decide +kernel
theorem dX2_next_15 : decode cX2_next 15 = .ok (.if_icmp .ge 15, 3) := by decide +kernel
theorem dX2_next_18 : decode cX2_next 18 = .ok (.aload_n 0, 1) := by decide +kernel
theorem dX2_next_19 : decode cX2_next 19 = .ok (.getfield 9, 3) := by decide +kernel
theorem dX2_next_22 : decode cX2_next 22 = .ok (.aload_n 0, 1) := by decide +kernel
theorem dX2_next_23 : decode cX2_next 23 = .ok (.getfield 35, 3) := by decide +kernel
theorem dX2_next_26 : decode cX2_next 26 = .ok (.caload, 1) := by decide +kernel
theorem dX2_next_27 : decode cX2_next 27 = .ok (.goto 4, 3) := by decide +kernel
theorem dX2_next_30 : decode cX2_next 30 = .ok (.iconst 0, 1) := by decide +kernel
theorem dX2_next_31 : decode cX2_next 31 = .ok (.ireturn, 1) := by decide +kernel
theorem eX2_next_0 {a : Option Nat} {S : MM} : rn xX2_next (0, [some (.inr (.inl a))], [], S) = rn xX2_next (1, [some (.inr (.inl a))], [.inr (.inl a)], S) := rn_step dX2_next_0 rfl rfl
theorem eX2_next_1 {i : Nat} {l0 : Option VV} (h : kd i = 2) {S : MM} : rn xX2_next (1, [l0], [vR i], S) = rn xX2_next (4, [l0], [vI (S i 2)], S) := q_getI dX2_next_1 rfl ⟨⟨by decide, by decide⟩, by decide⟩ h
theorem eX2_next_4 {a : Int} {l0 : Option VV} (h : -2147483648 ≤ a ∧ a ≤ 2147483647) {S : MM} : rn xX2_next (4, [l0], [vI a], S) = if a < 0 then rn xX2_next (30, [l0], [], S) else rn xX2_next (7, [l0], [], S) := q_if_lt dX2_next_4 (by decide) rfl h
theorem eX2_next_7 {a : Option Nat} {S : MM} : rn xX2_next (7, [some (.inr (.inl a))], [], S) = rn xX2_next (8, [some (.inr (.inl a))], [.inr (.inl a)], S) := rn_step dX2_next_7 rfl rfl
theorem eX2_next_8 {i : Nat} {l0 : Option VV} (h : kd i = 2) {S : MM} : rn xX2_next (8, [l0], [vR i], S) = rn xX2_next (11, [l0], [vI (S i 2)], S) := q_getI dX2_next_8 rfl ⟨⟨by decide, by decide⟩, by decide⟩ h
theorem eX2_next_11 {a : Option Nat} {v0 : VV} {S : MM} : rn xX2_next (11, [some (.inr (.inl a))], [v0], S) = rn xX2_next (12, [some (.inr (.inl a))], [.inr (.inl a), v0], S) := rn_step dX2_next_11 rfl rfl
theorem eX2_next_12 {i : Nat} {l0 : Option VV} {v1 : VV} (h : kd i = 2) {S : MM} : rn xX2_next (12, [l0], [vR i, v1], S) = rn xX2_next (15, [l0], [vI (S i 1), v1], S) := q_getI dX2_next_12 rfl ⟨⟨by decide, by decide⟩, by decide⟩ h
theorem eX2_next_15 {a b : Int} {l0 : Option VV} (h : -2147483648 ≤ a ∧ a ≤ 2147483647) (h1 : -2147483648 ≤ b ∧ b ≤ 2147483647) {S : MM} : rn xX2_next (15, [l0], [vI b, vI a], S) = if a < b then rn xX2_next (18, [l0], [], S) else rn xX2_next (30, [l0], [], S) := q_icmp_ge dX2_next_15 (by decide) rfl h h1
theorem eX2_next_18 {a : Option Nat} {S : MM} : rn xX2_next (18, [some (.inr (.inl a))], [], S) = rn xX2_next (19, [some (.inr (.inl a))], [.inr (.inl a)], S) := rn_step dX2_next_18 rfl rfl
theorem eX2_next_19 {i : Nat} {l0 : Option VV} (h : kd i = 2) {S : MM} : rn xX2_next (19, [l0], [vR i], S) = rn xX2_next (22, [l0], [vR (i + 1)], S) := q_getR dX2_next_19 rfl ⟨⟨by decide, by decide⟩, by decide⟩ (fun h => (fref2 h).trans (by first | rfl | omega)) h
theorem eX2_next_22 {a : Option Nat} {v0 : VV} {S : MM} : rn xX2_next (22, [some (.inr (.inl a))], [v0], S) = rn xX2_next (23, [some (.inr (.inl a))], [.inr (.inl a), v0], S) := rn_step dX2_next_22 rfl rfl
theorem eX2_next_23 {i : Nat} {l0 : Option VV} {v1 : VV} (h : kd i = 2) {S : MM} : rn xX2_next (23, [l0], [vR i, v1], S) = rn xX2_next (26, [l0], [vI (S i 2), v1], S) := q_getI dX2_next_23 rfl ⟨⟨by decide, by decide⟩, by decide⟩ h
theorem eX2_next_26 {i : Nat} {j : Int} {l0 : Option VV} (h : kd i = 12) (h0 : 0 ≤ j) (h1 : j < alen i) {S : MM} : rn xX2_next (26, [l0], [vI j, vR i], S) = rn xX2_next (27, [l0], [vI (S i j.toNat)], S) := q_cald dX2_next_26 h h0 h1
theorem eX2_next_27 {l0 : Option VV} {v0 : VV} {S : MM} : rn xX2_next (27, [l0], [v0], S) = rn xX2_next (31, [l0], [v0], S) := rn_step dX2_next_27 rfl rfl
theorem eX2_next_30 {l0 : Option VV} {S : MM} : rn xX2_next (30, [l0], [], S) = rn xX2_next (31, [l0], [vI 0], S) := rn_step dX2_next_30 rfl rfl
theorem eX2_next_31 {z : Int} {l0 : Option VV} (hz : 0 ≤ z ∧ z ≤ 65535) {S : MM} : rn xX2_next (31, [l0], [vI z], S) = some (some (vI z), S) := q_retC dX2_next_31 rfl hz
noncomputable def qlX2_pass : List CE := [(0, 59, 2, 1, fX2_next)]
noncomputable def xX2_pass : XX := (cX2_pass, fcF fcl2, mcF qlX2_pass, 2)
noncomputable def fX2_pass : FN := fnX xX2_pass 2
set_option maxRecDepth 100000 in
theorem cwX2_pass : Cond.code yX2_pass cX2_pass 2 (some .boolean) ∈ lw_g := lw_gm 726 (by decide +kernel) (by decide +kernel)
set_option maxRecDepth 100000 in
theorem conX2_pass : Con yX2_pass cX2_pass 2 (some .boolean) { frames := 1, cells := 0, slots := 0, locals := 20 } fX2_pass := con_of (X := xX2_pass) (own := "LeapStones$Pad") (ql := qlX2_pass) (by decide) rfl FOK2 rfl (List.forall_mem_cons.mpr ⟨call_V conX2_next cwX2_next (lw_gl _ [715, 717, 10, 29] (by decide +kernel) (by decide +kernel)) (by decide) rfl ⟨by decide, by decide, by decide +kernel⟩ ⟨rfl, rfl⟩ ⟨by decide, by decide⟩ ⟨Nat.le_refl _, Nat.le_refl _⟩, fun _ h => absurd h List.not_mem_nil⟩) (Or.inr (Or.inr (Or.inl ⟨rfl, rfl⟩)))
theorem uX2_pass {i : Nat} {a0 : Int} {S : MM} : fX2_pass [vR i, vI a0] S = rn xX2_pass (0, [some (vR i), some (vI a0)], [], S) := rfl
theorem dX2_pass_0 : decode cX2_pass 0 = .ok (.aload_n 0, 1) := by decide +kernel
theorem dX2_pass_1 : decode cX2_pass 1 = .ok (.invokevirtual 59, 3) := by decide +kernel
theorem dX2_pass_4 : decode cX2_pass 4 = .ok (.iload_n 1, 1) := by decide +kernel
theorem dX2_pass_5 : decode cX2_pass 5 = .ok (.if_icmp .eq 5, 3) := by decide +kernel
theorem dX2_pass_8 : decode cX2_pass 8 = .ok (.iconst 0, 1) := by decide +kernel
theorem dX2_pass_9 : decode cX2_pass 9 = .ok (.ireturn, 1) := by decide +kernel
theorem dX2_pass_10 : decode cX2_pass 10 = .ok (.aload_n 0, 1) := by decide +kernel
theorem dX2_pass_11 : decode cX2_pass 11 = .ok (.dup, 1) := by decide +kernel
theorem dX2_pass_12 : decode cX2_pass 12 = .ok (.getfield 35, 3) := by decide +kernel
theorem dX2_pass_15 : decode cX2_pass 15 = .ok (.iconst 1, 1) := by decide +kernel
theorem dX2_pass_16 : decode cX2_pass 16 = .ok (.iadd, 1) := by decide +kernel
theorem dX2_pass_17 : decode cX2_pass 17 = .ok (.putfield 35, 3) := by decide +kernel
theorem dX2_pass_20 : decode cX2_pass 20 = .ok (.iconst 1, 1) := by decide +kernel
theorem dX2_pass_21 : decode cX2_pass 21 = .ok (.ireturn, 1) := by decide +kernel
theorem eX2_pass_0 {a : Option Nat} {l1 : Option VV} {S : MM} : rn xX2_pass (0, [some (.inr (.inl a)), l1], [], S) = rn xX2_pass (1, [some (.inr (.inl a)), l1], [.inr (.inl a)], S) := rn_step dX2_pass_0 rfl rfl
theorem eX2_pass_1 {i : Nat} {l0 l1 : Option VV} (h : kd i = 2) {S : MM} : rn xX2_pass (1, [l0, l1], [vR i], S) = (fX2_next [vR i] S).bind (fun q => rn xX2_pass (4, [l0, l1], q.1.toList ++ [], q.2)) := q_callV (n := 0) (as := []) (rest := []) dX2_pass_1 rfl rfl rfl rfl h
theorem eX2_pass_4 {a : Int} {l0 : Option VV} {v0 : VV} {S : MM} : rn xX2_pass (4, [l0, some (vI a)], [v0], S) = rn xX2_pass (5, [l0, some (vI a)], [vI a, v0], S) := rn_step dX2_pass_4 rfl rfl
theorem eX2_pass_5 {a b : Int} {l0 l1 : Option VV} (h : -2147483648 ≤ a ∧ a ≤ 2147483647) (h1 : -2147483648 ≤ b ∧ b ≤ 2147483647) {S : MM} : rn xX2_pass (5, [l0, l1], [vI b, vI a], S) = if a = b then rn xX2_pass (10, [l0, l1], [], S) else rn xX2_pass (8, [l0, l1], [], S) := q_icmp_eq dX2_pass_5 (by decide) rfl h h1
theorem eX2_pass_8 {l0 l1 : Option VV} {S : MM} : rn xX2_pass (8, [l0, l1], [], S) = rn xX2_pass (9, [l0, l1], [vI 0], S) := rn_step dX2_pass_8 rfl rfl
theorem eX2_pass_9 {z : Int} {l0 l1 : Option VV} (hz : z = 0 ∨ z = 1) {S : MM} : rn xX2_pass (9, [l0, l1], [vI z], S) = some (some (vI z), S) := q_retZ dX2_pass_9 rfl hz
theorem eX2_pass_10 {a : Option Nat} {l1 : Option VV} {S : MM} : rn xX2_pass (10, [some (.inr (.inl a)), l1], [], S) = rn xX2_pass (11, [some (.inr (.inl a)), l1], [.inr (.inl a)], S) := rn_step dX2_pass_10 rfl rfl
theorem eX2_pass_11 {a : Option Nat} {l0 l1 : Option VV} {S : MM} : rn xX2_pass (11, [l0, l1], [.inr (.inl a)], S) = rn xX2_pass (12, [l0, l1], [.inr (.inl a), .inr (.inl a)], S) := rn_step dX2_pass_11 rfl rfl
theorem eX2_pass_12 {i : Nat} {l0 l1 : Option VV} {v1 : VV} (h : kd i = 2) {S : MM} : rn xX2_pass (12, [l0, l1], [vR i, v1], S) = rn xX2_pass (15, [l0, l1], [vI (S i 2), v1], S) := q_getI dX2_pass_12 rfl ⟨⟨by decide, by decide⟩, by decide⟩ h
theorem eX2_pass_15 {l0 l1 : Option VV} {v0 v1 : VV} {S : MM} : rn xX2_pass (15, [l0, l1], [v0, v1], S) = rn xX2_pass (16, [l0, l1], [vI 1, v0, v1], S) := rn_step dX2_pass_15 rfl rfl
theorem eX2_pass_16 {a b : Int} {l0 l1 : Option VV} {v2 : VV} {S : MM} : rn xX2_pass (16, [l0, l1], [vI b, vI a, v2], S) = rn xX2_pass (17, [l0, l1], [vI (a + b), v2], S) := rn_step dX2_pass_16 rfl rfl
theorem eX2_pass_17 {z : Int} {i : Nat} {l0 l1 : Option VV} (h : kd i = 2) {S : MM} : rn xX2_pass (17, [l0, l1], [vI z, vR i], S) = rn xX2_pass (20, [l0, l1], [], updM S i 2 z) := q_put dX2_pass_17 rfl ⟨by decide, by decide⟩ rfl h
theorem eX2_pass_20 {l0 l1 : Option VV} {S : MM} : rn xX2_pass (20, [l0, l1], [], S) = rn xX2_pass (21, [l0, l1], [vI 1], S) := rn_step dX2_pass_20 rfl rfl
theorem eX2_pass_21 {z : Int} {l0 l1 : Option VV} (hz : z = 0 ∨ z = 1) {S : MM} : rn xX2_pass (21, [l0, l1], [vI z], S) = some (some (vI z), S) := q_retZ dX2_pass_21 rfl hz
noncomputable def qlX2_readWalker : List CE := [(0, 59, 2, 1, fX2_next), (1, 52, 0, 3, fX8_isBetween)]
noncomputable def xX2_readWalker : XX := (cX2_readWalker, fcF fcl2, mcF qlX2_readWalker, 2)
noncomputable def fX2_readWalker : FN := fnX xX2_readWalker 1
set_option maxRecDepth 100000 in
theorem cwX2_readWalker : Cond.code yX2_readWalker cX2_readWalker 1 (some .boolean) ∈ lw_g := lw_gm 730 (by decide +kernel) (by decide +kernel)
set_option maxRecDepth 100000 in
theorem conX2_readWalker : Con yX2_readWalker cX2_readWalker 1 (some .boolean) { frames := 1, cells := 0, slots := 0, locals := 22 } fX2_readWalker := con_of (X := xX2_readWalker) (own := "LeapStones$Pad") (ql := qlX2_readWalker) (by decide) rfl FOK2 rfl (List.forall_mem_cons.mpr ⟨call_V conX2_next cwX2_next (lw_gl _ [715, 717, 10, 29] (by decide +kernel) (by decide +kernel)) (by decide) rfl ⟨by decide, by decide, by decide +kernel⟩ ⟨rfl, rfl⟩ ⟨by decide, by decide⟩ ⟨Nat.le_refl _, Nat.le_refl _⟩, List.forall_mem_cons.mpr ⟨call_N conX8_isBetween cwX8_isBetween (lw_gl _ [251, 21] (by decide +kernel) (by decide +kernel)) (List.mem_of_getElem? (i := 27) (by decide +kernel)) ⟨by decide, by decide, by decide +kernel⟩ ⟨rfl, rfl⟩ ⟨by decide, by decide⟩ ⟨Nat.le_refl _, Nat.le_refl _⟩, fun _ h => absurd h List.not_mem_nil⟩⟩) (Or.inr (Or.inr (Or.inl ⟨rfl, rfl⟩)))
theorem uX2_readWalker {i : Nat} {S : MM} : fX2_readWalker [vR i] S = rn xX2_readWalker (0, [some (vR i)], [], S) := rfl
theorem dX2_readWalker_0 : decode cX2_readWalker 0 = .ok (.aload_n 0, 1) := by decide +kernel
theorem dX2_readWalker_1 : decode cX2_readWalker 1 = .ok (.invokevirtual 59, 3) := by decide +kernel
theorem dX2_readWalker_4 : decode cX2_readWalker 4 = .ok (.bipush 48, 2) := by decide +kernel
theorem dX2_readWalker_6 : decode cX2_readWalker 6 = .ok (.bipush 50, 2) := by decide +kernel
theorem dX2_readWalker_8 : decode cX2_readWalker 8 = .ok (.invokestatic 52, 3) := by decide +kernel
theorem dX2_readWalker_11 : decode cX2_readWalker 11 = .ok (.ifCond .ne 5, 3) := by decide +kernel
theorem dX2_readWalker_14 : decode cX2_readWalker 14 = .ok (.iconst 0, 1) := by decide +kernel
theorem dX2_readWalker_15 : decode cX2_readWalker 15 = .ok (.ireturn, 1) := by decide +kernel
theorem dX2_readWalker_16 : decode cX2_readWalker 16 = .ok (.aload_n 0, 1) := by decide +kernel
theorem dX2_readWalker_17 : decode cX2_readWalker 17 = .ok (.aload_n 0, 1) := by decide +kernel
theorem dX2_readWalker_18 : decode cX2_readWalker 18 = .ok (.invokevirtual 59, 3) := by decide +kernel
theorem dX2_readWalker_21 : decode cX2_readWalker 21 = .ok (.bipush 48, 2) := by decide +kernel
theorem dX2_readWalker_23 : decode cX2_readWalker 23 = .ok (.isub, 1) := by decide +kernel
theorem dX2_readWalker_24 : decode cX2_readWalker 24 = .ok (.putfield 23, 3) := by decide +kernel
theorem dX2_readWalker_27 : decode cX2_readWalker 27 = .ok (.aload_n 0, 1) := by decide +kernel
theorem dX2_readWalker_28 : decode cX2_readWalker 28 = .ok (.dup, 1) := by decide +kernel
theorem dX2_readWalker_29 : decode cX2_readWalker 29 = .ok (.getfield 35, 3) := by decide +kernel
theorem dX2_readWalker_32 : decode cX2_readWalker 32 = .ok (.iconst 1, 1) := by decide +kernel
theorem dX2_readWalker_33 : decode cX2_readWalker 33 = .ok (.iadd, 1) := by decide +kernel
theorem dX2_readWalker_34 : decode cX2_readWalker 34 = .ok (.putfield 35, 3) := by decide +kernel
theorem dX2_readWalker_37 : decode cX2_readWalker 37 = .ok (.iconst 1, 1) := by decide +kernel
theorem dX2_readWalker_38 : decode cX2_readWalker 38 = .ok (.ireturn, 1) := by decide +kernel
theorem eX2_readWalker_0 {a : Option Nat} {S : MM} : rn xX2_readWalker (0, [some (.inr (.inl a))], [], S) = rn xX2_readWalker (1, [some (.inr (.inl a))], [.inr (.inl a)], S) := rn_step dX2_readWalker_0 rfl rfl
theorem eX2_readWalker_1 {i : Nat} {l0 : Option VV} (h : kd i = 2) {S : MM} : rn xX2_readWalker (1, [l0], [vR i], S) = (fX2_next [vR i] S).bind (fun q => rn xX2_readWalker (4, [l0], q.1.toList ++ [], q.2)) := q_callV (n := 0) (as := []) (rest := []) dX2_readWalker_1 rfl rfl rfl rfl h
theorem eX2_readWalker_4 {l0 : Option VV} {v0 : VV} {S : MM} : rn xX2_readWalker (4, [l0], [v0], S) = rn xX2_readWalker (6, [l0], [vI 48, v0], S) := rn_step dX2_readWalker_4 rfl rfl
theorem eX2_readWalker_6 {l0 : Option VV} {v0 v1 : VV} {S : MM} : rn xX2_readWalker (6, [l0], [v0, v1], S) = rn xX2_readWalker (8, [l0], [vI 50, v0, v1], S) := rn_step dX2_readWalker_6 rfl rfl
theorem eX2_readWalker_8 {a0 : Int} {a1 : Int} {a2 : Int} {l0 : Option VV} {S : MM} : rn xX2_readWalker (8, [l0], [vI a2, vI a1, vI a0], S) = (fX8_isBetween [vI a0, vI a1, vI a2] S).bind (fun q => rn xX2_readWalker (11, [l0], q.1.toList ++ [], q.2)) := q_callS (n := 3) (as := [vI a0, vI a1, vI a2]) (rest := []) dX2_readWalker_8 rfl rfl rfl rfl
theorem eX2_readWalker_11 {a : Int} {l0 : Option VV} (h : -2147483648 ≤ a ∧ a ≤ 2147483647) {S : MM} : rn xX2_readWalker (11, [l0], [vI a], S) = if a = 0 then rn xX2_readWalker (14, [l0], [], S) else rn xX2_readWalker (16, [l0], [], S) := q_if_ne dX2_readWalker_11 (by decide) rfl h
theorem eX2_readWalker_14 {l0 : Option VV} {S : MM} : rn xX2_readWalker (14, [l0], [], S) = rn xX2_readWalker (15, [l0], [vI 0], S) := rn_step dX2_readWalker_14 rfl rfl
theorem eX2_readWalker_15 {z : Int} {l0 : Option VV} (hz : z = 0 ∨ z = 1) {S : MM} : rn xX2_readWalker (15, [l0], [vI z], S) = some (some (vI z), S) := q_retZ dX2_readWalker_15 rfl hz
theorem eX2_readWalker_16 {a : Option Nat} {S : MM} : rn xX2_readWalker (16, [some (.inr (.inl a))], [], S) = rn xX2_readWalker (17, [some (.inr (.inl a))], [.inr (.inl a)], S) := rn_step dX2_readWalker_16 rfl rfl
theorem eX2_readWalker_17 {a : Option Nat} {v0 : VV} {S : MM} : rn xX2_readWalker (17, [some (.inr (.inl a))], [v0], S) = rn xX2_readWalker (18, [some (.inr (.inl a))], [.inr (.inl a), v0], S) := rn_step dX2_readWalker_17 rfl rfl
theorem eX2_readWalker_18 {i : Nat} {l0 : Option VV} {v1 : VV} (h : kd i = 2) {S : MM} : rn xX2_readWalker (18, [l0], [vR i, v1], S) = (fX2_next [vR i] S).bind (fun q => rn xX2_readWalker (21, [l0], q.1.toList ++ [v1], q.2)) := q_callV (n := 0) (as := []) (rest := [v1]) dX2_readWalker_18 rfl rfl rfl rfl h
theorem eX2_readWalker_21 {l0 : Option VV} {v0 v1 : VV} {S : MM} : rn xX2_readWalker (21, [l0], [v0, v1], S) = rn xX2_readWalker (23, [l0], [vI 48, v0, v1], S) := rn_step dX2_readWalker_21 rfl rfl
theorem eX2_readWalker_23 {a b : Int} {l0 : Option VV} {v2 : VV} {S : MM} : rn xX2_readWalker (23, [l0], [vI b, vI a, v2], S) = rn xX2_readWalker (24, [l0], [vI (a - b), v2], S) := rn_step dX2_readWalker_23 rfl rfl
theorem eX2_readWalker_24 {z : Int} {i : Nat} {l0 : Option VV} (h : kd i = 2) {S : MM} : rn xX2_readWalker (24, [l0], [vI z, vR i], S) = rn xX2_readWalker (27, [l0], [], updM S i 4 z) := q_put dX2_readWalker_24 rfl ⟨by decide, by decide⟩ rfl h
theorem eX2_readWalker_27 {a : Option Nat} {S : MM} : rn xX2_readWalker (27, [some (.inr (.inl a))], [], S) = rn xX2_readWalker (28, [some (.inr (.inl a))], [.inr (.inl a)], S) := rn_step dX2_readWalker_27 rfl rfl
theorem eX2_readWalker_28 {a : Option Nat} {l0 : Option VV} {S : MM} : rn xX2_readWalker (28, [l0], [.inr (.inl a)], S) = rn xX2_readWalker (29, [l0], [.inr (.inl a), .inr (.inl a)], S) := rn_step dX2_readWalker_28 rfl rfl
theorem eX2_readWalker_29 {i : Nat} {l0 : Option VV} {v1 : VV} (h : kd i = 2) {S : MM} : rn xX2_readWalker (29, [l0], [vR i, v1], S) = rn xX2_readWalker (32, [l0], [vI (S i 2), v1], S) := q_getI dX2_readWalker_29 rfl ⟨⟨by decide, by decide⟩, by decide⟩ h
theorem eX2_readWalker_32 {l0 : Option VV} {v0 v1 : VV} {S : MM} : rn xX2_readWalker (32, [l0], [v0, v1], S) = rn xX2_readWalker (33, [l0], [vI 1, v0, v1], S) := rn_step dX2_readWalker_32 rfl rfl
theorem eX2_readWalker_33 {a b : Int} {l0 : Option VV} {v2 : VV} {S : MM} : rn xX2_readWalker (33, [l0], [vI b, vI a, v2], S) = rn xX2_readWalker (34, [l0], [vI (a + b), v2], S) := rn_step dX2_readWalker_33 rfl rfl
theorem eX2_readWalker_34 {z : Int} {i : Nat} {l0 : Option VV} (h : kd i = 2) {S : MM} : rn xX2_readWalker (34, [l0], [vI z, vR i], S) = rn xX2_readWalker (37, [l0], [], updM S i 2 z) := q_put dX2_readWalker_34 rfl ⟨by decide, by decide⟩ rfl h
theorem eX2_readWalker_37 {l0 : Option VV} {S : MM} : rn xX2_readWalker (37, [l0], [], S) = rn xX2_readWalker (38, [l0], [vI 1], S) := rn_step dX2_readWalker_37 rfl rfl
theorem eX2_readWalker_38 {z : Int} {l0 : Option VV} (hz : z = 0 ∨ z = 1) {S : MM} : rn xX2_readWalker (38, [l0], [vI z], S) = some (some (vI z), S) := q_retZ dX2_readWalker_38 rfl hz
noncomputable def qlX2_readKey : List CE := [(0, 59, 2, 1, fX2_next), (1, 52, 0, 3, fX8_isBetween)]
noncomputable def xX2_readKey : XX := (cX2_readKey, fcF fcl2, mcF qlX2_readKey, 1)
noncomputable def fX2_readKey : FN := fnX xX2_readKey 5
set_option maxRecDepth 100000 in
theorem cwX2_readKey : Cond.code yX2_readKey cX2_readKey 5 (some .int) ∈ lw_g := lw_gm 735 (by decide +kernel) (by decide +kernel)
set_option maxRecDepth 100000 in
theorem conX2_readKey : Con yX2_readKey cX2_readKey 5 (some .int) { frames := 1, cells := 0, slots := 0, locals := 22 } fX2_readKey := con_of (X := xX2_readKey) (own := "LeapStones$Pad") (ql := qlX2_readKey) (by decide) rfl FOK2 rfl (List.forall_mem_cons.mpr ⟨call_V conX2_next cwX2_next (lw_gl _ [715, 717, 10, 29] (by decide +kernel) (by decide +kernel)) (by decide) rfl ⟨by decide, by decide, by decide +kernel⟩ ⟨rfl, rfl⟩ ⟨by decide, by decide⟩ ⟨Nat.le_refl _, Nat.le_refl _⟩, List.forall_mem_cons.mpr ⟨call_N conX8_isBetween cwX8_isBetween (lw_gl _ [251, 21] (by decide +kernel) (by decide +kernel)) (List.mem_of_getElem? (i := 27) (by decide +kernel)) ⟨by decide, by decide, by decide +kernel⟩ ⟨rfl, rfl⟩ ⟨by decide, by decide⟩ ⟨Nat.le_refl _, Nat.le_refl _⟩, fun _ h => absurd h List.not_mem_nil⟩⟩) (Or.inr (Or.inl ⟨rfl, rfl⟩))
theorem uX2_readKey {i : Nat} {S : MM} : fX2_readKey [vR i] S = rn xX2_readKey (0, [some (vR i), none, none, none, none], [], S) := rfl
theorem dX2_readKey_0 : decode cX2_readKey 0 = .ok (.bipush (-6), 2) := by decide +kernel
theorem dX2_readKey_2 : decode cX2_readKey 2 = .ok (.istore_n 1, 1) := by decide +kernel
theorem dX2_readKey_3 : decode cX2_readKey 3 = .ok (.iconst 0, 1) := by decide +kernel
theorem dX2_readKey_4 : decode cX2_readKey 4 = .ok (.istore_n 2, 1) := by decide +kernel
theorem dX2_readKey_5 : decode cX2_readKey 5 = .ok (.iload_n 2, 1) := by decide +kernel
theorem dX2_readKey_6 : decode cX2_readKey 6 = .ok (.iconst 3, 1) := by decide +kernel
theorem dX2_readKey_7 : decode cX2_readKey 7 = .ok (.if_icmp .ge 77, 3) := by decide +kernel
theorem dX2_readKey_10 : decode cX2_readKey 10 = .ok (.aload_n 0, 1) := by decide +kernel
theorem dX2_readKey_11 : decode cX2_readKey 11 = .ok (.invokevirtual 59, 3) := by decide +kernel
theorem dX2_readKey_14 : decode cX2_readKey 14 = .ok (.bipush 48, 2) := by decide +kernel
theorem dX2_readKey_16 : decode cX2_readKey 16 = .ok (.bipush 57, 2) := by decide +kernel
theorem dX2_readKey_18 : decode cX2_readKey 18 = .ok (.invokestatic 52, 3) := by decide +kernel
theorem dX2_readKey_21 : decode cX2_readKey 21 = .ok (.ifCond .eq 63, 3) := by decide +kernel
theorem dX2_readKey_24 : decode cX2_readKey 24 = .ok (.aload_n 0, 1) := by decide +kernel
theorem dX2_readKey_25 : decode cX2_readKey 25 = .ok (.invokevirtual 59, 3) := by decide +kernel
theorem dX2_readKey_28 : decode cX2_readKey 28 = .ok (.bipush 48, 2) := by decide +kernel
theorem dX2_readKey_30 : decode cX2_readKey 30 = .ok (.isub, 1) := by decide +kernel
theorem dX2_readKey_31 : decode cX2_readKey 31 = .ok (.istore_n 3, 1) := by decide +kernel
theorem dX2_readKey_32 : decode cX2_readKey 32 = .ok (.iload_n 1, 1) := by decide +kernel
theorem dX2_readKey_33 : decode cX2_readKey 33 = .ok (.bipush (-6), 2) := by decide +kernel
theorem dX2_readKey_35 : decode cX2_readKey 35 = .ok (.if_icmp .ne 7, 3) := by decide +kernel
theorem dX2_readKey_38 : decode cX2_readKey 38 = .ok (.iload_n 3, 1) := by decide +kernel
theorem dX2_readKey_39 : decode cX2_readKey 39 = .ok (.goto 9, 3) := by decide +kernel
theorem dX2_readKey_42 : decode cX2_readKey 42 = .ok (.bipush 10, 2) := by decide +kernel
theorem dX2_readKey_44 : decode cX2_readKey 44 = .ok (.iload_n 1, 1) := by decide +kernel
theorem dX2_readKey_45 : decode cX2_readKey 45 = .ok (.imul, 1) := by decide +kernel
theorem dX2_readKey_46 : decode cX2_readKey 46 = .ok (.iload_n 3, 1) := by decide +kernel
theorem dX2_readKey_47 : decode cX2_readKey 47 = .ok (.iadd, 1) := by decide +kernel
theorem dX2_readKey_48 : decode cX2_readKey 48 = .ok (.istore 4, 2) := by decide +kernel
theorem dX2_readKey_50 : decode cX2_readKey 50 = .ok (.iload_n 1, 1) := by decide +kernel
theorem dX2_readKey_51 : decode cX2_readKey 51 = .ok (.ifCond .eq 33, 3) := by decide +kernel
theorem dX2_readKey_54 : decode cX2_readKey 54 = .ok (.iload 4, 2) := by decide +kernel
theorem dX2_readKey_56 : decode cX2_readKey 56 = .ok (.sipush 299, 3) := by decide +kernel
theorem dX2_readKey_59 : decode cX2_readKey 59 = .ok (.if_icmp .le 6, 3) := by decide +kernel
theorem dX2_readKey_62 : decode cX2_readKey 62 = .ok (.goto 22, 3) := by decide +kernel
theorem dX2_readKey_65 : decode cX2_readKey 65 = .ok (.iload 4, 2) := by decide +kernel
theorem dX2_readKey_67 : decode cX2_readKey 67 = .ok (.istore_n 1, 1) := by decide +kernel
theorem dX2_readKey_68 : decode cX2_readKey 68 = .ok (.aload_n 0, 1) := by decide +kernel
theorem dX2_readKey_69 : decode cX2_readKey 69 = .ok (.dup, 1) := by decide +kernel
theorem dX2_readKey_70 : decode cX2_readKey 70 = .ok (.getfield 35, 3) := by decide +kernel
theorem dX2_readKey_73 : decode cX2_readKey 73 = .ok (.iconst 1, 1) := by decide +kernel
theorem dX2_readKey_74 : decode cX2_readKey 74 = .ok (.iadd, 1) := by decide +kernel
theorem dX2_readKey_75 : decode cX2_readKey 75 = .ok (.putfield 35, 3) := by decide +kernel
theorem dX2_readKey_78 : decode cX2_readKey 78 = .ok (.iinc 2 1, 3) := by decide +kernel
theorem dX2_readKey_81 : decode cX2_readKey 81 = .ok (.goto (-76), 3) := by decide +kernel
theorem dX2_readKey_84 : decode cX2_readKey 84 = .ok (.iload_n 1, 1) := by decide +kernel
theorem dX2_readKey_85 : decode cX2_readKey 85 = .ok (.ireturn, 1) := by decide +kernel
theorem eX2_readKey_0 {l0 l1 l2 l3 l4 : Option VV} {S : MM} : rn xX2_readKey (0, [l0, l1, l2, l3, l4], [], S) = rn xX2_readKey (2, [l0, l1, l2, l3, l4], [vI (-6)], S) := rn_step dX2_readKey_0 rfl rfl
theorem eX2_readKey_2 {a : Int} {w : Option Nat} {l1 l2 l3 l4 : Option VV} {S : MM} : rn xX2_readKey (2, [some (.inr (.inl w)), l1, l2, l3, l4], [vI a], S) = rn xX2_readKey (3, [some (.inr (.inl w)), some (vI a), l2, l3, l4], [], S) := rn_step dX2_readKey_2 rfl rfl
theorem eX2_readKey_3 {l0 l1 l2 l3 l4 : Option VV} {S : MM} : rn xX2_readKey (3, [l0, l1, l2, l3, l4], [], S) = rn xX2_readKey (4, [l0, l1, l2, l3, l4], [vI 0], S) := rn_step dX2_readKey_3 rfl rfl
theorem eX2_readKey_4 {a : Int} {w : Int} {l0 l2 l3 l4 : Option VV} {S : MM} : rn xX2_readKey (4, [l0, some (vI w), l2, l3, l4], [vI a], S) = rn xX2_readKey (5, [l0, some (vI w), some (vI a), l3, l4], [], S) := rn_step dX2_readKey_4 rfl rfl
theorem eX2_readKey_5 {a : Int} {l0 l1 l3 l4 : Option VV} {S : MM} : rn xX2_readKey (5, [l0, l1, some (vI a), l3, l4], [], S) = rn xX2_readKey (6, [l0, l1, some (vI a), l3, l4], [vI a], S) := rn_step dX2_readKey_5 rfl rfl
theorem eX2_readKey_6 {l0 l1 l2 l3 l4 : Option VV} {v0 : VV} {S : MM} : rn xX2_readKey (6, [l0, l1, l2, l3, l4], [v0], S) = rn xX2_readKey (7, [l0, l1, l2, l3, l4], [vI 3, v0], S) := rn_step dX2_readKey_6 rfl rfl
theorem eX2_readKey_7 {a b : Int} {l0 l1 l2 l3 l4 : Option VV} (h : -2147483648 ≤ a ∧ a ≤ 2147483647) (h1 : -2147483648 ≤ b ∧ b ≤ 2147483647) {S : MM} : rn xX2_readKey (7, [l0, l1, l2, l3, l4], [vI b, vI a], S) = if a < b then rn xX2_readKey (10, [l0, l1, l2, l3, l4], [], S) else rn xX2_readKey (84, [l0, l1, l2, l3, l4], [], S) := q_icmp_ge dX2_readKey_7 (by decide) rfl h h1
theorem eX2_readKey_10 {a : Option Nat} {l1 l2 l3 l4 : Option VV} {S : MM} : rn xX2_readKey (10, [some (.inr (.inl a)), l1, l2, l3, l4], [], S) = rn xX2_readKey (11, [some (.inr (.inl a)), l1, l2, l3, l4], [.inr (.inl a)], S) := rn_step dX2_readKey_10 rfl rfl
theorem eX2_readKey_11 {i : Nat} {l0 l1 l2 l3 l4 : Option VV} (h : kd i = 2) {S : MM} : rn xX2_readKey (11, [l0, l1, l2, l3, l4], [vR i], S) = (fX2_next [vR i] S).bind (fun q => rn xX2_readKey (14, [l0, l1, l2, l3, l4], q.1.toList ++ [], q.2)) := q_callV (n := 0) (as := []) (rest := []) dX2_readKey_11 rfl rfl rfl rfl h
theorem eX2_readKey_14 {l0 l1 l2 l3 l4 : Option VV} {v0 : VV} {S : MM} : rn xX2_readKey (14, [l0, l1, l2, l3, l4], [v0], S) = rn xX2_readKey (16, [l0, l1, l2, l3, l4], [vI 48, v0], S) := rn_step dX2_readKey_14 rfl rfl
theorem eX2_readKey_16 {l0 l1 l2 l3 l4 : Option VV} {v0 v1 : VV} {S : MM} : rn xX2_readKey (16, [l0, l1, l2, l3, l4], [v0, v1], S) = rn xX2_readKey (18, [l0, l1, l2, l3, l4], [vI 57, v0, v1], S) := rn_step dX2_readKey_16 rfl rfl
theorem eX2_readKey_18 {a0 : Int} {a1 : Int} {a2 : Int} {l0 l1 l2 l3 l4 : Option VV} {S : MM} : rn xX2_readKey (18, [l0, l1, l2, l3, l4], [vI a2, vI a1, vI a0], S) = (fX8_isBetween [vI a0, vI a1, vI a2] S).bind (fun q => rn xX2_readKey (21, [l0, l1, l2, l3, l4], q.1.toList ++ [], q.2)) := q_callS (n := 3) (as := [vI a0, vI a1, vI a2]) (rest := []) dX2_readKey_18 rfl rfl rfl rfl
theorem eX2_readKey_21 {a : Int} {l0 l1 l2 l3 l4 : Option VV} (h : -2147483648 ≤ a ∧ a ≤ 2147483647) {S : MM} : rn xX2_readKey (21, [l0, l1, l2, l3, l4], [vI a], S) = if a = 0 then rn xX2_readKey (84, [l0, l1, l2, l3, l4], [], S) else rn xX2_readKey (24, [l0, l1, l2, l3, l4], [], S) := q_if_eq dX2_readKey_21 (by decide) rfl h
theorem eX2_readKey_24 {a : Option Nat} {l1 l2 l3 l4 : Option VV} {S : MM} : rn xX2_readKey (24, [some (.inr (.inl a)), l1, l2, l3, l4], [], S) = rn xX2_readKey (25, [some (.inr (.inl a)), l1, l2, l3, l4], [.inr (.inl a)], S) := rn_step dX2_readKey_24 rfl rfl
theorem eX2_readKey_25 {i : Nat} {l0 l1 l2 l3 l4 : Option VV} (h : kd i = 2) {S : MM} : rn xX2_readKey (25, [l0, l1, l2, l3, l4], [vR i], S) = (fX2_next [vR i] S).bind (fun q => rn xX2_readKey (28, [l0, l1, l2, l3, l4], q.1.toList ++ [], q.2)) := q_callV (n := 0) (as := []) (rest := []) dX2_readKey_25 rfl rfl rfl rfl h
theorem eX2_readKey_28 {l0 l1 l2 l3 l4 : Option VV} {v0 : VV} {S : MM} : rn xX2_readKey (28, [l0, l1, l2, l3, l4], [v0], S) = rn xX2_readKey (30, [l0, l1, l2, l3, l4], [vI 48, v0], S) := rn_step dX2_readKey_28 rfl rfl
theorem eX2_readKey_30 {a b : Int} {l0 l1 l2 l3 l4 : Option VV} {S : MM} : rn xX2_readKey (30, [l0, l1, l2, l3, l4], [vI b, vI a], S) = rn xX2_readKey (31, [l0, l1, l2, l3, l4], [vI (a - b)], S) := rn_step dX2_readKey_30 rfl rfl
theorem eX2_readKey_31 {a : Int} {w : Int} {l0 l1 l3 l4 : Option VV} {S : MM} : rn xX2_readKey (31, [l0, l1, some (vI w), l3, l4], [vI a], S) = rn xX2_readKey (32, [l0, l1, some (vI w), some (vI a), l4], [], S) := rn_step dX2_readKey_31 rfl rfl
theorem eX2_readKey_32 {a : Int} {l0 l2 l3 l4 : Option VV} {S : MM} : rn xX2_readKey (32, [l0, some (vI a), l2, l3, l4], [], S) = rn xX2_readKey (33, [l0, some (vI a), l2, l3, l4], [vI a], S) := rn_step dX2_readKey_32 rfl rfl
theorem eX2_readKey_33 {l0 l1 l2 l3 l4 : Option VV} {v0 : VV} {S : MM} : rn xX2_readKey (33, [l0, l1, l2, l3, l4], [v0], S) = rn xX2_readKey (35, [l0, l1, l2, l3, l4], [vI (-6), v0], S) := rn_step dX2_readKey_33 rfl rfl
theorem eX2_readKey_35 {a b : Int} {l0 l1 l2 l3 l4 : Option VV} (h : -2147483648 ≤ a ∧ a ≤ 2147483647) (h1 : -2147483648 ≤ b ∧ b ≤ 2147483647) {S : MM} : rn xX2_readKey (35, [l0, l1, l2, l3, l4], [vI b, vI a], S) = if a = b then rn xX2_readKey (38, [l0, l1, l2, l3, l4], [], S) else rn xX2_readKey (42, [l0, l1, l2, l3, l4], [], S) := q_icmp_ne dX2_readKey_35 (by decide) rfl h h1
theorem eX2_readKey_38 {a : Int} {l0 l1 l2 l4 : Option VV} {S : MM} : rn xX2_readKey (38, [l0, l1, l2, some (vI a), l4], [], S) = rn xX2_readKey (39, [l0, l1, l2, some (vI a), l4], [vI a], S) := rn_step dX2_readKey_38 rfl rfl
theorem eX2_readKey_39 {l0 l1 l2 l3 l4 : Option VV} {v0 : VV} {S : MM} : rn xX2_readKey (39, [l0, l1, l2, l3, l4], [v0], S) = rn xX2_readKey (48, [l0, l1, l2, l3, l4], [v0], S) := rn_step dX2_readKey_39 rfl rfl
theorem eX2_readKey_42 {l0 l1 l2 l3 l4 : Option VV} {S : MM} : rn xX2_readKey (42, [l0, l1, l2, l3, l4], [], S) = rn xX2_readKey (44, [l0, l1, l2, l3, l4], [vI 10], S) := rn_step dX2_readKey_42 rfl rfl
theorem eX2_readKey_44 {a : Int} {l0 l2 l3 l4 : Option VV} {v0 : VV} {S : MM} : rn xX2_readKey (44, [l0, some (vI a), l2, l3, l4], [v0], S) = rn xX2_readKey (45, [l0, some (vI a), l2, l3, l4], [vI a, v0], S) := rn_step dX2_readKey_44 rfl rfl
theorem eX2_readKey_45 {a b : Int} {l0 l1 l2 l3 l4 : Option VV} {S : MM} : rn xX2_readKey (45, [l0, l1, l2, l3, l4], [vI b, vI a], S) = rn xX2_readKey (46, [l0, l1, l2, l3, l4], [vI (a * b)], S) := rn_step dX2_readKey_45 rfl rfl
theorem eX2_readKey_46 {a : Int} {l0 l1 l2 l4 : Option VV} {v0 : VV} {S : MM} : rn xX2_readKey (46, [l0, l1, l2, some (vI a), l4], [v0], S) = rn xX2_readKey (47, [l0, l1, l2, some (vI a), l4], [vI a, v0], S) := rn_step dX2_readKey_46 rfl rfl
theorem eX2_readKey_47 {a b : Int} {l0 l1 l2 l3 l4 : Option VV} {S : MM} : rn xX2_readKey (47, [l0, l1, l2, l3, l4], [vI b, vI a], S) = rn xX2_readKey (48, [l0, l1, l2, l3, l4], [vI (a + b)], S) := rn_step dX2_readKey_47 rfl rfl
theorem eX2_readKey_48 {a : Int} {w : Int} {l0 l1 l2 l4 : Option VV} {S : MM} : rn xX2_readKey (48, [l0, l1, l2, some (vI w), l4], [vI a], S) = rn xX2_readKey (50, [l0, l1, l2, some (vI w), some (vI a)], [], S) := rn_step dX2_readKey_48 rfl rfl
theorem eX2_readKey_50 {a : Int} {l0 l2 l3 l4 : Option VV} {S : MM} : rn xX2_readKey (50, [l0, some (vI a), l2, l3, l4], [], S) = rn xX2_readKey (51, [l0, some (vI a), l2, l3, l4], [vI a], S) := rn_step dX2_readKey_50 rfl rfl
theorem eX2_readKey_51 {a : Int} {l0 l1 l2 l3 l4 : Option VV} (h : -2147483648 ≤ a ∧ a ≤ 2147483647) {S : MM} : rn xX2_readKey (51, [l0, l1, l2, l3, l4], [vI a], S) = if a = 0 then rn xX2_readKey (84, [l0, l1, l2, l3, l4], [], S) else rn xX2_readKey (54, [l0, l1, l2, l3, l4], [], S) := q_if_eq dX2_readKey_51 (by decide) rfl h
theorem eX2_readKey_54 {a : Int} {l0 l1 l2 l3 : Option VV} {S : MM} : rn xX2_readKey (54, [l0, l1, l2, l3, some (vI a)], [], S) = rn xX2_readKey (56, [l0, l1, l2, l3, some (vI a)], [vI a], S) := rn_step dX2_readKey_54 rfl rfl
theorem eX2_readKey_56 {l0 l1 l2 l3 l4 : Option VV} {v0 : VV} {S : MM} : rn xX2_readKey (56, [l0, l1, l2, l3, l4], [v0], S) = rn xX2_readKey (59, [l0, l1, l2, l3, l4], [vI 299, v0], S) := rn_step dX2_readKey_56 rfl rfl
theorem eX2_readKey_59 {a b : Int} {l0 l1 l2 l3 l4 : Option VV} (h : -2147483648 ≤ a ∧ a ≤ 2147483647) (h1 : -2147483648 ≤ b ∧ b ≤ 2147483647) {S : MM} : rn xX2_readKey (59, [l0, l1, l2, l3, l4], [vI b, vI a], S) = if b < a then rn xX2_readKey (62, [l0, l1, l2, l3, l4], [], S) else rn xX2_readKey (65, [l0, l1, l2, l3, l4], [], S) := q_icmp_le dX2_readKey_59 (by decide) rfl h h1
theorem eX2_readKey_62 {l0 l1 l2 l3 l4 : Option VV} {S : MM} : rn xX2_readKey (62, [l0, l1, l2, l3, l4], [], S) = rn xX2_readKey (84, [l0, l1, l2, l3, l4], [], S) := rn_step dX2_readKey_62 rfl rfl
theorem eX2_readKey_65 {a : Int} {l0 l1 l2 l3 : Option VV} {S : MM} : rn xX2_readKey (65, [l0, l1, l2, l3, some (vI a)], [], S) = rn xX2_readKey (67, [l0, l1, l2, l3, some (vI a)], [vI a], S) := rn_step dX2_readKey_65 rfl rfl
theorem eX2_readKey_67 {a : Int} {w : Option Nat} {l1 l2 l3 l4 : Option VV} {S : MM} : rn xX2_readKey (67, [some (.inr (.inl w)), l1, l2, l3, l4], [vI a], S) = rn xX2_readKey (68, [some (.inr (.inl w)), some (vI a), l2, l3, l4], [], S) := rn_step dX2_readKey_67 rfl rfl
theorem eX2_readKey_68 {a : Option Nat} {l1 l2 l3 l4 : Option VV} {S : MM} : rn xX2_readKey (68, [some (.inr (.inl a)), l1, l2, l3, l4], [], S) = rn xX2_readKey (69, [some (.inr (.inl a)), l1, l2, l3, l4], [.inr (.inl a)], S) := rn_step dX2_readKey_68 rfl rfl
theorem eX2_readKey_69 {a : Option Nat} {l0 l1 l2 l3 l4 : Option VV} {S : MM} : rn xX2_readKey (69, [l0, l1, l2, l3, l4], [.inr (.inl a)], S) = rn xX2_readKey (70, [l0, l1, l2, l3, l4], [.inr (.inl a), .inr (.inl a)], S) := rn_step dX2_readKey_69 rfl rfl
theorem eX2_readKey_70 {i : Nat} {l0 l1 l2 l3 l4 : Option VV} {v1 : VV} (h : kd i = 2) {S : MM} : rn xX2_readKey (70, [l0, l1, l2, l3, l4], [vR i, v1], S) = rn xX2_readKey (73, [l0, l1, l2, l3, l4], [vI (S i 2), v1], S) := q_getI dX2_readKey_70 rfl ⟨⟨by decide, by decide⟩, by decide⟩ h
theorem eX2_readKey_73 {l0 l1 l2 l3 l4 : Option VV} {v0 v1 : VV} {S : MM} : rn xX2_readKey (73, [l0, l1, l2, l3, l4], [v0, v1], S) = rn xX2_readKey (74, [l0, l1, l2, l3, l4], [vI 1, v0, v1], S) := rn_step dX2_readKey_73 rfl rfl
theorem eX2_readKey_74 {a b : Int} {l0 l1 l2 l3 l4 : Option VV} {v2 : VV} {S : MM} : rn xX2_readKey (74, [l0, l1, l2, l3, l4], [vI b, vI a, v2], S) = rn xX2_readKey (75, [l0, l1, l2, l3, l4], [vI (a + b), v2], S) := rn_step dX2_readKey_74 rfl rfl
theorem eX2_readKey_75 {z : Int} {i : Nat} {l0 l1 l2 l3 l4 : Option VV} (h : kd i = 2) {S : MM} : rn xX2_readKey (75, [l0, l1, l2, l3, l4], [vI z, vR i], S) = rn xX2_readKey (78, [l0, l1, l2, l3, l4], [], updM S i 2 z) := q_put dX2_readKey_75 rfl ⟨by decide, by decide⟩ rfl h
theorem eX2_readKey_78 {a : Int} {w : Int} {l0 l3 l4 : Option VV} {S : MM} : rn xX2_readKey (78, [l0, some (vI w), some (vI a), l3, l4], [], S) = rn xX2_readKey (81, [l0, some (vI w), some (vI (a + 1)), l3, l4], [], S) := rn_step dX2_readKey_78 rfl rfl
theorem eX2_readKey_81 {l0 l1 l2 l3 l4 : Option VV} {S : MM} : rn xX2_readKey (81, [l0, l1, l2, l3, l4], [], S) = rn xX2_readKey (5, [l0, l1, l2, l3, l4], [], S) := rn_step dX2_readKey_81 rfl rfl
theorem eX2_readKey_84 {a : Int} {l0 l2 l3 l4 : Option VV} {S : MM} : rn xX2_readKey (84, [l0, some (vI a), l2, l3, l4], [], S) = rn xX2_readKey (85, [l0, some (vI a), l2, l3, l4], [vI a], S) := rn_step dX2_readKey_84 rfl rfl
theorem eX2_readKey_85 {z : Int} {l0 l1 l2 l3 l4 : Option VV} {S : MM} : rn xX2_readKey (85, [l0, l1, l2, l3, l4], [vI z], S) = some (some (vI z), S) := q_retI dX2_readKey_85 rfl
noncomputable def qlX2_readFlood : List CE := [(0, 45, 2, 2, fX2_pass), (0, 66, 2, 1, fX2_readWalker), (0, 69, 2, 1, fX2_readKey)]
noncomputable def xX2_readFlood : XX := (cX2_readFlood, fcF fcl2, mcF qlX2_readFlood, 2)
noncomputable def fX2_readFlood : FN := fnX xX2_readFlood 1
set_option maxRecDepth 100000 in
theorem cwX2_readFlood : Cond.code yX2_readFlood cX2_readFlood 1 (some .boolean) ∈ lw_g := lw_gm 722 (by decide +kernel) (by decide +kernel)
set_option maxRecDepth 100000 in
theorem conX2_readFlood : Con yX2_readFlood cX2_readFlood 1 (some .boolean) { frames := 2, cells := 0, slots := 0, locals := 46 } fX2_readFlood := con_of (X := xX2_readFlood) (own := "LeapStones$Pad") (ql := qlX2_readFlood) (by decide) rfl FOK2 rfl (List.forall_mem_cons.mpr ⟨call_V conX2_pass cwX2_pass (lw_gl _ [723, 724, 725, 29] (by decide +kernel) (by decide +kernel)) (by decide) rfl ⟨by decide, by decide, by decide +kernel⟩ ⟨rfl, rfl⟩ ⟨by decide, by decide⟩ ⟨Nat.le_refl _, Nat.le_refl _⟩, List.forall_mem_cons.mpr ⟨call_V conX2_readWalker cwX2_readWalker (lw_gl _ [727, 729, 12, 29] (by decide +kernel) (by decide +kernel)) (by decide) rfl ⟨by decide, by decide, by decide +kernel⟩ ⟨rfl, rfl⟩ ⟨by decide, by decide⟩ ⟨Nat.le_refl _, Nat.le_refl _⟩, List.forall_mem_cons.mpr ⟨call_V conX2_readKey cwX2_readKey (lw_gl _ [732, 734, 13, 29] (by decide +kernel) (by decide +kernel)) (by decide) rfl ⟨by decide, by decide, by decide +kernel⟩ ⟨rfl, rfl⟩ ⟨by decide, by decide⟩ ⟨Nat.le_refl _, Nat.le_refl _⟩, fun _ h => absurd h List.not_mem_nil⟩⟩⟩) (Or.inr (Or.inr (Or.inl ⟨rfl, rfl⟩)))
theorem uX2_readFlood {i : Nat} {S : MM} : fX2_readFlood [vR i] S = rn xX2_readFlood (0, [some (vR i)], [], S) := rfl
theorem dX2_readFlood_0 : decode cX2_readFlood 0 = .ok (.aload_n 0, 1) := by decide +kernel
theorem dX2_readFlood_1 : decode cX2_readFlood 1 = .ok (.bipush 42, 2) := by decide +kernel
theorem dX2_readFlood_3 : decode cX2_readFlood 3 = .ok (.invokevirtual 45, 3) := by decide +kernel
theorem dX2_readFlood_6 : decode cX2_readFlood 6 = .ok (.ifCond .eq 12, 3) := by decide +kernel
theorem dX2_readFlood_9 : decode cX2_readFlood 9 = .ok (.aload_n 0, 1) := by decide +kernel
theorem dX2_readFlood_10 : decode cX2_readFlood 10 = .ok (.bipush (-6), 2) := by decide +kernel
theorem dX2_readFlood_12 : decode cX2_readFlood 12 = .ok (.putfield 23, 3) := by decide +kernel
theorem dX2_readFlood_15 : decode cX2_readFlood 15 = .ok (.goto 12, 3) := by decide +kernel
theorem dX2_readFlood_18 : decode cX2_readFlood 18 = .ok (.aload_n 0, 1) := by decide +kernel
theorem dX2_readFlood_19 : decode cX2_readFlood 19 = .ok (.invokevirtual 66, 3) := by decide +kernel
theorem dX2_readFlood_22 : decode cX2_readFlood 22 = .ok (.ifCond .ne 5, 3) := by decide +kernel
theorem dX2_readFlood_25 : decode cX2_readFlood 25 = .ok (.iconst 0, 1) := by decide +kernel
theorem dX2_readFlood_26 : decode cX2_readFlood 26 = .ok (.ireturn, 1) := by decide +kernel
theorem dX2_readFlood_27 : decode cX2_readFlood 27 = .ok (.aload_n 0, 1) := by decide +kernel
theorem dX2_readFlood_28 : decode cX2_readFlood 28 = .ok (.bipush 58, 2) := by decide +kernel
theorem dX2_readFlood_30 : decode cX2_readFlood 30 = .ok (.invokevirtual 45, 3) := by decide +kernel
theorem dX2_readFlood_33 : decode cX2_readFlood 33 = .ok (.ifCond .ne 5, 3) := by decide +kernel
theorem dX2_readFlood_36 : decode cX2_readFlood 36 = .ok (.iconst 0, 1) := by decide +kernel
theorem dX2_readFlood_37 : decode cX2_readFlood 37 = .ok (.ireturn, 1) := by decide +kernel
theorem dX2_readFlood_38 : decode cX2_readFlood 38 = .ok (.aload_n 0, 1) := by decide +kernel
theorem dX2_readFlood_39 : decode cX2_readFlood 39 = .ok (.aload_n 0, 1) := by decide +kernel
theorem dX2_readFlood_40 : decode cX2_readFlood 40 = .ok (.invokevirtual 69, 3) := by decide +kernel
theorem dX2_readFlood_43 : decode cX2_readFlood 43 = .ok (.putfield 26, 3) := by decide +kernel
theorem dX2_readFlood_46 : decode cX2_readFlood 46 = .ok (.aload_n 0, 1) := by decide +kernel
theorem dX2_readFlood_47 : decode cX2_readFlood 47 = .ok (.getfield 26, 3) := by decide +kernel
theorem dX2_readFlood_50 : decode cX2_readFlood 50 = .ok (.bipush (-6), 2) := by decide +kernel
theorem dX2_readFlood_52 : decode cX2_readFlood 52 = .ok (.if_icmp .eq 12, 3) := by decide +kernel
theorem dX2_readFlood_55 : decode cX2_readFlood 55 = .ok (.aload_n 0, 1) := by decide +kernel
theorem dX2_readFlood_56 : decode cX2_readFlood 56 = .ok (.bipush 45, 2) := by decide +kernel
theorem dX2_readFlood_58 : decode cX2_readFlood 58 = .ok (.invokevirtual 45, 3) := by decide +kernel
theorem dX2_readFlood_61 : decode cX2_readFlood 61 = .ok (.ifCond .ne 5, 3) := by decide +kernel
theorem dX2_readFlood_64 : decode cX2_readFlood 64 = .ok (.iconst 0, 1) := by decide +kernel
theorem dX2_readFlood_65 : decode cX2_readFlood 65 = .ok (.ireturn, 1) := by decide +kernel
theorem dX2_readFlood_66 : decode cX2_readFlood 66 = .ok (.aload_n 0, 1) := by decide +kernel
theorem dX2_readFlood_67 : decode cX2_readFlood 67 = .ok (.aload_n 0, 1) := by decide +kernel
theorem dX2_readFlood_68 : decode cX2_readFlood 68 = .ok (.invokevirtual 69, 3) := by decide +kernel
theorem dX2_readFlood_71 : decode cX2_readFlood 71 = .ok (.putfield 29, 3) := by decide +kernel
theorem dX2_readFlood_74 : decode cX2_readFlood 74 = .ok (.aload_n 0, 1) := by decide +kernel
theorem dX2_readFlood_75 : decode cX2_readFlood 75 = .ok (.getfield 29, 3) := by decide +kernel
theorem dX2_readFlood_78 : decode cX2_readFlood 78 = .ok (.bipush (-6), 2) := by decide +kernel
theorem dX2_readFlood_80 : decode cX2_readFlood 80 = .ok (.if_icmp .eq 7, 3) := by decide +kernel
theorem dX2_readFlood_83 : decode cX2_readFlood 83 = .ok (.iconst 1, 1) := by decide +kernel
theorem dX2_readFlood_84 : decode cX2_readFlood 84 = .ok (.goto 4, 3) := by decide +kernel
theorem dX2_readFlood_87 : decode cX2_readFlood 87 = .ok (.iconst 0, 1) := by decide +kernel
theorem dX2_readFlood_88 : decode cX2_readFlood 88 = .ok (.ireturn, 1) := by decide +kernel
theorem eX2_readFlood_0 {a : Option Nat} {S : MM} : rn xX2_readFlood (0, [some (.inr (.inl a))], [], S) = rn xX2_readFlood (1, [some (.inr (.inl a))], [.inr (.inl a)], S) := rn_step dX2_readFlood_0 rfl rfl
theorem eX2_readFlood_1 {l0 : Option VV} {v0 : VV} {S : MM} : rn xX2_readFlood (1, [l0], [v0], S) = rn xX2_readFlood (3, [l0], [vI 42, v0], S) := rn_step dX2_readFlood_1 rfl rfl
theorem eX2_readFlood_3 {a0 : Int} {i : Nat} {l0 : Option VV} (h : kd i = 2) {S : MM} : rn xX2_readFlood (3, [l0], [vI a0, vR i], S) = (fX2_pass [vR i, vI a0] S).bind (fun q => rn xX2_readFlood (6, [l0], q.1.toList ++ [], q.2)) := q_callV (n := 1) (as := [vI a0]) (rest := []) dX2_readFlood_3 rfl rfl rfl rfl h
theorem eX2_readFlood_6 {a : Int} {l0 : Option VV} (h : -2147483648 ≤ a ∧ a ≤ 2147483647) {S : MM} : rn xX2_readFlood (6, [l0], [vI a], S) = if a = 0 then rn xX2_readFlood (18, [l0], [], S) else rn xX2_readFlood (9, [l0], [], S) := q_if_eq dX2_readFlood_6 (by decide) rfl h
theorem eX2_readFlood_9 {a : Option Nat} {S : MM} : rn xX2_readFlood (9, [some (.inr (.inl a))], [], S) = rn xX2_readFlood (10, [some (.inr (.inl a))], [.inr (.inl a)], S) := rn_step dX2_readFlood_9 rfl rfl
theorem eX2_readFlood_10 {l0 : Option VV} {v0 : VV} {S : MM} : rn xX2_readFlood (10, [l0], [v0], S) = rn xX2_readFlood (12, [l0], [vI (-6), v0], S) := rn_step dX2_readFlood_10 rfl rfl
theorem eX2_readFlood_12 {z : Int} {i : Nat} {l0 : Option VV} (h : kd i = 2) {S : MM} : rn xX2_readFlood (12, [l0], [vI z, vR i], S) = rn xX2_readFlood (15, [l0], [], updM S i 4 z) := q_put dX2_readFlood_12 rfl ⟨by decide, by decide⟩ rfl h
theorem eX2_readFlood_15 {l0 : Option VV} {S : MM} : rn xX2_readFlood (15, [l0], [], S) = rn xX2_readFlood (27, [l0], [], S) := rn_step dX2_readFlood_15 rfl rfl
theorem eX2_readFlood_18 {a : Option Nat} {S : MM} : rn xX2_readFlood (18, [some (.inr (.inl a))], [], S) = rn xX2_readFlood (19, [some (.inr (.inl a))], [.inr (.inl a)], S) := rn_step dX2_readFlood_18 rfl rfl
theorem eX2_readFlood_19 {i : Nat} {l0 : Option VV} (h : kd i = 2) {S : MM} : rn xX2_readFlood (19, [l0], [vR i], S) = (fX2_readWalker [vR i] S).bind (fun q => rn xX2_readFlood (22, [l0], q.1.toList ++ [], q.2)) := q_callV (n := 0) (as := []) (rest := []) dX2_readFlood_19 rfl rfl rfl rfl h
theorem eX2_readFlood_22 {a : Int} {l0 : Option VV} (h : -2147483648 ≤ a ∧ a ≤ 2147483647) {S : MM} : rn xX2_readFlood (22, [l0], [vI a], S) = if a = 0 then rn xX2_readFlood (25, [l0], [], S) else rn xX2_readFlood (27, [l0], [], S) := q_if_ne dX2_readFlood_22 (by decide) rfl h
theorem eX2_readFlood_25 {l0 : Option VV} {S : MM} : rn xX2_readFlood (25, [l0], [], S) = rn xX2_readFlood (26, [l0], [vI 0], S) := rn_step dX2_readFlood_25 rfl rfl
theorem eX2_readFlood_26 {z : Int} {l0 : Option VV} (hz : z = 0 ∨ z = 1) {S : MM} : rn xX2_readFlood (26, [l0], [vI z], S) = some (some (vI z), S) := q_retZ dX2_readFlood_26 rfl hz
theorem eX2_readFlood_27 {a : Option Nat} {S : MM} : rn xX2_readFlood (27, [some (.inr (.inl a))], [], S) = rn xX2_readFlood (28, [some (.inr (.inl a))], [.inr (.inl a)], S) := rn_step dX2_readFlood_27 rfl rfl
theorem eX2_readFlood_28 {l0 : Option VV} {v0 : VV} {S : MM} : rn xX2_readFlood (28, [l0], [v0], S) = rn xX2_readFlood (30, [l0], [vI 58, v0], S) := rn_step dX2_readFlood_28 rfl rfl
theorem eX2_readFlood_30 {a0 : Int} {i : Nat} {l0 : Option VV} (h : kd i = 2) {S : MM} : rn xX2_readFlood (30, [l0], [vI a0, vR i], S) = (fX2_pass [vR i, vI a0] S).bind (fun q => rn xX2_readFlood (33, [l0], q.1.toList ++ [], q.2)) := q_callV (n := 1) (as := [vI a0]) (rest := []) dX2_readFlood_30 rfl rfl rfl rfl h
theorem eX2_readFlood_33 {a : Int} {l0 : Option VV} (h : -2147483648 ≤ a ∧ a ≤ 2147483647) {S : MM} : rn xX2_readFlood (33, [l0], [vI a], S) = if a = 0 then rn xX2_readFlood (36, [l0], [], S) else rn xX2_readFlood (38, [l0], [], S) := q_if_ne dX2_readFlood_33 (by decide) rfl h
theorem eX2_readFlood_36 {l0 : Option VV} {S : MM} : rn xX2_readFlood (36, [l0], [], S) = rn xX2_readFlood (37, [l0], [vI 0], S) := rn_step dX2_readFlood_36 rfl rfl
theorem eX2_readFlood_37 {z : Int} {l0 : Option VV} (hz : z = 0 ∨ z = 1) {S : MM} : rn xX2_readFlood (37, [l0], [vI z], S) = some (some (vI z), S) := q_retZ dX2_readFlood_37 rfl hz
theorem eX2_readFlood_38 {a : Option Nat} {S : MM} : rn xX2_readFlood (38, [some (.inr (.inl a))], [], S) = rn xX2_readFlood (39, [some (.inr (.inl a))], [.inr (.inl a)], S) := rn_step dX2_readFlood_38 rfl rfl
theorem eX2_readFlood_39 {a : Option Nat} {v0 : VV} {S : MM} : rn xX2_readFlood (39, [some (.inr (.inl a))], [v0], S) = rn xX2_readFlood (40, [some (.inr (.inl a))], [.inr (.inl a), v0], S) := rn_step dX2_readFlood_39 rfl rfl
theorem eX2_readFlood_40 {i : Nat} {l0 : Option VV} {v1 : VV} (h : kd i = 2) {S : MM} : rn xX2_readFlood (40, [l0], [vR i, v1], S) = (fX2_readKey [vR i] S).bind (fun q => rn xX2_readFlood (43, [l0], q.1.toList ++ [v1], q.2)) := q_callV (n := 0) (as := []) (rest := [v1]) dX2_readFlood_40 rfl rfl rfl rfl h
theorem eX2_readFlood_43 {z : Int} {i : Nat} {l0 : Option VV} (h : kd i = 2) {S : MM} : rn xX2_readFlood (43, [l0], [vI z, vR i], S) = rn xX2_readFlood (46, [l0], [], updM S i 5 z) := q_put dX2_readFlood_43 rfl ⟨by decide, by decide⟩ rfl h
theorem eX2_readFlood_46 {a : Option Nat} {S : MM} : rn xX2_readFlood (46, [some (.inr (.inl a))], [], S) = rn xX2_readFlood (47, [some (.inr (.inl a))], [.inr (.inl a)], S) := rn_step dX2_readFlood_46 rfl rfl
theorem eX2_readFlood_47 {i : Nat} {l0 : Option VV} (h : kd i = 2) {S : MM} : rn xX2_readFlood (47, [l0], [vR i], S) = rn xX2_readFlood (50, [l0], [vI (S i 5)], S) := q_getI dX2_readFlood_47 rfl ⟨⟨by decide, by decide⟩, by decide⟩ h
theorem eX2_readFlood_50 {l0 : Option VV} {v0 : VV} {S : MM} : rn xX2_readFlood (50, [l0], [v0], S) = rn xX2_readFlood (52, [l0], [vI (-6), v0], S) := rn_step dX2_readFlood_50 rfl rfl
theorem eX2_readFlood_52 {a b : Int} {l0 : Option VV} (h : -2147483648 ≤ a ∧ a ≤ 2147483647) (h1 : -2147483648 ≤ b ∧ b ≤ 2147483647) {S : MM} : rn xX2_readFlood (52, [l0], [vI b, vI a], S) = if a = b then rn xX2_readFlood (64, [l0], [], S) else rn xX2_readFlood (55, [l0], [], S) := q_icmp_eq dX2_readFlood_52 (by decide) rfl h h1
theorem eX2_readFlood_55 {a : Option Nat} {S : MM} : rn xX2_readFlood (55, [some (.inr (.inl a))], [], S) = rn xX2_readFlood (56, [some (.inr (.inl a))], [.inr (.inl a)], S) := rn_step dX2_readFlood_55 rfl rfl
theorem eX2_readFlood_56 {l0 : Option VV} {v0 : VV} {S : MM} : rn xX2_readFlood (56, [l0], [v0], S) = rn xX2_readFlood (58, [l0], [vI 45, v0], S) := rn_step dX2_readFlood_56 rfl rfl
theorem eX2_readFlood_58 {a0 : Int} {i : Nat} {l0 : Option VV} (h : kd i = 2) {S : MM} : rn xX2_readFlood (58, [l0], [vI a0, vR i], S) = (fX2_pass [vR i, vI a0] S).bind (fun q => rn xX2_readFlood (61, [l0], q.1.toList ++ [], q.2)) := q_callV (n := 1) (as := [vI a0]) (rest := []) dX2_readFlood_58 rfl rfl rfl rfl h
theorem eX2_readFlood_61 {a : Int} {l0 : Option VV} (h : -2147483648 ≤ a ∧ a ≤ 2147483647) {S : MM} : rn xX2_readFlood (61, [l0], [vI a], S) = if a = 0 then rn xX2_readFlood (64, [l0], [], S) else rn xX2_readFlood (66, [l0], [], S) := q_if_ne dX2_readFlood_61 (by decide) rfl h
theorem eX2_readFlood_64 {l0 : Option VV} {S : MM} : rn xX2_readFlood (64, [l0], [], S) = rn xX2_readFlood (65, [l0], [vI 0], S) := rn_step dX2_readFlood_64 rfl rfl
theorem eX2_readFlood_65 {z : Int} {l0 : Option VV} (hz : z = 0 ∨ z = 1) {S : MM} : rn xX2_readFlood (65, [l0], [vI z], S) = some (some (vI z), S) := q_retZ dX2_readFlood_65 rfl hz
theorem eX2_readFlood_66 {a : Option Nat} {S : MM} : rn xX2_readFlood (66, [some (.inr (.inl a))], [], S) = rn xX2_readFlood (67, [some (.inr (.inl a))], [.inr (.inl a)], S) := rn_step dX2_readFlood_66 rfl rfl
theorem eX2_readFlood_67 {a : Option Nat} {v0 : VV} {S : MM} : rn xX2_readFlood (67, [some (.inr (.inl a))], [v0], S) = rn xX2_readFlood (68, [some (.inr (.inl a))], [.inr (.inl a), v0], S) := rn_step dX2_readFlood_67 rfl rfl
theorem eX2_readFlood_68 {i : Nat} {l0 : Option VV} {v1 : VV} (h : kd i = 2) {S : MM} : rn xX2_readFlood (68, [l0], [vR i, v1], S) = (fX2_readKey [vR i] S).bind (fun q => rn xX2_readFlood (71, [l0], q.1.toList ++ [v1], q.2)) := q_callV (n := 0) (as := []) (rest := [v1]) dX2_readFlood_68 rfl rfl rfl rfl h
theorem eX2_readFlood_71 {z : Int} {i : Nat} {l0 : Option VV} (h : kd i = 2) {S : MM} : rn xX2_readFlood (71, [l0], [vI z, vR i], S) = rn xX2_readFlood (74, [l0], [], updM S i 6 z) := q_put dX2_readFlood_71 rfl ⟨by decide, by decide⟩ rfl h
theorem eX2_readFlood_74 {a : Option Nat} {S : MM} : rn xX2_readFlood (74, [some (.inr (.inl a))], [], S) = rn xX2_readFlood (75, [some (.inr (.inl a))], [.inr (.inl a)], S) := rn_step dX2_readFlood_74 rfl rfl
theorem eX2_readFlood_75 {i : Nat} {l0 : Option VV} (h : kd i = 2) {S : MM} : rn xX2_readFlood (75, [l0], [vR i], S) = rn xX2_readFlood (78, [l0], [vI (S i 6)], S) := q_getI dX2_readFlood_75 rfl ⟨⟨by decide, by decide⟩, by decide⟩ h
theorem eX2_readFlood_78 {l0 : Option VV} {v0 : VV} {S : MM} : rn xX2_readFlood (78, [l0], [v0], S) = rn xX2_readFlood (80, [l0], [vI (-6), v0], S) := rn_step dX2_readFlood_78 rfl rfl
theorem eX2_readFlood_80 {a b : Int} {l0 : Option VV} (h : -2147483648 ≤ a ∧ a ≤ 2147483647) (h1 : -2147483648 ≤ b ∧ b ≤ 2147483647) {S : MM} : rn xX2_readFlood (80, [l0], [vI b, vI a], S) = if a = b then rn xX2_readFlood (87, [l0], [], S) else rn xX2_readFlood (83, [l0], [], S) := q_icmp_eq dX2_readFlood_80 (by decide) rfl h h1
theorem eX2_readFlood_83 {l0 : Option VV} {S : MM} : rn xX2_readFlood (83, [l0], [], S) = rn xX2_readFlood (84, [l0], [vI 1], S) := rn_step dX2_readFlood_83 rfl rfl
theorem eX2_readFlood_84 {l0 : Option VV} {v0 : VV} {S : MM} : rn xX2_readFlood (84, [l0], [v0], S) = rn xX2_readFlood (88, [l0], [v0], S) := rn_step dX2_readFlood_84 rfl rfl
theorem eX2_readFlood_87 {l0 : Option VV} {S : MM} : rn xX2_readFlood (87, [l0], [], S) = rn xX2_readFlood (88, [l0], [vI 0], S) := rn_step dX2_readFlood_87 rfl rfl
theorem eX2_readFlood_88 {z : Int} {l0 : Option VV} (hz : z = 0 ∨ z = 1) {S : MM} : rn xX2_readFlood (88, [l0], [vI z], S) = some (some (vI z), S) := q_retZ dX2_readFlood_88 rfl hz
noncomputable def qlX2_readOrder : List CE := [(0, 59, 2, 1, fX2_next), (0, 63, 2, 1, fX2_readFlood), (0, 66, 2, 1, fX2_readWalker), (0, 45, 2, 2, fX2_pass)]
noncomputable def xX2_readOrder : XX := (cX2_readOrder, fcF fcl2, mcF qlX2_readOrder, 2)
noncomputable def fX2_readOrder : FN := fnX xX2_readOrder 1
set_option maxRecDepth 100000 in
theorem cwX2_readOrder : Cond.code yX2_readOrder cX2_readOrder 1 (some .boolean) ∈ lw_g := lw_gm 714 (by decide +kernel) (by decide +kernel)
set_option maxRecDepth 100000 in
theorem conX2_readOrder : Con yX2_readOrder cX2_readOrder 1 (some .boolean) { frames := 3, cells := 0, slots := 0, locals := 66 } fX2_readOrder := con_of (X := xX2_readOrder) (own := "LeapStones$Pad") (ql := qlX2_readOrder) (by decide) rfl FOK2 rfl (List.forall_mem_cons.mpr ⟨call_V conX2_next cwX2_next (lw_gl _ [715, 717, 10, 29] (by decide +kernel) (by decide +kernel)) (by decide) rfl ⟨by decide, by decide, by decide +kernel⟩ ⟨rfl, rfl⟩ ⟨by decide, by decide⟩ ⟨Nat.le_refl _, Nat.le_refl _⟩, List.forall_mem_cons.mpr ⟨call_V conX2_readFlood cwX2_readFlood (lw_gl _ [719, 721, 11, 29] (by decide +kernel) (by decide +kernel)) (by decide) rfl ⟨by decide, by decide, by decide +kernel⟩ ⟨rfl, rfl⟩ ⟨by decide, by decide⟩ ⟨Nat.le_refl _, Nat.le_refl _⟩, List.forall_mem_cons.mpr ⟨call_V conX2_readWalker cwX2_readWalker (lw_gl _ [727, 729, 12, 29] (by decide +kernel) (by decide +kernel)) (by decide) rfl ⟨by decide, by decide, by decide +kernel⟩ ⟨rfl, rfl⟩ ⟨by decide, by decide⟩ ⟨Nat.le_refl _, Nat.le_refl _⟩, List.forall_mem_cons.mpr ⟨call_V conX2_pass cwX2_pass (lw_gl _ [723, 724, 725, 29] (by decide +kernel) (by decide +kernel)) (by decide) rfl ⟨by decide, by decide, by decide +kernel⟩ ⟨rfl, rfl⟩ ⟨by decide, by decide⟩ ⟨Nat.le_refl _, Nat.le_refl _⟩, fun _ h => absurd h List.not_mem_nil⟩⟩⟩⟩) (Or.inr (Or.inr (Or.inl ⟨rfl, rfl⟩)))
theorem uX2_readOrder {i : Nat} {S : MM} : fX2_readOrder [vR i] S = rn xX2_readOrder (0, [some (vR i)], [], S) := rfl
theorem dX2_readOrder_0 : decode cX2_readOrder 0 = .ok (.aload_n 0, 1) := by decide +kernel
theorem dX2_readOrder_1 : decode cX2_readOrder 1 = .ok (.aload_n 0, 1) := by decide +kernel
theorem dX2_readOrder_2 : decode cX2_readOrder 2 = .ok (.invokevirtual 59, 3) := by decide +kernel
theorem dX2_readOrder_5 : decode cX2_readOrder 5 = .ok (.putfield 19, 3) := by decide +kernel
theorem dX2_readOrder_8 : decode cX2_readOrder 8 = .ok (.aload_n 0, 1) := by decide +kernel
theorem dX2_readOrder_9 : decode cX2_readOrder 9 = .ok (.getfield 19, 3) := by decide +kernel
theorem dX2_readOrder_12 : decode cX2_readOrder 12 = .ok (.bipush 100, 2) := by decide +kernel
theorem dX2_readOrder_14 : decode cX2_readOrder 14 = .ok (.if_icmp .eq 21, 3) := by decide +kernel
theorem dX2_readOrder_17 : decode cX2_readOrder 17 = .ok (.aload_n 0, 1) := by decide +kernel
theorem dX2_readOrder_18 : decode cX2_readOrder 18 = .ok (.getfield 19, 3) := by decide +kernel
theorem dX2_readOrder_21 : decode cX2_readOrder 21 = .ok (.bipush 103, 2) := by decide +kernel
theorem dX2_readOrder_23 : decode cX2_readOrder 23 = .ok (.if_icmp .eq 12, 3) := by decide +kernel
theorem dX2_readOrder_26 : decode cX2_readOrder 26 = .ok (.aload_n 0, 1) := by decide +kernel
theorem dX2_readOrder_27 : decode cX2_readOrder 27 = .ok (.getfield 19, 3) := by decide +kernel
theorem dX2_readOrder_30 : decode cX2_readOrder 30 = .ok (.bipush 108, 2) := by decide +kernel
theorem dX2_readOrder_32 : decode cX2_readOrder 32 = .ok (.if_icmp .ne 15, 3) := by decide +kernel
theorem dX2_readOrder_35 : decode cX2_readOrder 35 = .ok (.aload_n 0, 1) := by decide +kernel
theorem dX2_readOrder_36 : decode cX2_readOrder 36 = .ok (.dup, 1) := by decide +kernel
theorem dX2_readOrder_37 : decode cX2_readOrder 37 = .ok (.getfield 35, 3) := by decide +kernel
theorem dX2_readOrder_40 : decode cX2_readOrder 40 = .ok (.iconst 1, 1) := by decide +kernel
theorem dX2_readOrder_41 : decode cX2_readOrder 41 = .ok (.iadd, 1) := by decide +kernel
theorem dX2_readOrder_42 : decode cX2_readOrder 42 = .ok (.putfield 35, 3) := by decide +kernel
theorem dX2_readOrder_45 : decode cX2_readOrder 45 = .ok (.iconst 1, 1) := by decide +kernel
theorem dX2_readOrder_46 : decode cX2_readOrder 46 = .ok (.ireturn, 1) := by decide +kernel
theorem dX2_readOrder_47 : decode cX2_readOrder 47 = .ok (.aload_n 0, 1) := by decide +kernel
theorem dX2_readOrder_48 : decode cX2_readOrder 48 = .ok (.getfield 19, 3) := by decide +kernel
theorem dX2_readOrder_51 : decode cX2_readOrder 51 = .ok (.bipush 102, 2) := by decide +kernel
theorem dX2_readOrder_53 : decode cX2_readOrder 53 = .ok (.if_icmp .ne 18, 3) := by decide +kernel
theorem dX2_readOrder_56 : decode cX2_readOrder 56 = .ok (.aload_n 0, 1) := by decide +kernel
theorem dX2_readOrder_57 : decode cX2_readOrder 57 = .ok (.dup, 1) := by decide +kernel
theorem dX2_readOrder_58 : decode cX2_readOrder 58 = .ok (.getfield 35, 3) := by decide +kernel
theorem dX2_readOrder_61 : decode cX2_readOrder 61 = .ok (.iconst 1, 1) := by decide +kernel
theorem dX2_readOrder_62 : decode cX2_readOrder 62 = .ok (.iadd, 1) := by decide +kernel
theorem dX2_readOrder_63 : decode cX2_readOrder 63 = .ok (.putfield 35, 3) := by decide +kernel
theorem dX2_readOrder_66 : decode cX2_readOrder 66 = .ok (.aload_n 0, 1) := by decide +kernel
theorem dX2_readOrder_67 : decode cX2_readOrder 67 = .ok (.invokevirtual 63, 3) := by decide +kernel
theorem dX2_readOrder_70 : decode cX2_readOrder 70 = .ok (.ireturn, 1) := by decide +kernel
theorem dX2_readOrder_71 : decode cX2_readOrder 71 = .ok (.aload_n 0, 1) := by decide +kernel
theorem dX2_readOrder_72 : decode cX2_readOrder 72 = .ok (.invokevirtual 66, 3) := by decide +kernel
theorem dX2_readOrder_75 : decode cX2_readOrder 75 = .ok (.ifCond .eq 16, 3) := by decide +kernel
theorem dX2_readOrder_78 : decode cX2_readOrder 78 = .ok (.aload_n 0, 1) := by decide +kernel
theorem dX2_readOrder_79 : decode cX2_readOrder 79 = .ok (.bipush 58, 2) := by decide +kernel
theorem dX2_readOrder_81 : decode cX2_readOrder 81 = .ok (.invokevirtual 45, 3) := by decide +kernel
theorem dX2_readOrder_84 : decode cX2_readOrder 84 = .ok (.ifCond .eq 7, 3) := by decide +kernel
theorem dX2_readOrder_87 : decode cX2_readOrder 87 = .ok (.iconst 1, 1) := by decide +kernel
theorem dX2_readOrder_88 : decode cX2_readOrder 88 = .ok (.goto 4, 3) := by decide +kernel
theorem dX2_readOrder_91 : decode cX2_readOrder 91 = .ok (.iconst 0, 1) := by decide +kernel
theorem dX2_readOrder_92 : decode cX2_readOrder 92 = .ok (.ireturn, 1) := by decide +kernel
theorem eX2_readOrder_0 {a : Option Nat} {S : MM} : rn xX2_readOrder (0, [some (.inr (.inl a))], [], S) = rn xX2_readOrder (1, [some (.inr (.inl a))], [.inr (.inl a)], S) := rn_step dX2_readOrder_0 rfl rfl
theorem eX2_readOrder_1 {a : Option Nat} {v0 : VV} {S : MM} : rn xX2_readOrder (1, [some (.inr (.inl a))], [v0], S) = rn xX2_readOrder (2, [some (.inr (.inl a))], [.inr (.inl a), v0], S) := rn_step dX2_readOrder_1 rfl rfl
theorem eX2_readOrder_2 {i : Nat} {l0 : Option VV} {v1 : VV} (h : kd i = 2) {S : MM} : rn xX2_readOrder (2, [l0], [vR i, v1], S) = (fX2_next [vR i] S).bind (fun q => rn xX2_readOrder (5, [l0], q.1.toList ++ [v1], q.2)) := q_callV (n := 0) (as := []) (rest := [v1]) dX2_readOrder_2 rfl rfl rfl rfl h
theorem eX2_readOrder_5 {z : Int} {i : Nat} {l0 : Option VV} (hz : 0 ≤ z ∧ z ≤ 65535) (h : kd i = 2) {S : MM} : rn xX2_readOrder (5, [l0], [vI z, vR i], S) = rn xX2_readOrder (8, [l0], [], updM S i 3 z) := q_put dX2_readOrder_5 rfl ⟨by decide, by decide⟩ (fit2 hz) h
theorem eX2_readOrder_8 {a : Option Nat} {S : MM} : rn xX2_readOrder (8, [some (.inr (.inl a))], [], S) = rn xX2_readOrder (9, [some (.inr (.inl a))], [.inr (.inl a)], S) := rn_step dX2_readOrder_8 rfl rfl
theorem eX2_readOrder_9 {i : Nat} {l0 : Option VV} (h : kd i = 2) {S : MM} : rn xX2_readOrder (9, [l0], [vR i], S) = rn xX2_readOrder (12, [l0], [vI (S i 3)], S) := q_getI dX2_readOrder_9 rfl ⟨⟨by decide, by decide⟩, by decide⟩ h
theorem eX2_readOrder_12 {l0 : Option VV} {v0 : VV} {S : MM} : rn xX2_readOrder (12, [l0], [v0], S) = rn xX2_readOrder (14, [l0], [vI 100, v0], S) := rn_step dX2_readOrder_12 rfl rfl
theorem eX2_readOrder_14 {a b : Int} {l0 : Option VV} (h : -2147483648 ≤ a ∧ a ≤ 2147483647) (h1 : -2147483648 ≤ b ∧ b ≤ 2147483647) {S : MM} : rn xX2_readOrder (14, [l0], [vI b, vI a], S) = if a = b then rn xX2_readOrder (35, [l0], [], S) else rn xX2_readOrder (17, [l0], [], S) := q_icmp_eq dX2_readOrder_14 (by decide) rfl h h1
theorem eX2_readOrder_17 {a : Option Nat} {S : MM} : rn xX2_readOrder (17, [some (.inr (.inl a))], [], S) = rn xX2_readOrder (18, [some (.inr (.inl a))], [.inr (.inl a)], S) := rn_step dX2_readOrder_17 rfl rfl
theorem eX2_readOrder_18 {i : Nat} {l0 : Option VV} (h : kd i = 2) {S : MM} : rn xX2_readOrder (18, [l0], [vR i], S) = rn xX2_readOrder (21, [l0], [vI (S i 3)], S) := q_getI dX2_readOrder_18 rfl ⟨⟨by decide, by decide⟩, by decide⟩ h
theorem eX2_readOrder_21 {l0 : Option VV} {v0 : VV} {S : MM} : rn xX2_readOrder (21, [l0], [v0], S) = rn xX2_readOrder (23, [l0], [vI 103, v0], S) := rn_step dX2_readOrder_21 rfl rfl
theorem eX2_readOrder_23 {a b : Int} {l0 : Option VV} (h : -2147483648 ≤ a ∧ a ≤ 2147483647) (h1 : -2147483648 ≤ b ∧ b ≤ 2147483647) {S : MM} : rn xX2_readOrder (23, [l0], [vI b, vI a], S) = if a = b then rn xX2_readOrder (35, [l0], [], S) else rn xX2_readOrder (26, [l0], [], S) := q_icmp_eq dX2_readOrder_23 (by decide) rfl h h1
theorem eX2_readOrder_26 {a : Option Nat} {S : MM} : rn xX2_readOrder (26, [some (.inr (.inl a))], [], S) = rn xX2_readOrder (27, [some (.inr (.inl a))], [.inr (.inl a)], S) := rn_step dX2_readOrder_26 rfl rfl
theorem eX2_readOrder_27 {i : Nat} {l0 : Option VV} (h : kd i = 2) {S : MM} : rn xX2_readOrder (27, [l0], [vR i], S) = rn xX2_readOrder (30, [l0], [vI (S i 3)], S) := q_getI dX2_readOrder_27 rfl ⟨⟨by decide, by decide⟩, by decide⟩ h
theorem eX2_readOrder_30 {l0 : Option VV} {v0 : VV} {S : MM} : rn xX2_readOrder (30, [l0], [v0], S) = rn xX2_readOrder (32, [l0], [vI 108, v0], S) := rn_step dX2_readOrder_30 rfl rfl
theorem eX2_readOrder_32 {a b : Int} {l0 : Option VV} (h : -2147483648 ≤ a ∧ a ≤ 2147483647) (h1 : -2147483648 ≤ b ∧ b ≤ 2147483647) {S : MM} : rn xX2_readOrder (32, [l0], [vI b, vI a], S) = if a = b then rn xX2_readOrder (35, [l0], [], S) else rn xX2_readOrder (47, [l0], [], S) := q_icmp_ne dX2_readOrder_32 (by decide) rfl h h1
theorem eX2_readOrder_35 {a : Option Nat} {S : MM} : rn xX2_readOrder (35, [some (.inr (.inl a))], [], S) = rn xX2_readOrder (36, [some (.inr (.inl a))], [.inr (.inl a)], S) := rn_step dX2_readOrder_35 rfl rfl
theorem eX2_readOrder_36 {a : Option Nat} {l0 : Option VV} {S : MM} : rn xX2_readOrder (36, [l0], [.inr (.inl a)], S) = rn xX2_readOrder (37, [l0], [.inr (.inl a), .inr (.inl a)], S) := rn_step dX2_readOrder_36 rfl rfl
theorem eX2_readOrder_37 {i : Nat} {l0 : Option VV} {v1 : VV} (h : kd i = 2) {S : MM} : rn xX2_readOrder (37, [l0], [vR i, v1], S) = rn xX2_readOrder (40, [l0], [vI (S i 2), v1], S) := q_getI dX2_readOrder_37 rfl ⟨⟨by decide, by decide⟩, by decide⟩ h
theorem eX2_readOrder_40 {l0 : Option VV} {v0 v1 : VV} {S : MM} : rn xX2_readOrder (40, [l0], [v0, v1], S) = rn xX2_readOrder (41, [l0], [vI 1, v0, v1], S) := rn_step dX2_readOrder_40 rfl rfl
theorem eX2_readOrder_41 {a b : Int} {l0 : Option VV} {v2 : VV} {S : MM} : rn xX2_readOrder (41, [l0], [vI b, vI a, v2], S) = rn xX2_readOrder (42, [l0], [vI (a + b), v2], S) := rn_step dX2_readOrder_41 rfl rfl
theorem eX2_readOrder_42 {z : Int} {i : Nat} {l0 : Option VV} (h : kd i = 2) {S : MM} : rn xX2_readOrder (42, [l0], [vI z, vR i], S) = rn xX2_readOrder (45, [l0], [], updM S i 2 z) := q_put dX2_readOrder_42 rfl ⟨by decide, by decide⟩ rfl h
theorem eX2_readOrder_45 {l0 : Option VV} {S : MM} : rn xX2_readOrder (45, [l0], [], S) = rn xX2_readOrder (46, [l0], [vI 1], S) := rn_step dX2_readOrder_45 rfl rfl
theorem eX2_readOrder_46 {z : Int} {l0 : Option VV} (hz : z = 0 ∨ z = 1) {S : MM} : rn xX2_readOrder (46, [l0], [vI z], S) = some (some (vI z), S) := q_retZ dX2_readOrder_46 rfl hz
theorem eX2_readOrder_47 {a : Option Nat} {S : MM} : rn xX2_readOrder (47, [some (.inr (.inl a))], [], S) = rn xX2_readOrder (48, [some (.inr (.inl a))], [.inr (.inl a)], S) := rn_step dX2_readOrder_47 rfl rfl
theorem eX2_readOrder_48 {i : Nat} {l0 : Option VV} (h : kd i = 2) {S : MM} : rn xX2_readOrder (48, [l0], [vR i], S) = rn xX2_readOrder (51, [l0], [vI (S i 3)], S) := q_getI dX2_readOrder_48 rfl ⟨⟨by decide, by decide⟩, by decide⟩ h
theorem eX2_readOrder_51 {l0 : Option VV} {v0 : VV} {S : MM} : rn xX2_readOrder (51, [l0], [v0], S) = rn xX2_readOrder (53, [l0], [vI 102, v0], S) := rn_step dX2_readOrder_51 rfl rfl
theorem eX2_readOrder_53 {a b : Int} {l0 : Option VV} (h : -2147483648 ≤ a ∧ a ≤ 2147483647) (h1 : -2147483648 ≤ b ∧ b ≤ 2147483647) {S : MM} : rn xX2_readOrder (53, [l0], [vI b, vI a], S) = if a = b then rn xX2_readOrder (56, [l0], [], S) else rn xX2_readOrder (71, [l0], [], S) := q_icmp_ne dX2_readOrder_53 (by decide) rfl h h1
theorem eX2_readOrder_56 {a : Option Nat} {S : MM} : rn xX2_readOrder (56, [some (.inr (.inl a))], [], S) = rn xX2_readOrder (57, [some (.inr (.inl a))], [.inr (.inl a)], S) := rn_step dX2_readOrder_56 rfl rfl
theorem eX2_readOrder_57 {a : Option Nat} {l0 : Option VV} {S : MM} : rn xX2_readOrder (57, [l0], [.inr (.inl a)], S) = rn xX2_readOrder (58, [l0], [.inr (.inl a), .inr (.inl a)], S) := rn_step dX2_readOrder_57 rfl rfl
theorem eX2_readOrder_58 {i : Nat} {l0 : Option VV} {v1 : VV} (h : kd i = 2) {S : MM} : rn xX2_readOrder (58, [l0], [vR i, v1], S) = rn xX2_readOrder (61, [l0], [vI (S i 2), v1], S) := q_getI dX2_readOrder_58 rfl ⟨⟨by decide, by decide⟩, by decide⟩ h
theorem eX2_readOrder_61 {l0 : Option VV} {v0 v1 : VV} {S : MM} : rn xX2_readOrder (61, [l0], [v0, v1], S) = rn xX2_readOrder (62, [l0], [vI 1, v0, v1], S) := rn_step dX2_readOrder_61 rfl rfl
theorem eX2_readOrder_62 {a b : Int} {l0 : Option VV} {v2 : VV} {S : MM} : rn xX2_readOrder (62, [l0], [vI b, vI a, v2], S) = rn xX2_readOrder (63, [l0], [vI (a + b), v2], S) := rn_step dX2_readOrder_62 rfl rfl
theorem eX2_readOrder_63 {z : Int} {i : Nat} {l0 : Option VV} (h : kd i = 2) {S : MM} : rn xX2_readOrder (63, [l0], [vI z, vR i], S) = rn xX2_readOrder (66, [l0], [], updM S i 2 z) := q_put dX2_readOrder_63 rfl ⟨by decide, by decide⟩ rfl h
theorem eX2_readOrder_66 {a : Option Nat} {S : MM} : rn xX2_readOrder (66, [some (.inr (.inl a))], [], S) = rn xX2_readOrder (67, [some (.inr (.inl a))], [.inr (.inl a)], S) := rn_step dX2_readOrder_66 rfl rfl
theorem eX2_readOrder_67 {i : Nat} {l0 : Option VV} (h : kd i = 2) {S : MM} : rn xX2_readOrder (67, [l0], [vR i], S) = (fX2_readFlood [vR i] S).bind (fun q => rn xX2_readOrder (70, [l0], q.1.toList ++ [], q.2)) := q_callV (n := 0) (as := []) (rest := []) dX2_readOrder_67 rfl rfl rfl rfl h
theorem eX2_readOrder_70 {z : Int} {l0 : Option VV} (hz : z = 0 ∨ z = 1) {S : MM} : rn xX2_readOrder (70, [l0], [vI z], S) = some (some (vI z), S) := q_retZ dX2_readOrder_70 rfl hz
theorem eX2_readOrder_71 {a : Option Nat} {S : MM} : rn xX2_readOrder (71, [some (.inr (.inl a))], [], S) = rn xX2_readOrder (72, [some (.inr (.inl a))], [.inr (.inl a)], S) := rn_step dX2_readOrder_71 rfl rfl
theorem eX2_readOrder_72 {i : Nat} {l0 : Option VV} (h : kd i = 2) {S : MM} : rn xX2_readOrder (72, [l0], [vR i], S) = (fX2_readWalker [vR i] S).bind (fun q => rn xX2_readOrder (75, [l0], q.1.toList ++ [], q.2)) := q_callV (n := 0) (as := []) (rest := []) dX2_readOrder_72 rfl rfl rfl rfl h
theorem eX2_readOrder_75 {a : Int} {l0 : Option VV} (h : -2147483648 ≤ a ∧ a ≤ 2147483647) {S : MM} : rn xX2_readOrder (75, [l0], [vI a], S) = if a = 0 then rn xX2_readOrder (91, [l0], [], S) else rn xX2_readOrder (78, [l0], [], S) := q_if_eq dX2_readOrder_75 (by decide) rfl h
theorem eX2_readOrder_78 {a : Option Nat} {S : MM} : rn xX2_readOrder (78, [some (.inr (.inl a))], [], S) = rn xX2_readOrder (79, [some (.inr (.inl a))], [.inr (.inl a)], S) := rn_step dX2_readOrder_78 rfl rfl
theorem eX2_readOrder_79 {l0 : Option VV} {v0 : VV} {S : MM} : rn xX2_readOrder (79, [l0], [v0], S) = rn xX2_readOrder (81, [l0], [vI 58, v0], S) := rn_step dX2_readOrder_79 rfl rfl
theorem eX2_readOrder_81 {a0 : Int} {i : Nat} {l0 : Option VV} (h : kd i = 2) {S : MM} : rn xX2_readOrder (81, [l0], [vI a0, vR i], S) = (fX2_pass [vR i, vI a0] S).bind (fun q => rn xX2_readOrder (84, [l0], q.1.toList ++ [], q.2)) := q_callV (n := 1) (as := [vI a0]) (rest := []) dX2_readOrder_81 rfl rfl rfl rfl h
theorem eX2_readOrder_84 {a : Int} {l0 : Option VV} (h : -2147483648 ≤ a ∧ a ≤ 2147483647) {S : MM} : rn xX2_readOrder (84, [l0], [vI a], S) = if a = 0 then rn xX2_readOrder (91, [l0], [], S) else rn xX2_readOrder (87, [l0], [], S) := q_if_eq dX2_readOrder_84 (by decide) rfl h
theorem eX2_readOrder_87 {l0 : Option VV} {S : MM} : rn xX2_readOrder (87, [l0], [], S) = rn xX2_readOrder (88, [l0], [vI 1], S) := rn_step dX2_readOrder_87 rfl rfl
theorem eX2_readOrder_88 {l0 : Option VV} {v0 : VV} {S : MM} : rn xX2_readOrder (88, [l0], [v0], S) = rn xX2_readOrder (92, [l0], [v0], S) := rn_step dX2_readOrder_88 rfl rfl
theorem eX2_readOrder_91 {l0 : Option VV} {S : MM} : rn xX2_readOrder (91, [l0], [], S) = rn xX2_readOrder (92, [l0], [vI 0], S) := rn_step dX2_readOrder_91 rfl rfl
theorem eX2_readOrder_92 {z : Int} {l0 : Option VV} (hz : z = 0 ∨ z = 1) {S : MM} : rn xX2_readOrder (92, [l0], [vI z], S) = some (some (vI z), S) := q_retZ dX2_readOrder_92 rfl hz
noncomputable def qlX2_readRepeats : List CE := [(0, 59, 2, 1, fX2_next), (1, 52, 0, 3, fX8_isBetween)]
noncomputable def xX2_readRepeats : XX := (cX2_readRepeats, fcF fcl2, mcF qlX2_readRepeats, 2)
noncomputable def fX2_readRepeats : FN := fnX xX2_readRepeats 1
set_option maxRecDepth 100000 in
theorem cwX2_readRepeats : Cond.code yX2_readRepeats cX2_readRepeats 1 (some .boolean) ∈ lw_g := lw_gm 743 (by decide +kernel) (by decide +kernel)
set_option maxRecDepth 100000 in
theorem conX2_readRepeats : Con yX2_readRepeats cX2_readRepeats 1 (some .boolean) { frames := 1, cells := 0, slots := 0, locals := 22 } fX2_readRepeats := con_of (X := xX2_readRepeats) (own := "LeapStones$Pad") (ql := qlX2_readRepeats) (by decide) rfl FOK2 rfl (List.forall_mem_cons.mpr ⟨call_V conX2_next cwX2_next (lw_gl _ [715, 717, 10, 29] (by decide +kernel) (by decide +kernel)) (by decide) rfl ⟨by decide, by decide, by decide +kernel⟩ ⟨rfl, rfl⟩ ⟨by decide, by decide⟩ ⟨Nat.le_refl _, Nat.le_refl _⟩, List.forall_mem_cons.mpr ⟨call_N conX8_isBetween cwX8_isBetween (lw_gl _ [251, 21] (by decide +kernel) (by decide +kernel)) (List.mem_of_getElem? (i := 27) (by decide +kernel)) ⟨by decide, by decide, by decide +kernel⟩ ⟨rfl, rfl⟩ ⟨by decide, by decide⟩ ⟨Nat.le_refl _, Nat.le_refl _⟩, fun _ h => absurd h List.not_mem_nil⟩⟩) (Or.inr (Or.inr (Or.inl ⟨rfl, rfl⟩)))
theorem uX2_readRepeats {i : Nat} {S : MM} : fX2_readRepeats [vR i] S = rn xX2_readRepeats (0, [some (vR i)], [], S) := rfl
theorem dX2_readRepeats_0 : decode cX2_readRepeats 0 = .ok (.aload_n 0, 1) := by decide +kernel
theorem dX2_readRepeats_1 : decode cX2_readRepeats 1 = .ok (.invokevirtual 59, 3) := by decide +kernel
theorem dX2_readRepeats_4 : decode cX2_readRepeats 4 = .ok (.bipush 49, 2) := by decide +kernel
theorem dX2_readRepeats_6 : decode cX2_readRepeats 6 = .ok (.bipush 57, 2) := by decide +kernel
theorem dX2_readRepeats_8 : decode cX2_readRepeats 8 = .ok (.invokestatic 52, 3) := by decide +kernel
theorem dX2_readRepeats_11 : decode cX2_readRepeats 11 = .ok (.ifCond .ne 5, 3) := by decide +kernel
theorem dX2_readRepeats_14 : decode cX2_readRepeats 14 = .ok (.iconst 0, 1) := by decide +kernel
theorem dX2_readRepeats_15 : decode cX2_readRepeats 15 = .ok (.ireturn, 1) := by decide +kernel
theorem dX2_readRepeats_16 : decode cX2_readRepeats 16 = .ok (.aload_n 0, 1) := by decide +kernel
theorem dX2_readRepeats_17 : decode cX2_readRepeats 17 = .ok (.aload_n 0, 1) := by decide +kernel
theorem dX2_readRepeats_18 : decode cX2_readRepeats 18 = .ok (.invokevirtual 59, 3) := by decide +kernel
theorem dX2_readRepeats_21 : decode cX2_readRepeats 21 = .ok (.bipush 48, 2) := by decide +kernel
theorem dX2_readRepeats_23 : decode cX2_readRepeats 23 = .ok (.isub, 1) := by decide +kernel
theorem dX2_readRepeats_24 : decode cX2_readRepeats 24 = .ok (.putfield 32, 3) := by decide +kernel
theorem dX2_readRepeats_27 : decode cX2_readRepeats 27 = .ok (.aload_n 0, 1) := by decide +kernel
theorem dX2_readRepeats_28 : decode cX2_readRepeats 28 = .ok (.dup, 1) := by decide +kernel
theorem dX2_readRepeats_29 : decode cX2_readRepeats 29 = .ok (.getfield 35, 3) := by decide +kernel
theorem dX2_readRepeats_32 : decode cX2_readRepeats 32 = .ok (.iconst 1, 1) := by decide +kernel
theorem dX2_readRepeats_33 : decode cX2_readRepeats 33 = .ok (.iadd, 1) := by decide +kernel
theorem dX2_readRepeats_34 : decode cX2_readRepeats 34 = .ok (.putfield 35, 3) := by decide +kernel
theorem dX2_readRepeats_37 : decode cX2_readRepeats 37 = .ok (.iconst 1, 1) := by decide +kernel
theorem dX2_readRepeats_38 : decode cX2_readRepeats 38 = .ok (.ireturn, 1) := by decide +kernel
theorem eX2_readRepeats_0 {a : Option Nat} {S : MM} : rn xX2_readRepeats (0, [some (.inr (.inl a))], [], S) = rn xX2_readRepeats (1, [some (.inr (.inl a))], [.inr (.inl a)], S) := rn_step dX2_readRepeats_0 rfl rfl
theorem eX2_readRepeats_1 {i : Nat} {l0 : Option VV} (h : kd i = 2) {S : MM} : rn xX2_readRepeats (1, [l0], [vR i], S) = (fX2_next [vR i] S).bind (fun q => rn xX2_readRepeats (4, [l0], q.1.toList ++ [], q.2)) := q_callV (n := 0) (as := []) (rest := []) dX2_readRepeats_1 rfl rfl rfl rfl h
theorem eX2_readRepeats_4 {l0 : Option VV} {v0 : VV} {S : MM} : rn xX2_readRepeats (4, [l0], [v0], S) = rn xX2_readRepeats (6, [l0], [vI 49, v0], S) := rn_step dX2_readRepeats_4 rfl rfl
theorem eX2_readRepeats_6 {l0 : Option VV} {v0 v1 : VV} {S : MM} : rn xX2_readRepeats (6, [l0], [v0, v1], S) = rn xX2_readRepeats (8, [l0], [vI 57, v0, v1], S) := rn_step dX2_readRepeats_6 rfl rfl
theorem eX2_readRepeats_8 {a0 : Int} {a1 : Int} {a2 : Int} {l0 : Option VV} {S : MM} : rn xX2_readRepeats (8, [l0], [vI a2, vI a1, vI a0], S) = (fX8_isBetween [vI a0, vI a1, vI a2] S).bind (fun q => rn xX2_readRepeats (11, [l0], q.1.toList ++ [], q.2)) := q_callS (n := 3) (as := [vI a0, vI a1, vI a2]) (rest := []) dX2_readRepeats_8 rfl rfl rfl rfl
theorem eX2_readRepeats_11 {a : Int} {l0 : Option VV} (h : -2147483648 ≤ a ∧ a ≤ 2147483647) {S : MM} : rn xX2_readRepeats (11, [l0], [vI a], S) = if a = 0 then rn xX2_readRepeats (14, [l0], [], S) else rn xX2_readRepeats (16, [l0], [], S) := q_if_ne dX2_readRepeats_11 (by decide) rfl h
theorem eX2_readRepeats_14 {l0 : Option VV} {S : MM} : rn xX2_readRepeats (14, [l0], [], S) = rn xX2_readRepeats (15, [l0], [vI 0], S) := rn_step dX2_readRepeats_14 rfl rfl
theorem eX2_readRepeats_15 {z : Int} {l0 : Option VV} (hz : z = 0 ∨ z = 1) {S : MM} : rn xX2_readRepeats (15, [l0], [vI z], S) = some (some (vI z), S) := q_retZ dX2_readRepeats_15 rfl hz
theorem eX2_readRepeats_16 {a : Option Nat} {S : MM} : rn xX2_readRepeats (16, [some (.inr (.inl a))], [], S) = rn xX2_readRepeats (17, [some (.inr (.inl a))], [.inr (.inl a)], S) := rn_step dX2_readRepeats_16 rfl rfl
theorem eX2_readRepeats_17 {a : Option Nat} {v0 : VV} {S : MM} : rn xX2_readRepeats (17, [some (.inr (.inl a))], [v0], S) = rn xX2_readRepeats (18, [some (.inr (.inl a))], [.inr (.inl a), v0], S) := rn_step dX2_readRepeats_17 rfl rfl
theorem eX2_readRepeats_18 {i : Nat} {l0 : Option VV} {v1 : VV} (h : kd i = 2) {S : MM} : rn xX2_readRepeats (18, [l0], [vR i, v1], S) = (fX2_next [vR i] S).bind (fun q => rn xX2_readRepeats (21, [l0], q.1.toList ++ [v1], q.2)) := q_callV (n := 0) (as := []) (rest := [v1]) dX2_readRepeats_18 rfl rfl rfl rfl h
theorem eX2_readRepeats_21 {l0 : Option VV} {v0 v1 : VV} {S : MM} : rn xX2_readRepeats (21, [l0], [v0, v1], S) = rn xX2_readRepeats (23, [l0], [vI 48, v0, v1], S) := rn_step dX2_readRepeats_21 rfl rfl
theorem eX2_readRepeats_23 {a b : Int} {l0 : Option VV} {v2 : VV} {S : MM} : rn xX2_readRepeats (23, [l0], [vI b, vI a, v2], S) = rn xX2_readRepeats (24, [l0], [vI (a - b), v2], S) := rn_step dX2_readRepeats_23 rfl rfl
theorem eX2_readRepeats_24 {z : Int} {i : Nat} {l0 : Option VV} (h : kd i = 2) {S : MM} : rn xX2_readRepeats (24, [l0], [vI z, vR i], S) = rn xX2_readRepeats (27, [l0], [], updM S i 7 z) := q_put dX2_readRepeats_24 rfl ⟨by decide, by decide⟩ rfl h
theorem eX2_readRepeats_27 {a : Option Nat} {S : MM} : rn xX2_readRepeats (27, [some (.inr (.inl a))], [], S) = rn xX2_readRepeats (28, [some (.inr (.inl a))], [.inr (.inl a)], S) := rn_step dX2_readRepeats_27 rfl rfl
theorem eX2_readRepeats_28 {a : Option Nat} {l0 : Option VV} {S : MM} : rn xX2_readRepeats (28, [l0], [.inr (.inl a)], S) = rn xX2_readRepeats (29, [l0], [.inr (.inl a), .inr (.inl a)], S) := rn_step dX2_readRepeats_28 rfl rfl
theorem eX2_readRepeats_29 {i : Nat} {l0 : Option VV} {v1 : VV} (h : kd i = 2) {S : MM} : rn xX2_readRepeats (29, [l0], [vR i, v1], S) = rn xX2_readRepeats (32, [l0], [vI (S i 2), v1], S) := q_getI dX2_readRepeats_29 rfl ⟨⟨by decide, by decide⟩, by decide⟩ h
theorem eX2_readRepeats_32 {l0 : Option VV} {v0 v1 : VV} {S : MM} : rn xX2_readRepeats (32, [l0], [v0, v1], S) = rn xX2_readRepeats (33, [l0], [vI 1, v0, v1], S) := rn_step dX2_readRepeats_32 rfl rfl
theorem eX2_readRepeats_33 {a b : Int} {l0 : Option VV} {v2 : VV} {S : MM} : rn xX2_readRepeats (33, [l0], [vI b, vI a, v2], S) = rn xX2_readRepeats (34, [l0], [vI (a + b), v2], S) := rn_step dX2_readRepeats_33 rfl rfl
theorem eX2_readRepeats_34 {z : Int} {i : Nat} {l0 : Option VV} (h : kd i = 2) {S : MM} : rn xX2_readRepeats (34, [l0], [vI z, vR i], S) = rn xX2_readRepeats (37, [l0], [], updM S i 2 z) := q_put dX2_readRepeats_34 rfl ⟨by decide, by decide⟩ rfl h
theorem eX2_readRepeats_37 {l0 : Option VV} {S : MM} : rn xX2_readRepeats (37, [l0], [], S) = rn xX2_readRepeats (38, [l0], [vI 1], S) := rn_step dX2_readRepeats_37 rfl rfl
theorem eX2_readRepeats_38 {z : Int} {l0 : Option VV} (hz : z = 0 ∨ z = 1) {S : MM} : rn xX2_readRepeats (38, [l0], [vI z], S) = some (some (vI z), S) := q_retZ dX2_readRepeats_38 rfl hz

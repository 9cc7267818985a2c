noncomputable def qlX9_ofRunning : List CE := [(0, 169, 9, 2, fX9_placeOf), (0, 57, 9, 2, fX9_stands)]
noncomputable def xX9_ofRunning : XX := (cX9_ofRunning, fcF fcl9, mcF qlX9_ofRunning, 1)
noncomputable def fX9_ofRunning : FN := fnX xX9_ofRunning 3
set_option maxRecDepth 100000 in
theorem cwX9_ofRunning : Cond.code yX9_ofRunning cX9_ofRunning 3 (some .int) ∈ lw_g := lw_gm 1118 (by decide +kernel) (by decide +kernel)
set_option maxRecDepth 100000 in
theorem conX9_ofRunning : Con yX9_ofRunning cX9_ofRunning 3 (some .int) { frames := 2, cells := 0, slots := 0, locals := 45 } fX9_ofRunning := con_of (X := xX9_ofRunning) (own := "LeapStonesModel") (ql := qlX9_ofRunning) (by decide) rfl FOK9 rfl (List.forall_mem_cons.mpr ⟨call_V conX9_placeOf cwX9_placeOf (lw_gl _ [1119, 1121, 53, 84] (by decide +kernel) (by decide +kernel)) (by decide) rfl ⟨by decide, by decide, by decide +kernel⟩ ⟨rfl, rfl⟩ ⟨by decide, by decide⟩ ⟨Nat.le_refl _, Nat.le_refl _⟩, List.forall_mem_cons.mpr ⟨call_V conX9_stands cwX9_stands (lw_gl _ [975, 977, 27, 84] (by decide +kernel) (by decide +kernel)) (by decide) rfl ⟨by decide, by decide, by decide +kernel⟩ ⟨rfl, rfl⟩ ⟨by decide, by decide⟩ ⟨Nat.le_refl _, Nat.le_refl _⟩, fun _ h => absurd h List.not_mem_nil⟩⟩) (Or.inr (Or.inl ⟨rfl, rfl⟩))
theorem uX9_ofRunning {i : Nat} {a0 : Int} {a1 : Int} {S : MM} : fX9_ofRunning [vR i, vI a0, vI a1] S = rn xX9_ofRunning (0, [some (vR i), some (vI a0), some (vI a1)], [], S) := rfl
theorem dX9_ofRunning_0 : decode cX9_ofRunning 0 = .ok (.iload_n 2, 1) := by decide +kernel
theorem dX9_ofRunning_1 : decode cX9_ofRunning 1 = .ok (.tableswitch 93 1 5 #[35, 41, 63, 73, 83], 35) := by decide +kernel
theorem dX9_ofRunning_36 : decode cX9_ofRunning 36 = .ok (.aload_n 0, 1) := by decide +kernel
theorem dX9_ofRunning_37 : decode cX9_ofRunning 37 = .ok (.iload_n 1, 1) := by decide +kernel
theorem dX9_ofRunning_38 : decode cX9_ofRunning 38 = .ok (.invokevirtual 169, 3) := by decide +kernel
theorem dX9_ofRunning_41 : decode cX9_ofRunning 41 = .ok (.ireturn, 1) := by decide +kernel
theorem dX9_ofRunning_42 : decode cX9_ofRunning 42 = .ok (.aload_n 0, 1) := by decide +kernel
theorem dX9_ofRunning_43 : decode cX9_ofRunning 43 = .ok (.iload_n 1, 1) := by decide +kernel
theorem dX9_ofRunning_44 : decode cX9_ofRunning 44 = .ok (.invokevirtual 57, 3) := by decide +kernel
theorem dX9_ofRunning_47 : decode cX9_ofRunning 47 = .ok (.sipush 300, 3) := by decide +kernel
theorem dX9_ofRunning_50 : decode cX9_ofRunning 50 = .ok (.if_icmp .ne 8, 3) := by decide +kernel
theorem dX9_ofRunning_53 : decode cX9_ofRunning 53 = .ok (.bipush (-6), 2) := by decide +kernel
theorem dX9_ofRunning_55 : decode cX9_ofRunning 55 = .ok (.goto 8, 3) := by decide +kernel
theorem dX9_ofRunning_58 : decode cX9_ofRunning 58 = .ok (.aload_n 0, 1) := by decide +kernel
theorem dX9_ofRunning_59 : decode cX9_ofRunning 59 = .ok (.iload_n 1, 1) := by decide +kernel
theorem dX9_ofRunning_60 : decode cX9_ofRunning 60 = .ok (.invokevirtual 57, 3) := by decide +kernel
theorem dX9_ofRunning_63 : decode cX9_ofRunning 63 = .ok (.ireturn, 1) := by decide +kernel
theorem dX9_ofRunning_64 : decode cX9_ofRunning 64 = .ok (.aload_n 0, 1) := by decide +kernel
theorem dX9_ofRunning_65 : decode cX9_ofRunning 65 = .ok (.getfield 7, 3) := by decide +kernel
theorem dX9_ofRunning_68 : decode cX9_ofRunning 68 = .ok (.bipush 8, 2) := by decide +kernel
theorem dX9_ofRunning_70 : decode cX9_ofRunning 70 = .ok (.iload_n 1, 1) := by decide +kernel
theorem dX9_ofRunning_71 : decode cX9_ofRunning 71 = .ok (.iadd, 1) := by decide +kernel
theorem dX9_ofRunning_72 : decode cX9_ofRunning 72 = .ok (.iaload, 1) := by decide +kernel
theorem dX9_ofRunning_73 : decode cX9_ofRunning 73 = .ok (.ireturn, 1) := by decide +kernel
theorem dX9_ofRunning_74 : decode cX9_ofRunning 74 = .ok (.aload_n 0, 1) := by decide +kernel
theorem dX9_ofRunning_75 : decode cX9_ofRunning 75 = .ok (.getfield 7, 3) := by decide +kernel
theorem dX9_ofRunning_78 : decode cX9_ofRunning 78 = .ok (.bipush 11, 2) := by decide +kernel
theorem dX9_ofRunning_80 : decode cX9_ofRunning 80 = .ok (.iload_n 1, 1) := by decide +kernel
theorem dX9_ofRunning_81 : decode cX9_ofRunning 81 = .ok (.iadd, 1) := by decide +kernel
theorem dX9_ofRunning_82 : decode cX9_ofRunning 82 = .ok (.iaload, 1) := by decide +kernel
theorem dX9_ofRunning_83 : decode cX9_ofRunning 83 = .ok (.ireturn, 1) := by decide +kernel
theorem dX9_ofRunning_84 : decode cX9_ofRunning 84 = .ok (.aload_n 0, 1) := by decide +kernel
theorem dX9_ofRunning_85 : decode cX9_ofRunning 85 = .ok (.getfield 7, 3) := by decide +kernel
theorem dX9_ofRunning_88 : decode cX9_ofRunning 88 = .ok (.bipush 14, 2) := by decide +kernel
theorem dX9_ofRunning_90 : decode cX9_ofRunning 90 = .ok (.iload_n 1, 1) := by decide +kernel
theorem dX9_ofRunning_91 : decode cX9_ofRunning 91 = .ok (.iadd, 1) := by decide +kernel
theorem dX9_ofRunning_92 : decode cX9_ofRunning 92 = .ok (.iaload, 1) := by decide +kernel
theorem dX9_ofRunning_93 : decode cX9_ofRunning 93 = .ok (.ireturn, 1) := by decide +kernel
theorem dX9_ofRunning_94 : decode cX9_ofRunning 94 = .ok (.aload_n 0, 1) := by decide +kernel
theorem dX9_ofRunning_95 : decode cX9_ofRunning 95 = .ok (.getfield 7, 3) := by decide +kernel
theorem dX9_ofRunning_98 : decode cX9_ofRunning 98 = .ok (.bipush 17, 2) := by decide +kernel
theorem dX9_ofRunning_100 : decode cX9_ofRunning 100 = .ok (.iload_n 1, 1) := by decide +kernel
theorem dX9_ofRunning_101 : decode cX9_ofRunning 101 = .ok (.iadd, 1) := by decide +kernel
theorem dX9_ofRunning_102 : decode cX9_ofRunning 102 = .ok (.iaload, 1) := by decide +kernel
theorem dX9_ofRunning_103 : decode cX9_ofRunning 103 = .ok (.ireturn, 1) := by decide +kernel
theorem eX9_ofRunning_0 {a : Int} {l0 l1 : Option VV} {S : MM} : rn xX9_ofRunning (0, [l0, l1, some (vI a)], [], S) = rn xX9_ofRunning (1, [l0, l1, some (vI a)], [vI a], S) := rn_step dX9_ofRunning_0 rfl rfl
theorem eX9_ofRunning_1 {a : Int} {l0 l1 l2 : Option VV} (h : -2147483648 ≤ a ∧ a ≤ 2147483647) {S : MM} : rn xX9_ofRunning (1, [l0, l1, l2], [vI a], S) = if a = 1 then rn xX9_ofRunning (36, [l0, l1, l2], [], S) else if a = 2 then rn xX9_ofRunning (42, [l0, l1, l2], [], S) else if a = 3 then rn xX9_ofRunning (64, [l0, l1, l2], [], S) else if a = 4 then rn xX9_ofRunning (74, [l0, l1, l2], [], S) else if a = 5 then rn xX9_ofRunning (84, [l0, l1, l2], [], S) else rn xX9_ofRunning (94, [l0, l1, l2], [], S) := by
  by_cases c0 : a = 1
  · subst c0; rw [if_pos rfl]; exact q_tab (X := xX9_ofRunning) (pc := 1) (L := [l0, l1, l2]) (st := []) (S := S) (x := 1) (t := 36) dX9_ofRunning_1 h (by decide) rfl (by decide) rfl
  rw [if_neg c0]
  by_cases c1 : a = 2
  · subst c1; rw [if_pos rfl]; exact q_tab (X := xX9_ofRunning) (pc := 1) (L := [l0, l1, l2]) (st := []) (S := S) (x := 2) (t := 42) dX9_ofRunning_1 h (by decide) rfl (by decide) rfl
  rw [if_neg c1]
  by_cases c2 : a = 3
  · subst c2; rw [if_pos rfl]; exact q_tab (X := xX9_ofRunning) (pc := 1) (L := [l0, l1, l2]) (st := []) (S := S) (x := 3) (t := 64) dX9_ofRunning_1 h (by decide) rfl (by decide) rfl
  rw [if_neg c2]
  by_cases c3 : a = 4
  · subst c3; rw [if_pos rfl]; exact q_tab (X := xX9_ofRunning) (pc := 1) (L := [l0, l1, l2]) (st := []) (S := S) (x := 4) (t := 74) dX9_ofRunning_1 h (by decide) rfl (by decide) rfl
  rw [if_neg c3]
  by_cases c4 : a = 5
  · subst c4; rw [if_pos rfl]; exact q_tab (X := xX9_ofRunning) (pc := 1) (L := [l0, l1, l2]) (st := []) (S := S) (x := 5) (t := 84) dX9_ofRunning_1 h (by decide) rfl (by decide) rfl
  rw [if_neg c4]
  exact q_tabD (X := xX9_ofRunning) (pc := 1) (L := [l0, l1, l2]) (st := []) (S := S) (x := a) (t := 94) dX9_ofRunning_1 h (by omega) (by decide) rfl
theorem eX9_ofRunning_36 {a : Option Nat} {l1 l2 : Option VV} {S : MM} : rn xX9_ofRunning (36, [some (.inr (.inl a)), l1, l2], [], S) = rn xX9_ofRunning (37, [some (.inr (.inl a)), l1, l2], [.inr (.inl a)], S) := rn_step dX9_ofRunning_36 rfl rfl
theorem eX9_ofRunning_37 {a : Int} {l0 l2 : Option VV} {v0 : VV} {S : MM} : rn xX9_ofRunning (37, [l0, some (vI a), l2], [v0], S) = rn xX9_ofRunning (38, [l0, some (vI a), l2], [vI a, v0], S) := rn_step dX9_ofRunning_37 rfl rfl
theorem eX9_ofRunning_38 {a0 : Int} {l0 l1 l2 : Option VV} {S : MM} : rn xX9_ofRunning (38, [l0, l1, l2], [vI a0, vR 593], S) = (fX9_placeOf [vR 593, vI a0] S).bind (fun q => rn xX9_ofRunning (41, [l0, l1, l2], q.1.toList ++ [], q.2)) := q_callV (n := 1) (as := [vI a0]) (rest := []) dX9_ofRunning_38 rfl rfl rfl rfl kd593
theorem eX9_ofRunning_41 {z : Int} {l0 l1 l2 : Option VV} {S : MM} : rn xX9_ofRunning (41, [l0, l1, l2], [vI z], S) = some (some (vI z), S) := q_retI dX9_ofRunning_41 rfl
theorem eX9_ofRunning_42 {a : Option Nat} {l1 l2 : Option VV} {S : MM} : rn xX9_ofRunning (42, [some (.inr (.inl a)), l1, l2], [], S) = rn xX9_ofRunning (43, [some (.inr (.inl a)), l1, l2], [.inr (.inl a)], S) := rn_step dX9_ofRunning_42 rfl rfl
theorem eX9_ofRunning_43 {a : Int} {l0 l2 : Option VV} {v0 : VV} {S : MM} : rn xX9_ofRunning (43, [l0, some (vI a), l2], [v0], S) = rn xX9_ofRunning (44, [l0, some (vI a), l2], [vI a, v0], S) := rn_step dX9_ofRunning_43 rfl rfl
theorem eX9_ofRunning_44 {a0 : Int} {l0 l1 l2 : Option VV} {S : MM} : rn xX9_ofRunning (44, [l0, l1, l2], [vI a0, vR 593], S) = (fX9_stands [vR 593, vI a0] S).bind (fun q => rn xX9_ofRunning (47, [l0, l1, l2], q.1.toList ++ [], q.2)) := q_callV (n := 1) (as := [vI a0]) (rest := []) dX9_ofRunning_44 rfl rfl rfl rfl kd593
theorem eX9_ofRunning_47 {l0 l1 l2 : Option VV} {v0 : VV} {S : MM} : rn xX9_ofRunning (47, [l0, l1, l2], [v0], S) = rn xX9_ofRunning (50, [l0, l1, l2], [vI 300, v0], S) := rn_step dX9_ofRunning_47 rfl rfl
theorem eX9_ofRunning_50 {a b : Int} {l0 l1 l2 : Option VV} (h : -2147483648 ≤ a ∧ a ≤ 2147483647) (h1 : -2147483648 ≤ b ∧ b ≤ 2147483647) {S : MM} : rn xX9_ofRunning (50, [l0, l1, l2], [vI b, vI a], S) = if a = b then rn xX9_ofRunning (53, [l0, l1, l2], [], S) else rn xX9_ofRunning (58, [l0, l1, l2], [], S) := q_icmp_ne dX9_ofRunning_50 (by decide) rfl h h1
theorem eX9_ofRunning_53 {l0 l1 l2 : Option VV} {S : MM} : rn xX9_ofRunning (53, [l0, l1, l2], [], S) = rn xX9_ofRunning (55, [l0, l1, l2], [vI (-6)], S) := rn_step dX9_ofRunning_53 rfl rfl
theorem eX9_ofRunning_55 {l0 l1 l2 : Option VV} {v0 : VV} {S : MM} : rn xX9_ofRunning (55, [l0, l1, l2], [v0], S) = rn xX9_ofRunning (63, [l0, l1, l2], [v0], S) := rn_step dX9_ofRunning_55 rfl rfl
theorem eX9_ofRunning_58 {a : Option Nat} {l1 l2 : Option VV} {S : MM} : rn xX9_ofRunning (58, [some (.inr (.inl a)), l1, l2], [], S) = rn xX9_ofRunning (59, [some (.inr (.inl a)), l1, l2], [.inr (.inl a)], S) := rn_step dX9_ofRunning_58 rfl rfl
theorem eX9_ofRunning_59 {a : Int} {l0 l2 : Option VV} {v0 : VV} {S : MM} : rn xX9_ofRunning (59, [l0, some (vI a), l2], [v0], S) = rn xX9_ofRunning (60, [l0, some (vI a), l2], [vI a, v0], S) := rn_step dX9_ofRunning_59 rfl rfl
theorem eX9_ofRunning_60 {a0 : Int} {l0 l1 l2 : Option VV} {S : MM} : rn xX9_ofRunning (60, [l0, l1, l2], [vI a0, vR 593], S) = (fX9_stands [vR 593, vI a0] S).bind (fun q => rn xX9_ofRunning (63, [l0, l1, l2], q.1.toList ++ [], q.2)) := q_callV (n := 1) (as := [vI a0]) (rest := []) dX9_ofRunning_60 rfl rfl rfl rfl kd593
theorem eX9_ofRunning_63 {z : Int} {l0 l1 l2 : Option VV} {S : MM} : rn xX9_ofRunning (63, [l0, l1, l2], [vI z], S) = some (some (vI z), S) := q_retI dX9_ofRunning_63 rfl
theorem eX9_ofRunning_64 {a : Option Nat} {l1 l2 : Option VV} {S : MM} : rn xX9_ofRunning (64, [some (.inr (.inl a)), l1, l2], [], S) = rn xX9_ofRunning (65, [some (.inr (.inl a)), l1, l2], [.inr (.inl a)], S) := rn_step dX9_ofRunning_64 rfl rfl
theorem eX9_ofRunning_65 {l0 l1 l2 : Option VV} {S : MM} : rn xX9_ofRunning (65, [l0, l1, l2], [vR 593], S) = rn xX9_ofRunning (68, [l0, l1, l2], [vR 594], S) := q_getR dX9_ofRunning_65 rfl ⟨⟨by decide, by decide⟩, by decide⟩ (fun _ => by decide +kernel) kd593
theorem eX9_ofRunning_68 {l0 l1 l2 : Option VV} {v0 : VV} {S : MM} : rn xX9_ofRunning (68, [l0, l1, l2], [v0], S) = rn xX9_ofRunning (70, [l0, l1, l2], [vI 8, v0], S) := rn_step dX9_ofRunning_68 rfl rfl
theorem eX9_ofRunning_70 {a : Int} {l0 l2 : Option VV} {v0 v1 : VV} {S : MM} : rn xX9_ofRunning (70, [l0, some (vI a), l2], [v0, v1], S) = rn xX9_ofRunning (71, [l0, some (vI a), l2], [vI a, v0, v1], S) := rn_step dX9_ofRunning_70 rfl rfl
theorem eX9_ofRunning_71 {a b : Int} {l0 l1 l2 : Option VV} {v2 : VV} {S : MM} : rn xX9_ofRunning (71, [l0, l1, l2], [vI b, vI a, v2], S) = rn xX9_ofRunning (72, [l0, l1, l2], [vI (a + b), v2], S) := rn_step dX9_ofRunning_71 rfl rfl
theorem eX9_ofRunning_72 {i : Nat} {j : Int} {l0 l1 l2 : Option VV} (h : kd i = 10) (h0 : 0 ≤ j) (h1 : j < alen i) {S : MM} : rn xX9_ofRunning (72, [l0, l1, l2], [vI j, vR i], S) = rn xX9_ofRunning (73, [l0, l1, l2], [vI (S i j.toNat)], S) := q_iald dX9_ofRunning_72 h h0 h1
theorem eX9_ofRunning_72x {j : Int} {l0 l1 l2 : Option VV} {S : MM} (h0 : 0 ≤ j) (h1 : j < S 604 0) : rn xX9_ofRunning (72, [l0, l1, l2], [vI j, vR 602], S) = rn xX9_ofRunning (73, [l0, l1, l2], [vI (S 602 j.toNat)], S) := q_ialdX dX9_ofRunning_72 h0 h1
theorem eX9_ofRunning_72y {j : Int} {l0 l1 l2 : Option VV} {S : MM} (h0 : 0 ≤ j) (h1 : j < S 604 1) : rn xX9_ofRunning (72, [l0, l1, l2], [vI j, vR 603], S) = rn xX9_ofRunning (73, [l0, l1, l2], [vI (S 603 j.toNat)], S) := q_ialdY dX9_ofRunning_72 h0 h1
theorem eX9_ofRunning_73 {z : Int} {l0 l1 l2 : Option VV} {S : MM} : rn xX9_ofRunning (73, [l0, l1, l2], [vI z], S) = some (some (vI z), S) := q_retI dX9_ofRunning_73 rfl
theorem eX9_ofRunning_74 {a : Option Nat} {l1 l2 : Option VV} {S : MM} : rn xX9_ofRunning (74, [some (.inr (.inl a)), l1, l2], [], S) = rn xX9_ofRunning (75, [some (.inr (.inl a)), l1, l2], [.inr (.inl a)], S) := rn_step dX9_ofRunning_74 rfl rfl
theorem eX9_ofRunning_75 {l0 l1 l2 : Option VV} {S : MM} : rn xX9_ofRunning (75, [l0, l1, l2], [vR 593], S) = rn xX9_ofRunning (78, [l0, l1, l2], [vR 594], S) := q_getR dX9_ofRunning_75 rfl ⟨⟨by decide, by decide⟩, by decide⟩ (fun _ => by decide +kernel) kd593
theorem eX9_ofRunning_78 {l0 l1 l2 : Option VV} {v0 : VV} {S : MM} : rn xX9_ofRunning (78, [l0, l1, l2], [v0], S) = rn xX9_ofRunning (80, [l0, l1, l2], [vI 11, v0], S) := rn_step dX9_ofRunning_78 rfl rfl
theorem eX9_ofRunning_80 {a : Int} {l0 l2 : Option VV} {v0 v1 : VV} {S : MM} : rn xX9_ofRunning (80, [l0, some (vI a), l2], [v0, v1], S) = rn xX9_ofRunning (81, [l0, some (vI a), l2], [vI a, v0, v1], S) := rn_step dX9_ofRunning_80 rfl rfl
theorem eX9_ofRunning_81 {a b : Int} {l0 l1 l2 : Option VV} {v2 : VV} {S : MM} : rn xX9_ofRunning (81, [l0, l1, l2], [vI b, vI a, v2], S) = rn xX9_ofRunning (82, [l0, l1, l2], [vI (a + b), v2], S) := rn_step dX9_ofRunning_81 rfl rfl
theorem eX9_ofRunning_82 {i : Nat} {j : Int} {l0 l1 l2 : Option VV} (h : kd i = 10) (h0 : 0 ≤ j) (h1 : j < alen i) {S : MM} : rn xX9_ofRunning (82, [l0, l1, l2], [vI j, vR i], S) = rn xX9_ofRunning (83, [l0, l1, l2], [vI (S i j.toNat)], S) := q_iald dX9_ofRunning_82 h h0 h1
theorem eX9_ofRunning_82x {j : Int} {l0 l1 l2 : Option VV} {S : MM} (h0 : 0 ≤ j) (h1 : j < S 604 0) : rn xX9_ofRunning (82, [l0, l1, l2], [vI j, vR 602], S) = rn xX9_ofRunning (83, [l0, l1, l2], [vI (S 602 j.toNat)], S) := q_ialdX dX9_ofRunning_82 h0 h1
theorem eX9_ofRunning_82y {j : Int} {l0 l1 l2 : Option VV} {S : MM} (h0 : 0 ≤ j) (h1 : j < S 604 1) : rn xX9_ofRunning (82, [l0, l1, l2], [vI j, vR 603], S) = rn xX9_ofRunning (83, [l0, l1, l2], [vI (S 603 j.toNat)], S) := q_ialdY dX9_ofRunning_82 h0 h1
theorem eX9_ofRunning_83 {z : Int} {l0 l1 l2 : Option VV} {S : MM} : rn xX9_ofRunning (83, [l0, l1, l2], [vI z], S) = some (some (vI z), S) := q_retI dX9_ofRunning_83 rfl
theorem eX9_ofRunning_84 {a : Option Nat} {l1 l2 : Option VV} {S : MM} : rn xX9_ofRunning (84, [some (.inr (.inl a)), l1, l2], [], S) = rn xX9_ofRunning (85, [some (.inr (.inl a)), l1, l2], [.inr (.inl a)], S) := rn_step dX9_ofRunning_84 rfl rfl
theorem eX9_ofRunning_85 {l0 l1 l2 : Option VV} {S : MM} : rn xX9_ofRunning (85, [l0, l1, l2], [vR 593], S) = rn xX9_ofRunning (88, [l0, l1, l2], [vR 594], S) := q_getR dX9_ofRunning_85 rfl ⟨⟨by decide, by decide⟩, by decide⟩ (fun _ => by decide +kernel) kd593
theorem eX9_ofRunning_88 {l0 l1 l2 : Option VV} {v0 : VV} {S : MM} : rn xX9_ofRunning (88, [l0, l1, l2], [v0], S) = rn xX9_ofRunning (90, [l0, l1, l2], [vI 14, v0], S) := rn_step dX9_ofRunning_88 rfl rfl
theorem eX9_ofRunning_90 {a : Int} {l0 l2 : Option VV} {v0 v1 : VV} {S : MM} : rn xX9_ofRunning (90, [l0, some (vI a), l2], [v0, v1], S) = rn xX9_ofRunning (91, [l0, some (vI a), l2], [vI a, v0, v1], S) := rn_step dX9_ofRunning_90 rfl rfl
theorem eX9_ofRunning_91 {a b : Int} {l0 l1 l2 : Option VV} {v2 : VV} {S : MM} : rn xX9_ofRunning (91, [l0, l1, l2], [vI b, vI a, v2], S) = rn xX9_ofRunning (92, [l0, l1, l2], [vI (a + b), v2], S) := rn_step dX9_ofRunning_91 rfl rfl
theorem eX9_ofRunning_92 {i : Nat} {j : Int} {l0 l1 l2 : Option VV} (h : kd i = 10) (h0 : 0 ≤ j) (h1 : j < alen i) {S : MM} : rn xX9_ofRunning (92, [l0, l1, l2], [vI j, vR i], S) = rn xX9_ofRunning (93, [l0, l1, l2], [vI (S i j.toNat)], S) := q_iald dX9_ofRunning_92 h h0 h1
theorem eX9_ofRunning_92x {j : Int} {l0 l1 l2 : Option VV} {S : MM} (h0 : 0 ≤ j) (h1 : j < S 604 0) : rn xX9_ofRunning (92, [l0, l1, l2], [vI j, vR 602], S) = rn xX9_ofRunning (93, [l0, l1, l2], [vI (S 602 j.toNat)], S) := q_ialdX dX9_ofRunning_92 h0 h1
theorem eX9_ofRunning_92y {j : Int} {l0 l1 l2 : Option VV} {S : MM} (h0 : 0 ≤ j) (h1 : j < S 604 1) : rn xX9_ofRunning (92, [l0, l1, l2], [vI j, vR 603], S) = rn xX9_ofRunning (93, [l0, l1, l2], [vI (S 603 j.toNat)], S) := q_ialdY dX9_ofRunning_92 h0 h1
theorem eX9_ofRunning_93 {z : Int} {l0 l1 l2 : Option VV} {S : MM} : rn xX9_ofRunning (93, [l0, l1, l2], [vI z], S) = some (some (vI z), S) := q_retI dX9_ofRunning_93 rfl
theorem eX9_ofRunning_94 {a : Option Nat} {l1 l2 : Option VV} {S : MM} : rn xX9_ofRunning (94, [some (.inr (.inl a)), l1, l2], [], S) = rn xX9_ofRunning (95, [some (.inr (.inl a)), l1, l2], [.inr (.inl a)], S) := rn_step dX9_ofRunning_94 rfl rfl
theorem eX9_ofRunning_95 {l0 l1 l2 : Option VV} {S : MM} : rn xX9_ofRunning (95, [l0, l1, l2], [vR 593], S) = rn xX9_ofRunning (98, [l0, l1, l2], [vR 594], S) := q_getR dX9_ofRunning_95 rfl ⟨⟨by decide, by decide⟩, by decide⟩ (fun _ => by decide +kernel) kd593
theorem eX9_ofRunning_98 {l0 l1 l2 : Option VV} {v0 : VV} {S : MM} : rn xX9_ofRunning (98, [l0, l1, l2], [v0], S) = rn xX9_ofRunning (100, [l0, l1, l2], [vI 17, v0], S) := rn_step dX9_ofRunning_98 rfl rfl
theorem eX9_ofRunning_100 {a : Int} {l0 l2 : Option VV} {v0 v1 : VV} {S : MM} : rn xX9_ofRunning (100, [l0, some (vI a), l2], [v0, v1], S) = rn xX9_ofRunning (101, [l0, some (vI a), l2], [vI a, v0, v1], S) := rn_step dX9_ofRunning_100 rfl rfl
theorem eX9_ofRunning_101 {a b : Int} {l0 l1 l2 : Option VV} {v2 : VV} {S : MM} : rn xX9_ofRunning (101, [l0, l1, l2], [vI b, vI a, v2], S) = rn xX9_ofRunning (102, [l0, l1, l2], [vI (a + b), v2], S) := rn_step dX9_ofRunning_101 rfl rfl
theorem eX9_ofRunning_102 {i : Nat} {j : Int} {l0 l1 l2 : Option VV} (h : kd i = 10) (h0 : 0 ≤ j) (h1 : j < alen i) {S : MM} : rn xX9_ofRunning (102, [l0, l1, l2], [vI j, vR i], S) = rn xX9_ofRunning (103, [l0, l1, l2], [vI (S i j.toNat)], S) := q_iald dX9_ofRunning_102 h h0 h1
theorem eX9_ofRunning_102x {j : Int} {l0 l1 l2 : Option VV} {S : MM} (h0 : 0 ≤ j) (h1 : j < S 604 0) : rn xX9_ofRunning (102, [l0, l1, l2], [vI j, vR 602], S) = rn xX9_ofRunning (103, [l0, l1, l2], [vI (S 602 j.toNat)], S) := q_ialdX dX9_ofRunning_102 h0 h1
theorem eX9_ofRunning_102y {j : Int} {l0 l1 l2 : Option VV} {S : MM} (h0 : 0 ≤ j) (h1 : j < S 604 1) : rn xX9_ofRunning (102, [l0, l1, l2], [vI j, vR 603], S) = rn xX9_ofRunning (103, [l0, l1, l2], [vI (S 603 j.toNat)], S) := q_ialdY dX9_ofRunning_102 h0 h1
theorem eX9_ofRunning_103 {z : Int} {l0 l1 l2 : Option VV} {S : MM} : rn xX9_ofRunning (103, [l0, l1, l2], [vI z], S) = some (some (vI z), S) := q_retI dX9_ofRunning_103 rfl
noncomputable def qlX9_ofWalker : List CE := [(1, 123, 0, 1, fX9_isWalker), (1, 35, 0, 3, fX9_in), (0, 129, 9, 2, fX9_stonesOf), (0, 172, 9, 3, fX9_ofRunning)]
noncomputable def xX9_ofWalker : XX := (cX9_ofWalker, fcF fcl9, mcF qlX9_ofWalker, 1)
noncomputable def fX9_ofWalker : FN := fnX xX9_ofWalker 3
set_option maxRecDepth 100000 in
theorem cwX9_ofWalker : Cond.code yX9_ofWalker cX9_ofWalker 3 (some .int) ∈ lw_g := lw_gm 1114 (by decide +kernel) (by decide +kernel)
set_option maxRecDepth 100000 in
theorem conX9_ofWalker : Con yX9_ofWalker cX9_ofWalker 3 (some .int) { frames := 3, cells := 0, slots := 0, locals := 67 } fX9_ofWalker := con_of (X := xX9_ofWalker) (own := "LeapStonesModel") (ql := qlX9_ofWalker) (by decide) rfl FOK9 rfl (List.forall_mem_cons.mpr ⟨call_S conX9_isWalker cwX9_isWalker (lw_gl _ [1054, 1055, 84] (by decide +kernel) (by decide +kernel)) ⟨by decide, by decide, by decide +kernel⟩ ⟨rfl, rfl⟩ ⟨by decide, by decide⟩ ⟨Nat.le_refl _, Nat.le_refl _⟩, List.forall_mem_cons.mpr ⟨call_S conX9_in cwX9_in (lw_gl _ [1043, 1044, 84] (by decide +kernel) (by decide +kernel)) ⟨by decide, by decide, by decide +kernel⟩ ⟨rfl, rfl⟩ ⟨by decide, by decide⟩ ⟨Nat.le_refl _, Nat.le_refl _⟩, List.forall_mem_cons.mpr ⟨call_V conX9_stonesOf cwX9_stonesOf (lw_gl _ [1060, 1062, 42, 84] (by decide +kernel) (by decide +kernel)) (by decide) rfl ⟨by decide, by decide, by decide +kernel⟩ ⟨rfl, rfl⟩ ⟨by decide, by decide⟩ ⟨Nat.le_refl _, Nat.le_refl _⟩, List.forall_mem_cons.mpr ⟨call_V conX9_ofRunning cwX9_ofRunning (lw_gl _ [1115, 1117, 52, 84] (by decide +kernel) (by decide +kernel)) (by decide) rfl ⟨by decide, by decide, by decide +kernel⟩ ⟨rfl, rfl⟩ ⟨by decide, by decide⟩ ⟨Nat.le_refl _, Nat.le_refl _⟩, fun _ h => absurd h List.not_mem_nil⟩⟩⟩⟩) (Or.inr (Or.inl ⟨rfl, rfl⟩))
theorem uX9_ofWalker {i : Nat} {a0 : Int} {a1 : Int} {S : MM} : fX9_ofWalker [vR i, vI a0, vI a1] S = rn xX9_ofWalker (0, [some (vR i), some (vI a0), some (vI a1)], [], S) := rfl
theorem dX9_ofWalker_0 : decode cX9_ofWalker 0 = .ok (.iload_n 1, 1) := by decide +kernel
theorem dX9_ofWalker_1 : decode cX9_ofWalker 1 = .ok (.invokestatic 123, 3) := by decide +kernel
theorem dX9_ofWalker_4 : decode cX9_ofWalker 4 = .ok (.ifCond .ne 5, 3) := by decide +kernel
theorem dX9_ofWalker_7 : decode cX9_ofWalker 7 = .ok (.iconst (-1), 1) := by decide +kernel
theorem dX9_ofWalker_8 : decode cX9_ofWalker 8 = .ok (.ireturn, 1) := by decide +kernel
theorem dX9_ofWalker_9 : decode cX9_ofWalker 9 = .ok (.iload_n 2, 1) := by decide +kernel
theorem dX9_ofWalker_10 : decode cX9_ofWalker 10 = .ok (.iconst 0, 1) := by decide +kernel
theorem dX9_ofWalker_11 : decode cX9_ofWalker 11 = .ok (.bipush 6, 2) := by decide +kernel
theorem dX9_ofWalker_13 : decode cX9_ofWalker 13 = .ok (.invokestatic 35, 3) := by decide +kernel
theorem dX9_ofWalker_16 : decode cX9_ofWalker 16 = .ok (.ifCond .ne 6, 3) := by decide +kernel
theorem dX9_ofWalker_19 : decode cX9_ofWalker 19 = .ok (.bipush (-2), 2) := by decide +kernel
theorem dX9_ofWalker_21 : decode cX9_ofWalker 21 = .ok (.ireturn, 1) := by decide +kernel
theorem dX9_ofWalker_22 : decode cX9_ofWalker 22 = .ok (.iload_n 2, 1) := by decide +kernel
theorem dX9_ofWalker_23 : decode cX9_ofWalker 23 = .ok (.ifCond .ne 11, 3) := by decide +kernel
theorem dX9_ofWalker_26 : decode cX9_ofWalker 26 = .ok (.aload_n 0, 1) := by decide +kernel
theorem dX9_ofWalker_27 : decode cX9_ofWalker 27 = .ok (.iload_n 1, 1) := by decide +kernel
theorem dX9_ofWalker_28 : decode cX9_ofWalker 28 = .ok (.invokevirtual 129, 3) := by decide +kernel
theorem dX9_ofWalker_31 : decode cX9_ofWalker 31 = .ok (.goto 23, 3) := by decide +kernel
theorem dX9_ofWalker_34 : decode cX9_ofWalker 34 = .ok (.aload_n 0, 1) := by decide +kernel
theorem dX9_ofWalker_35 : decode cX9_ofWalker 35 = .ok (.getfield 7, 3) := by decide +kernel
theorem dX9_ofWalker_38 : decode cX9_ofWalker 38 = .ok (.iconst 4, 1) := by decide +kernel
theorem dX9_ofWalker_39 : decode cX9_ofWalker 39 = .ok (.iaload, 1) := by decide +kernel
theorem dX9_ofWalker_40 : decode cX9_ofWalker 40 = .ok (.ifCond .ne 8, 3) := by decide +kernel
theorem dX9_ofWalker_43 : decode cX9_ofWalker 43 = .ok (.bipush (-6), 2) := by decide +kernel
theorem dX9_ofWalker_45 : decode cX9_ofWalker 45 = .ok (.goto 9, 3) := by decide +kernel
theorem dX9_ofWalker_48 : decode cX9_ofWalker 48 = .ok (.aload_n 0, 1) := by decide +kernel
theorem dX9_ofWalker_49 : decode cX9_ofWalker 49 = .ok (.iload_n 1, 1) := by decide +kernel
theorem dX9_ofWalker_50 : decode cX9_ofWalker 50 = .ok (.iload_n 2, 1) := by decide +kernel
theorem dX9_ofWalker_51 : decode cX9_ofWalker 51 = .ok (.invokevirtual 172, 3) := by decide +kernel
theorem dX9_ofWalker_54 : decode cX9_ofWalker 54 = .ok (.ireturn, 1) := by decide +kernel
theorem eX9_ofWalker_0 {a : Int} {l0 l2 : Option VV} {S : MM} : rn xX9_ofWalker (0, [l0, some (vI a), l2], [], S) = rn xX9_ofWalker (1, [l0, some (vI a), l2], [vI a], S) := rn_step dX9_ofWalker_0 rfl rfl
theorem eX9_ofWalker_1 {a0 : Int} {l0 l1 l2 : Option VV} {S : MM} : rn xX9_ofWalker (1, [l0, l1, l2], [vI a0], S) = (fX9_isWalker [vI a0] S).bind (fun q => rn xX9_ofWalker (4, [l0, l1, l2], q.1.toList ++ [], q.2)) := q_callS (n := 1) (as := [vI a0]) (rest := []) dX9_ofWalker_1 rfl rfl rfl rfl
theorem eX9_ofWalker_4 {a : Int} {l0 l1 l2 : Option VV} (h : -2147483648 ≤ a ∧ a ≤ 2147483647) {S : MM} : rn xX9_ofWalker (4, [l0, l1, l2], [vI a], S) = if a = 0 then rn xX9_ofWalker (7, [l0, l1, l2], [], S) else rn xX9_ofWalker (9, [l0, l1, l2], [], S) := q_if_ne dX9_ofWalker_4 (by decide) rfl h
theorem eX9_ofWalker_7 {l0 l1 l2 : Option VV} {S : MM} : rn xX9_ofWalker (7, [l0, l1, l2], [], S) = rn xX9_ofWalker (8, [l0, l1, l2], [vI (-1)], S) := rn_step dX9_ofWalker_7 rfl rfl
theorem eX9_ofWalker_8 {z : Int} {l0 l1 l2 : Option VV} {S : MM} : rn xX9_ofWalker (8, [l0, l1, l2], [vI z], S) = some (some (vI z), S) := q_retI dX9_ofWalker_8 rfl
theorem eX9_ofWalker_9 {a : Int} {l0 l1 : Option VV} {S : MM} : rn xX9_ofWalker (9, [l0, l1, some (vI a)], [], S) = rn xX9_ofWalker (10, [l0, l1, some (vI a)], [vI a], S) := rn_step dX9_ofWalker_9 rfl rfl
theorem eX9_ofWalker_10 {l0 l1 l2 : Option VV} {v0 : VV} {S : MM} : rn xX9_ofWalker (10, [l0, l1, l2], [v0], S) = rn xX9_ofWalker (11, [l0, l1, l2], [vI 0, v0], S) := rn_step dX9_ofWalker_10 rfl rfl
theorem eX9_ofWalker_11 {l0 l1 l2 : Option VV} {v0 v1 : VV} {S : MM} : rn xX9_ofWalker (11, [l0, l1, l2], [v0, v1], S) = rn xX9_ofWalker (13, [l0, l1, l2], [vI 6, v0, v1], S) := rn_step dX9_ofWalker_11 rfl rfl
theorem eX9_ofWalker_13 {a0 : Int} {a1 : Int} {a2 : Int} {l0 l1 l2 : Option VV} {S : MM} : rn xX9_ofWalker (13, [l0, l1, l2], [vI a2, vI a1, vI a0], S) = (fX9_in [vI a0, vI a1, vI a2] S).bind (fun q => rn xX9_ofWalker (16, [l0, l1, l2], q.1.toList ++ [], q.2)) := q_callS (n := 3) (as := [vI a0, vI a1, vI a2]) (rest := []) dX9_ofWalker_13 rfl rfl rfl rfl
theorem eX9_ofWalker_16 {a : Int} {l0 l1 l2 : Option VV} (h : -2147483648 ≤ a ∧ a ≤ 2147483647) {S : MM} : rn xX9_ofWalker (16, [l0, l1, l2], [vI a], S) = if a = 0 then rn xX9_ofWalker (19, [l0, l1, l2], [], S) else rn xX9_ofWalker (22, [l0, l1, l2], [], S) := q_if_ne dX9_ofWalker_16 (by decide) rfl h
theorem eX9_ofWalker_19 {l0 l1 l2 : Option VV} {S : MM} : rn xX9_ofWalker (19, [l0, l1, l2], [], S) = rn xX9_ofWalker (21, [l0, l1, l2], [vI (-2)], S) := rn_step dX9_ofWalker_19 rfl rfl
theorem eX9_ofWalker_21 {z : Int} {l0 l1 l2 : Option VV} {S : MM} : rn xX9_ofWalker (21, [l0, l1, l2], [vI z], S) = some (some (vI z), S) := q_retI dX9_ofWalker_21 rfl
theorem eX9_ofWalker_22 {a : Int} {l0 l1 : Option VV} {S : MM} : rn xX9_ofWalker (22, [l0, l1, some (vI a)], [], S) = rn xX9_ofWalker (23, [l0, l1, some (vI a)], [vI a], S) := rn_step dX9_ofWalker_22 rfl rfl
theorem eX9_ofWalker_23 {a : Int} {l0 l1 l2 : Option VV} (h : -2147483648 ≤ a ∧ a ≤ 2147483647) {S : MM} : rn xX9_ofWalker (23, [l0, l1, l2], [vI a], S) = if a = 0 then rn xX9_ofWalker (26, [l0, l1, l2], [], S) else rn xX9_ofWalker (34, [l0, l1, l2], [], S) := q_if_ne dX9_ofWalker_23 (by decide) rfl h
theorem eX9_ofWalker_26 {a : Option Nat} {l1 l2 : Option VV} {S : MM} : rn xX9_ofWalker (26, [some (.inr (.inl a)), l1, l2], [], S) = rn xX9_ofWalker (27, [some (.inr (.inl a)), l1, l2], [.inr (.inl a)], S) := rn_step dX9_ofWalker_26 rfl rfl
theorem eX9_ofWalker_27 {a : Int} {l0 l2 : Option VV} {v0 : VV} {S : MM} : rn xX9_ofWalker (27, [l0, some (vI a), l2], [v0], S) = rn xX9_ofWalker (28, [l0, some (vI a), l2], [vI a, v0], S) := rn_step dX9_ofWalker_27 rfl rfl
theorem eX9_ofWalker_28 {a0 : Int} {l0 l1 l2 : Option VV} {S : MM} : rn xX9_ofWalker (28, [l0, l1, l2], [vI a0, vR 593], S) = (fX9_stonesOf [vR 593, vI a0] S).bind (fun q => rn xX9_ofWalker (31, [l0, l1, l2], q.1.toList ++ [], q.2)) := q_callV (n := 1) (as := [vI a0]) (rest := []) dX9_ofWalker_28 rfl rfl rfl rfl kd593
theorem eX9_ofWalker_31 {l0 l1 l2 : Option VV} {v0 : VV} {S : MM} : rn xX9_ofWalker (31, [l0, l1, l2], [v0], S) = rn xX9_ofWalker (54, [l0, l1, l2], [v0], S) := rn_step dX9_ofWalker_31 rfl rfl
theorem eX9_ofWalker_34 {a : Option Nat} {l1 l2 : Option VV} {S : MM} : rn xX9_ofWalker (34, [some (.inr (.inl a)), l1, l2], [], S) = rn xX9_ofWalker (35, [some (.inr (.inl a)), l1, l2], [.inr (.inl a)], S) := rn_step dX9_ofWalker_34 rfl rfl
theorem eX9_ofWalker_35 {l0 l1 l2 : Option VV} {S : MM} : rn xX9_ofWalker (35, [l0, l1, l2], [vR 593], S) = rn xX9_ofWalker (38, [l0, l1, l2], [vR 594], S) := q_getR dX9_ofWalker_35 rfl ⟨⟨by decide, by decide⟩, by decide⟩ (fun _ => by decide +kernel) kd593
theorem eX9_ofWalker_38 {l0 l1 l2 : Option VV} {v0 : VV} {S : MM} : rn xX9_ofWalker (38, [l0, l1, l2], [v0], S) = rn xX9_ofWalker (39, [l0, l1, l2], [vI 4, v0], S) := rn_step dX9_ofWalker_38 rfl rfl
theorem eX9_ofWalker_39 {i : Nat} {j : Int} {l0 l1 l2 : Option VV} (h : kd i = 10) (h0 : 0 ≤ j) (h1 : j < alen i) {S : MM} : rn xX9_ofWalker (39, [l0, l1, l2], [vI j, vR i], S) = rn xX9_ofWalker (40, [l0, l1, l2], [vI (S i j.toNat)], S) := q_iald dX9_ofWalker_39 h h0 h1
theorem eX9_ofWalker_39x {j : Int} {l0 l1 l2 : Option VV} {S : MM} (h0 : 0 ≤ j) (h1 : j < S 604 0) : rn xX9_ofWalker (39, [l0, l1, l2], [vI j, vR 602], S) = rn xX9_ofWalker (40, [l0, l1, l2], [vI (S 602 j.toNat)], S) := q_ialdX dX9_ofWalker_39 h0 h1
theorem eX9_ofWalker_39y {j : Int} {l0 l1 l2 : Option VV} {S : MM} (h0 : 0 ≤ j) (h1 : j < S 604 1) : rn xX9_ofWalker (39, [l0, l1, l2], [vI j, vR 603], S) = rn xX9_ofWalker (40, [l0, l1, l2], [vI (S 603 j.toNat)], S) := q_ialdY dX9_ofWalker_39 h0 h1
theorem eX9_ofWalker_40 {a : Int} {l0 l1 l2 : Option VV} (h : -2147483648 ≤ a ∧ a ≤ 2147483647) {S : MM} : rn xX9_ofWalker (40, [l0, l1, l2], [vI a], S) = if a = 0 then rn xX9_ofWalker (43, [l0, l1, l2], [], S) else rn xX9_ofWalker (48, [l0, l1, l2], [], S) := q_if_ne dX9_ofWalker_40 (by decide) rfl h
theorem eX9_ofWalker_43 {l0 l1 l2 : Option VV} {S : MM} : rn xX9_ofWalker (43, [l0, l1, l2], [], S) = rn xX9_ofWalker (45, [l0, l1, l2], [vI (-6)], S) := rn_step dX9_ofWalker_43 rfl rfl
theorem eX9_ofWalker_45 {l0 l1 l2 : Option VV} {v0 : VV} {S : MM} : rn xX9_ofWalker (45, [l0, l1, l2], [v0], S) = rn xX9_ofWalker (54, [l0, l1, l2], [v0], S) := rn_step dX9_ofWalker_45 rfl rfl
theorem eX9_ofWalker_48 {a : Option Nat} {l1 l2 : Option VV} {S : MM} : rn xX9_ofWalker (48, [some (.inr (.inl a)), l1, l2], [], S) = rn xX9_ofWalker (49, [some (.inr (.inl a)), l1, l2], [.inr (.inl a)], S) := rn_step dX9_ofWalker_48 rfl rfl
theorem eX9_ofWalker_49 {a : Int} {l0 l2 : Option VV} {v0 : VV} {S : MM} : rn xX9_ofWalker (49, [l0, some (vI a), l2], [v0], S) = rn xX9_ofWalker (50, [l0, some (vI a), l2], [vI a, v0], S) := rn_step dX9_ofWalker_49 rfl rfl
theorem eX9_ofWalker_50 {a : Int} {l0 l1 : Option VV} {v0 v1 : VV} {S : MM} : rn xX9_ofWalker (50, [l0, l1, some (vI a)], [v0, v1], S) = rn xX9_ofWalker (51, [l0, l1, some (vI a)], [vI a, v0, v1], S) := rn_step dX9_ofWalker_50 rfl rfl
theorem eX9_ofWalker_51 {a0 : Int} {a1 : Int} {l0 l1 l2 : Option VV} {S : MM} : rn xX9_ofWalker (51, [l0, l1, l2], [vI a1, vI a0, vR 593], S) = (fX9_ofRunning [vR 593, vI a0, vI a1] S).bind (fun q => rn xX9_ofWalker (54, [l0, l1, l2], q.1.toList ++ [], q.2)) := q_callV (n := 2) (as := [vI a0, vI a1]) (rest := []) dX9_ofWalker_51 rfl rfl rfl rfl kd593
theorem eX9_ofWalker_54 {z : Int} {l0 l1 l2 : Option VV} {S : MM} : rn xX9_ofWalker (54, [l0, l1, l2], [vI z], S) = some (some (vI z), S) := q_retI dX9_ofWalker_54 rfl
noncomputable def qlX9_ofStone : List CE := [(1, 123, 0, 1, fX9_isWalker), (0, 129, 9, 2, fX9_stonesOf), (1, 35, 0, 3, fX9_in), (0, 93, 9, 2, fX9_layKeys), (0, 39, 9, 3, fX9_repeats)]
noncomputable def xX9_ofStone : XX := (cX9_ofStone, fcF fcl9, mcF qlX9_ofStone, 1)
noncomputable def fX9_ofStone : FN := fnX xX9_ofStone 4
set_option maxRecDepth 100000 in
theorem cwX9_ofStone : Cond.code yX9_ofStone cX9_ofStone 4 (some .int) ∈ lw_g := lw_gm 1126 (by decide +kernel) (by decide +kernel)
set_option maxRecDepth 100000 in
theorem conX9_ofStone : Con yX9_ofStone cX9_ofStone 4 (some .int) { frames := 2, cells := 0, slots := 0, locals := 45 } fX9_ofStone := con_of (X := xX9_ofStone) (own := "LeapStonesModel") (ql := qlX9_ofStone) (by decide) rfl FOK9 rfl (List.forall_mem_cons.mpr ⟨call_S conX9_isWalker cwX9_isWalker (lw_gl _ [1054, 1055, 84] (by decide +kernel) (by decide +kernel)) ⟨by decide, by decide, by decide +kernel⟩ ⟨rfl, rfl⟩ ⟨by decide, by decide⟩ ⟨Nat.le_refl _, Nat.le_refl _⟩, List.forall_mem_cons.mpr ⟨call_V conX9_stonesOf cwX9_stonesOf (lw_gl _ [1060, 1062, 42, 84] (by decide +kernel) (by decide +kernel)) (by decide) rfl ⟨by decide, by decide, by decide +kernel⟩ ⟨rfl, rfl⟩ ⟨by decide, by decide⟩ ⟨Nat.le_refl _, Nat.le_refl _⟩, List.forall_mem_cons.mpr ⟨call_S conX9_in cwX9_in (lw_gl _ [1043, 1044, 84] (by decide +kernel) (by decide +kernel)) ⟨by decide, by decide, by decide +kernel⟩ ⟨rfl, rfl⟩ ⟨by decide, by decide⟩ ⟨Nat.le_refl _, Nat.le_refl _⟩, List.forall_mem_cons.mpr ⟨call_V conX9_layKeys cwX9_layKeys (lw_gl _ [1011, 1013, 35, 84] (by decide +kernel) (by decide +kernel)) (by decide) rfl ⟨by decide, by decide, by decide +kernel⟩ ⟨rfl, rfl⟩ ⟨by decide, by decide⟩ ⟨Nat.le_refl _, Nat.le_refl _⟩, List.forall_mem_cons.mpr ⟨call_V conX9_repeats cwX9_repeats (lw_gl _ [959, 961, 23, 84] (by decide +kernel) (by decide +kernel)) (by decide) rfl ⟨by decide, by decide, by decide +kernel⟩ ⟨rfl, rfl⟩ ⟨by decide, by decide⟩ ⟨Nat.le_refl _, Nat.le_refl _⟩, fun _ h => absurd h List.not_mem_nil⟩⟩⟩⟩⟩) (Or.inr (Or.inl ⟨rfl, rfl⟩))
theorem uX9_ofStone {i : Nat} {a0 : Int} {a1 : Int} {a2 : Int} {S : MM} : fX9_ofStone [vR i, vI a0, vI a1, vI a2] S = rn xX9_ofStone (0, [some (vR i), some (vI a0), some (vI a1), some (vI a2)], [], S) := rfl
theorem dX9_ofStone_0 : decode cX9_ofStone 0 = .ok (.iload_n 1, 1) := by decide +kernel
theorem dX9_ofStone_1 : decode cX9_ofStone 1 = .ok (.invokestatic 123, 3) := by decide +kernel
theorem dX9_ofStone_4 : decode cX9_ofStone 4 = .ok (.ifCond .eq 18, 3) := by decide +kernel
theorem dX9_ofStone_7 : decode cX9_ofStone 7 = .ok (.iload_n 2, 1) := by decide +kernel
theorem dX9_ofStone_8 : decode cX9_ofStone 8 = .ok (.iconst 0, 1) := by decide +kernel
theorem dX9_ofStone_9 : decode cX9_ofStone 9 = .ok (.aload_n 0, 1) := by decide +kernel
theorem dX9_ofStone_10 : decode cX9_ofStone 10 = .ok (.iload_n 1, 1) := by decide +kernel
theorem dX9_ofStone_11 : decode cX9_ofStone 11 = .ok (.invokevirtual 129, 3) := by decide +kernel
theorem dX9_ofStone_14 : decode cX9_ofStone 14 = .ok (.iconst 1, 1) := by decide +kernel
theorem dX9_ofStone_15 : decode cX9_ofStone 15 = .ok (.isub, 1) := by decide +kernel
theorem dX9_ofStone_16 : decode cX9_ofStone 16 = .ok (.invokestatic 35, 3) := by decide +kernel
theorem dX9_ofStone_19 : decode cX9_ofStone 19 = .ok (.ifCond .ne 5, 3) := by decide +kernel
theorem dX9_ofStone_22 : decode cX9_ofStone 22 = .ok (.iconst (-1), 1) := by decide +kernel
theorem dX9_ofStone_23 : decode cX9_ofStone 23 = .ok (.ireturn, 1) := by decide +kernel
theorem dX9_ofStone_24 : decode cX9_ofStone 24 = .ok (.aload_n 0, 1) := by decide +kernel
theorem dX9_ofStone_25 : decode cX9_ofStone 25 = .ok (.iload_n 1, 1) := by decide +kernel
theorem dX9_ofStone_26 : decode cX9_ofStone 26 = .ok (.invokevirtual 93, 3) := by decide +kernel
theorem dX9_ofStone_29 : decode cX9_ofStone 29 = .ok (.iload_n 3, 1) := by decide +kernel
theorem dX9_ofStone_30 : decode cX9_ofStone 30 = .ok (.ifCond .ne 12, 3) := by decide +kernel
theorem dX9_ofStone_33 : decode cX9_ofStone 33 = .ok (.aload_n 0, 1) := by decide +kernel
theorem dX9_ofStone_34 : decode cX9_ofStone 34 = .ok (.getfield 26, 3) := by decide +kernel
theorem dX9_ofStone_37 : decode cX9_ofStone 37 = .ok (.iload_n 2, 1) := by decide +kernel
theorem dX9_ofStone_38 : decode cX9_ofStone 38 = .ok (.iaload, 1) := by decide +kernel
theorem dX9_ofStone_39 : decode cX9_ofStone 39 = .ok (.goto 24, 3) := by decide +kernel
theorem dX9_ofStone_42 : decode cX9_ofStone 42 = .ok (.iload_n 3, 1) := by decide +kernel
theorem dX9_ofStone_43 : decode cX9_ofStone 43 = .ok (.iconst 1, 1) := by decide +kernel
theorem dX9_ofStone_44 : decode cX9_ofStone 44 = .ok (.if_icmp .ne 17, 3) := by decide +kernel
theorem dX9_ofStone_47 : decode cX9_ofStone 47 = .ok (.aload_n 0, 1) := by decide +kernel
theorem dX9_ofStone_48 : decode cX9_ofStone 48 = .ok (.iload_n 1, 1) := by decide +kernel
theorem dX9_ofStone_49 : decode cX9_ofStone 49 = .ok (.aload_n 0, 1) := by decide +kernel
theorem dX9_ofStone_50 : decode cX9_ofStone 50 = .ok (.getfield 26, 3) := by decide +kernel
theorem dX9_ofStone_53 : decode cX9_ofStone 53 = .ok (.iload_n 2, 1) := by decide +kernel
theorem dX9_ofStone_54 : decode cX9_ofStone 54 = .ok (.iaload, 1) := by decide +kernel
theorem dX9_ofStone_55 : decode cX9_ofStone 55 = .ok (.invokevirtual 39, 3) := by decide +kernel
theorem dX9_ofStone_58 : decode cX9_ofStone 58 = .ok (.goto 5, 3) := by decide +kernel
theorem dX9_ofStone_61 : decode cX9_ofStone 61 = .ok (.bipush (-2), 2) := by decide +kernel
theorem dX9_ofStone_63 : decode cX9_ofStone 63 = .ok (.ireturn, 1) := by decide +kernel
theorem eX9_ofStone_0 {a : Int} {l0 l2 l3 : Option VV} {S : MM} : rn xX9_ofStone (0, [l0, some (vI a), l2, l3], [], S) = rn xX9_ofStone (1, [l0, some (vI a), l2, l3], [vI a], S) := rn_step dX9_ofStone_0 rfl rfl
theorem eX9_ofStone_1 {a0 : Int} {l0 l1 l2 l3 : Option VV} {S : MM} : rn xX9_ofStone (1, [l0, l1, l2, l3], [vI a0], S) = (fX9_isWalker [vI a0] S).bind (fun q => rn xX9_ofStone (4, [l0, l1, l2, l3], q.1.toList ++ [], q.2)) := q_callS (n := 1) (as := [vI a0]) (rest := []) dX9_ofStone_1 rfl rfl rfl rfl
theorem eX9_ofStone_4 {a : Int} {l0 l1 l2 l3 : Option VV} (h : -2147483648 ≤ a ∧ a ≤ 2147483647) {S : MM} : rn xX9_ofStone (4, [l0, l1, l2, l3], [vI a], S) = if a = 0 then rn xX9_ofStone (22, [l0, l1, l2, l3], [], S) else rn xX9_ofStone (7, [l0, l1, l2, l3], [], S) := q_if_eq dX9_ofStone_4 (by decide) rfl h
theorem eX9_ofStone_7 {a : Int} {l0 l1 l3 : Option VV} {S : MM} : rn xX9_ofStone (7, [l0, l1, some (vI a), l3], [], S) = rn xX9_ofStone (8, [l0, l1, some (vI a), l3], [vI a], S) := rn_step dX9_ofStone_7 rfl rfl
theorem eX9_ofStone_8 {l0 l1 l2 l3 : Option VV} {v0 : VV} {S : MM} : rn xX9_ofStone (8, [l0, l1, l2, l3], [v0], S) = rn xX9_ofStone (9, [l0, l1, l2, l3], [vI 0, v0], S) := rn_step dX9_ofStone_8 rfl rfl
theorem eX9_ofStone_9 {a : Option Nat} {l1 l2 l3 : Option VV} {v0 v1 : VV} {S : MM} : rn xX9_ofStone (9, [some (.inr (.inl a)), l1, l2, l3], [v0, v1], S) = rn xX9_ofStone (10, [some (.inr (.inl a)), l1, l2, l3], [.inr (.inl a), v0, v1], S) := rn_step dX9_ofStone_9 rfl rfl
theorem eX9_ofStone_10 {a : Int} {l0 l2 l3 : Option VV} {v0 v1 v2 : VV} {S : MM} : rn xX9_ofStone (10, [l0, some (vI a), l2, l3], [v0, v1, v2], S) = rn xX9_ofStone (11, [l0, some (vI a), l2, l3], [vI a, v0, v1, v2], S) := rn_step dX9_ofStone_10 rfl rfl
theorem eX9_ofStone_11 {a0 : Int} {l0 l1 l2 l3 : Option VV} {v2 v3 : VV} {S : MM} : rn xX9_ofStone (11, [l0, l1, l2, l3], [vI a0, vR 593, v2, v3], S) = (fX9_stonesOf [vR 593, vI a0] S).bind (fun q => rn xX9_ofStone (14, [l0, l1, l2, l3], q.1.toList ++ [v2, v3], q.2)) := q_callV (n := 1) (as := [vI a0]) (rest := [v2, v3]) dX9_ofStone_11 rfl rfl rfl rfl kd593
theorem eX9_ofStone_14 {l0 l1 l2 l3 : Option VV} {v0 v1 v2 : VV} {S : MM} : rn xX9_ofStone (14, [l0, l1, l2, l3], [v0, v1, v2], S) = rn xX9_ofStone (15, [l0, l1, l2, l3], [vI 1, v0, v1, v2], S) := rn_step dX9_ofStone_14 rfl rfl
theorem eX9_ofStone_15 {a b : Int} {l0 l1 l2 l3 : Option VV} {v2 v3 : VV} {S : MM} : rn xX9_ofStone (15, [l0, l1, l2, l3], [vI b, vI a, v2, v3], S) = rn xX9_ofStone (16, [l0, l1, l2, l3], [vI (a - b), v2, v3], S) := rn_step dX9_ofStone_15 rfl rfl
theorem eX9_ofStone_16 {a0 : Int} {a1 : Int} {a2 : Int} {l0 l1 l2 l3 : Option VV} {S : MM} : rn xX9_ofStone (16, [l0, l1, l2, l3], [vI a2, vI a1, vI a0], S) = (fX9_in [vI a0, vI a1, vI a2] S).bind (fun q => rn xX9_ofStone (19, [l0, l1, l2, l3], q.1.toList ++ [], q.2)) := q_callS (n := 3) (as := [vI a0, vI a1, vI a2]) (rest := []) dX9_ofStone_16 rfl rfl rfl rfl
theorem eX9_ofStone_19 {a : Int} {l0 l1 l2 l3 : Option VV} (h : -2147483648 ≤ a ∧ a ≤ 2147483647) {S : MM} : rn xX9_ofStone (19, [l0, l1, l2, l3], [vI a], S) = if a = 0 then rn xX9_ofStone (22, [l0, l1, l2, l3], [], S) else rn xX9_ofStone (24, [l0, l1, l2, l3], [], S) := q_if_ne dX9_ofStone_19 (by decide) rfl h
theorem eX9_ofStone_22 {l0 l1 l2 l3 : Option VV} {S : MM} : rn xX9_ofStone (22, [l0, l1, l2, l3], [], S) = rn xX9_ofStone (23, [l0, l1, l2, l3], [vI (-1)], S) := rn_step dX9_ofStone_22 rfl rfl
theorem eX9_ofStone_23 {z : Int} {l0 l1 l2 l3 : Option VV} {S : MM} : rn xX9_ofStone (23, [l0, l1, l2, l3], [vI z], S) = some (some (vI z), S) := q_retI dX9_ofStone_23 rfl
theorem eX9_ofStone_24 {a : Option Nat} {l1 l2 l3 : Option VV} {S : MM} : rn xX9_ofStone (24, [some (.inr (.inl a)), l1, l2, l3], [], S) = rn xX9_ofStone (25, [some (.inr (.inl a)), l1, l2, l3], [.inr (.inl a)], S) := rn_step dX9_ofStone_24 rfl rfl
theorem eX9_ofStone_25 {a : Int} {l0 l2 l3 : Option VV} {v0 : VV} {S : MM} : rn xX9_ofStone (25, [l0, some (vI a), l2, l3], [v0], S) = rn xX9_ofStone (26, [l0, some (vI a), l2, l3], [vI a, v0], S) := rn_step dX9_ofStone_25 rfl rfl
theorem eX9_ofStone_26 {a0 : Int} {l0 l1 l2 l3 : Option VV} {S : MM} : rn xX9_ofStone (26, [l0, l1, l2, l3], [vI a0, vR 593], S) = (fX9_layKeys [vR 593, vI a0] S).bind (fun q => rn xX9_ofStone (29, [l0, l1, l2, l3], q.1.toList ++ [], q.2)) := q_callV (n := 1) (as := [vI a0]) (rest := []) dX9_ofStone_26 rfl rfl rfl rfl kd593
theorem eX9_ofStone_29 {a : Int} {l0 l1 l2 : Option VV} {S : MM} : rn xX9_ofStone (29, [l0, l1, l2, some (vI a)], [], S) = rn xX9_ofStone (30, [l0, l1, l2, some (vI a)], [vI a], S) := rn_step dX9_ofStone_29 rfl rfl
theorem eX9_ofStone_30 {a : Int} {l0 l1 l2 l3 : Option VV} (h : -2147483648 ≤ a ∧ a ≤ 2147483647) {S : MM} : rn xX9_ofStone (30, [l0, l1, l2, l3], [vI a], S) = if a = 0 then rn xX9_ofStone (33, [l0, l1, l2, l3], [], S) else rn xX9_ofStone (42, [l0, l1, l2, l3], [], S) := q_if_ne dX9_ofStone_30 (by decide) rfl h
theorem eX9_ofStone_33 {a : Option Nat} {l1 l2 l3 : Option VV} {S : MM} : rn xX9_ofStone (33, [some (.inr (.inl a)), l1, l2, l3], [], S) = rn xX9_ofStone (34, [some (.inr (.inl a)), l1, l2, l3], [.inr (.inl a)], S) := rn_step dX9_ofStone_33 rfl rfl
theorem eX9_ofStone_34 {l0 l1 l2 l3 : Option VV} {S : MM} : rn xX9_ofStone (34, [l0, l1, l2, l3], [vR 593], S) = rn xX9_ofStone (37, [l0, l1, l2, l3], [vR 599], S) := q_getR dX9_ofStone_34 rfl ⟨⟨by decide, by decide⟩, by decide⟩ (fun _ => by decide +kernel) kd593
theorem eX9_ofStone_37 {a : Int} {l0 l1 l3 : Option VV} {v0 : VV} {S : MM} : rn xX9_ofStone (37, [l0, l1, some (vI a), l3], [v0], S) = rn xX9_ofStone (38, [l0, l1, some (vI a), l3], [vI a, v0], S) := rn_step dX9_ofStone_37 rfl rfl
theorem eX9_ofStone_38 {i : Nat} {j : Int} {l0 l1 l2 l3 : Option VV} (h : kd i = 10) (h0 : 0 ≤ j) (h1 : j < alen i) {S : MM} : rn xX9_ofStone (38, [l0, l1, l2, l3], [vI j, vR i], S) = rn xX9_ofStone (39, [l0, l1, l2, l3], [vI (S i j.toNat)], S) := q_iald dX9_ofStone_38 h h0 h1
theorem eX9_ofStone_38x {j : Int} {l0 l1 l2 l3 : Option VV} {S : MM} (h0 : 0 ≤ j) (h1 : j < S 604 0) : rn xX9_ofStone (38, [l0, l1, l2, l3], [vI j, vR 602], S) = rn xX9_ofStone (39, [l0, l1, l2, l3], [vI (S 602 j.toNat)], S) := q_ialdX dX9_ofStone_38 h0 h1
theorem eX9_ofStone_38y {j : Int} {l0 l1 l2 l3 : Option VV} {S : MM} (h0 : 0 ≤ j) (h1 : j < S 604 1) : rn xX9_ofStone (38, [l0, l1, l2, l3], [vI j, vR 603], S) = rn xX9_ofStone (39, [l0, l1, l2, l3], [vI (S 603 j.toNat)], S) := q_ialdY dX9_ofStone_38 h0 h1
theorem eX9_ofStone_39 {l0 l1 l2 l3 : Option VV} {v0 : VV} {S : MM} : rn xX9_ofStone (39, [l0, l1, l2, l3], [v0], S) = rn xX9_ofStone (63, [l0, l1, l2, l3], [v0], S) := rn_step dX9_ofStone_39 rfl rfl
theorem eX9_ofStone_42 {a : Int} {l0 l1 l2 : Option VV} {S : MM} : rn xX9_ofStone (42, [l0, l1, l2, some (vI a)], [], S) = rn xX9_ofStone (43, [l0, l1, l2, some (vI a)], [vI a], S) := rn_step dX9_ofStone_42 rfl rfl
theorem eX9_ofStone_43 {l0 l1 l2 l3 : Option VV} {v0 : VV} {S : MM} : rn xX9_ofStone (43, [l0, l1, l2, l3], [v0], S) = rn xX9_ofStone (44, [l0, l1, l2, l3], [vI 1, v0], S) := rn_step dX9_ofStone_43 rfl rfl
theorem eX9_ofStone_44 {a b : Int} {l0 l1 l2 l3 : Option VV} (h : -2147483648 ≤ a ∧ a ≤ 2147483647) (h1 : -2147483648 ≤ b ∧ b ≤ 2147483647) {S : MM} : rn xX9_ofStone (44, [l0, l1, l2, l3], [vI b, vI a], S) = if a = b then rn xX9_ofStone (47, [l0, l1, l2, l3], [], S) else rn xX9_ofStone (61, [l0, l1, l2, l3], [], S) := q_icmp_ne dX9_ofStone_44 (by decide) rfl h h1
theorem eX9_ofStone_47 {a : Option Nat} {l1 l2 l3 : Option VV} {S : MM} : rn xX9_ofStone (47, [some (.inr (.inl a)), l1, l2, l3], [], S) = rn xX9_ofStone (48, [some (.inr (.inl a)), l1, l2, l3], [.inr (.inl a)], S) := rn_step dX9_ofStone_47 rfl rfl
theorem eX9_ofStone_48 {a : Int} {l0 l2 l3 : Option VV} {v0 : VV} {S : MM} : rn xX9_ofStone (48, [l0, some (vI a), l2, l3], [v0], S) = rn xX9_ofStone (49, [l0, some (vI a), l2, l3], [vI a, v0], S) := rn_step dX9_ofStone_48 rfl rfl
theorem eX9_ofStone_49 {a : Option Nat} {l1 l2 l3 : Option VV} {v0 v1 : VV} {S : MM} : rn xX9_ofStone (49, [some (.inr (.inl a)), l1, l2, l3], [v0, v1], S) = rn xX9_ofStone (50, [some (.inr (.inl a)), l1, l2, l3], [.inr (.inl a), v0, v1], S) := rn_step dX9_ofStone_49 rfl rfl
theorem eX9_ofStone_50 {l0 l1 l2 l3 : Option VV} {v1 v2 : VV} {S : MM} : rn xX9_ofStone (50, [l0, l1, l2, l3], [vR 593, v1, v2], S) = rn xX9_ofStone (53, [l0, l1, l2, l3], [vR 599, v1, v2], S) := q_getR dX9_ofStone_50 rfl ⟨⟨by decide, by decide⟩, by decide⟩ (fun _ => by decide +kernel) kd593
theorem eX9_ofStone_53 {a : Int} {l0 l1 l3 : Option VV} {v0 v1 v2 : VV} {S : MM} : rn xX9_ofStone (53, [l0, l1, some (vI a), l3], [v0, v1, v2], S) = rn xX9_ofStone (54, [l0, l1, some (vI a), l3], [vI a, v0, v1, v2], S) := rn_step dX9_ofStone_53 rfl rfl
theorem eX9_ofStone_54 {i : Nat} {j : Int} {l0 l1 l2 l3 : Option VV} {v2 v3 : VV} (h : kd i = 10) (h0 : 0 ≤ j) (h1 : j < alen i) {S : MM} : rn xX9_ofStone (54, [l0, l1, l2, l3], [vI j, vR i, v2, v3], S) = rn xX9_ofStone (55, [l0, l1, l2, l3], [vI (S i j.toNat), v2, v3], S) := q_iald dX9_ofStone_54 h h0 h1
theorem eX9_ofStone_54x {j : Int} {l0 l1 l2 l3 : Option VV} {v2 v3 : VV} {S : MM} (h0 : 0 ≤ j) (h1 : j < S 604 0) : rn xX9_ofStone (54, [l0, l1, l2, l3], [vI j, vR 602, v2, v3], S) = rn xX9_ofStone (55, [l0, l1, l2, l3], [vI (S 602 j.toNat), v2, v3], S) := q_ialdX dX9_ofStone_54 h0 h1
theorem eX9_ofStone_54y {j : Int} {l0 l1 l2 l3 : Option VV} {v2 v3 : VV} {S : MM} (h0 : 0 ≤ j) (h1 : j < S 604 1) : rn xX9_ofStone (54, [l0, l1, l2, l3], [vI j, vR 603, v2, v3], S) = rn xX9_ofStone (55, [l0, l1, l2, l3], [vI (S 603 j.toNat), v2, v3], S) := q_ialdY dX9_ofStone_54 h0 h1
theorem eX9_ofStone_55 {a0 : Int} {a1 : Int} {l0 l1 l2 l3 : Option VV} {S : MM} : rn xX9_ofStone (55, [l0, l1, l2, l3], [vI a1, vI a0, vR 593], S) = (fX9_repeats [vR 593, vI a0, vI a1] S).bind (fun q => rn xX9_ofStone (58, [l0, l1, l2, l3], q.1.toList ++ [], q.2)) := q_callV (n := 2) (as := [vI a0, vI a1]) (rest := []) dX9_ofStone_55 rfl rfl rfl rfl kd593
theorem eX9_ofStone_58 {l0 l1 l2 l3 : Option VV} {v0 : VV} {S : MM} : rn xX9_ofStone (58, [l0, l1, l2, l3], [v0], S) = rn xX9_ofStone (63, [l0, l1, l2, l3], [v0], S) := rn_step dX9_ofStone_58 rfl rfl
theorem eX9_ofStone_61 {l0 l1 l2 l3 : Option VV} {S : MM} : rn xX9_ofStone (61, [l0, l1, l2, l3], [], S) = rn xX9_ofStone (63, [l0, l1, l2, l3], [vI (-2)], S) := rn_step dX9_ofStone_61 rfl rfl
theorem eX9_ofStone_63 {z : Int} {l0 l1 l2 l3 : Option VV} {S : MM} : rn xX9_ofStone (63, [l0, l1, l2, l3], [vI z], S) = some (some (vI z), S) := q_retI dX9_ofStone_63 rfl
noncomputable def qlX9_sumOf : List CE := []
noncomputable def xX9_sumOf : XX := (cX9_sumOf, fcF fcl9, mcF qlX9_sumOf, 1)
noncomputable def fX9_sumOf : FN := fnX xX9_sumOf 2
set_option maxRecDepth 100000 in
theorem cwX9_sumOf : Cond.code yX9_sumOf cX9_sumOf 2 (some .int) ∈ lw_g := lw_gm 1142 (by decide +kernel) (by decide +kernel)
set_option maxRecDepth 100000 in
theorem conX9_sumOf : Con yX9_sumOf cX9_sumOf 2 (some .int) { frames := 0, cells := 0, slots := 0, locals := 0 } fX9_sumOf := con_of (X := xX9_sumOf) (own := "LeapStonesModel") (ql := qlX9_sumOf) (by decide) rfl FOK9 rfl (fun _ h => absurd h List.not_mem_nil) (Or.inr (Or.inl ⟨rfl, rfl⟩))
theorem uX9_sumOf {i : Nat} {a0 : Int} {S : MM} : fX9_sumOf [vR i, vI a0] S = rn xX9_sumOf (0, [some (vR i), some (vI a0)], [], S) := rfl
theorem dX9_sumOf_0 : decode cX9_sumOf 0 = .ok (.aload_n 0, 1) := by decide +kernel
theorem dX9_sumOf_1 : decode cX9_sumOf 1 = .ok (.getfield 7, 3) := by decide +kernel
theorem dX9_sumOf_4 : decode cX9_sumOf 4 = .ok (.iload_n 1, 1) := by decide +kernel
theorem dX9_sumOf_5 : decode cX9_sumOf 5 = .ok (.iaload, 1) := by decide +kernel
theorem dX9_sumOf_6 : decode cX9_sumOf 6 = .ok (.aload_n 0, 1) := by decide +kernel
theorem dX9_sumOf_7 : decode cX9_sumOf 7 = .ok (.getfield 7, 3) := by decide +kernel
theorem dX9_sumOf_10 : decode cX9_sumOf 10 = .ok (.iload_n 1, 1) := by decide +kernel
theorem dX9_sumOf_11 : decode cX9_sumOf 11 = .ok (.iconst 1, 1) := by decide +kernel
theorem dX9_sumOf_12 : decode cX9_sumOf 12 = .ok (.iadd, 1) := by decide +kernel
theorem dX9_sumOf_13 : decode cX9_sumOf 13 = .ok (.iaload, 1) := by decide +kernel
theorem dX9_sumOf_14 : decode cX9_sumOf 14 = .ok (.iadd, 1) := by decide +kernel
theorem dX9_sumOf_15 : decode cX9_sumOf 15 = .ok (.aload_n 0, 1) := by decide +kernel
theorem dX9_sumOf_16 : decode cX9_sumOf 16 = .ok (.getfield 7, 3) := by decide +kernel
theorem dX9_sumOf_19 : decode cX9_sumOf 19 = .ok (.iload_n 1, 1) := by decide +kernel
theorem dX9_sumOf_20 : decode cX9_sumOf 20 = .ok (.iconst 2, 1) := by decide +kernel
theorem dX9_sumOf_21 : decode cX9_sumOf 21 = .ok (.iadd, 1) := by decide +kernel
theorem dX9_sumOf_22 : decode cX9_sumOf 22 = .ok (.iaload, 1) := by decide +kernel
theorem dX9_sumOf_23 : decode cX9_sumOf 23 = .ok (.iadd, 1) := by decide +kernel
theorem dX9_sumOf_24 : decode cX9_sumOf 24 = .ok (.ireturn, 1) := by decide +kernel
theorem eX9_sumOf_0 {a : Option Nat} {l1 : Option VV} {S : MM} : rn xX9_sumOf (0, [some (.inr (.inl a)), l1], [], S) = rn xX9_sumOf (1, [some (.inr (.inl a)), l1], [.inr (.inl a)], S) := rn_step dX9_sumOf_0 rfl rfl
theorem eX9_sumOf_1 {l0 l1 : Option VV} {S : MM} : rn xX9_sumOf (1, [l0, l1], [vR 593], S) = rn xX9_sumOf (4, [l0, l1], [vR 594], S) := q_getR dX9_sumOf_1 rfl ⟨⟨by decide, by decide⟩, by decide⟩ (fun _ => by decide +kernel) kd593
theorem eX9_sumOf_4 {a : Int} {l0 : Option VV} {v0 : VV} {S : MM} : rn xX9_sumOf (4, [l0, some (vI a)], [v0], S) = rn xX9_sumOf (5, [l0, some (vI a)], [vI a, v0], S) := rn_step dX9_sumOf_4 rfl rfl
theorem eX9_sumOf_5 {i : Nat} {j : Int} {l0 l1 : Option VV} (h : kd i = 10) (h0 : 0 ≤ j) (h1 : j < alen i) {S : MM} : rn xX9_sumOf (5, [l0, l1], [vI j, vR i], S) = rn xX9_sumOf (6, [l0, l1], [vI (S i j.toNat)], S) := q_iald dX9_sumOf_5 h h0 h1
theorem eX9_sumOf_5x {j : Int} {l0 l1 : Option VV} {S : MM} (h0 : 0 ≤ j) (h1 : j < S 604 0) : rn xX9_sumOf (5, [l0, l1], [vI j, vR 602], S) = rn xX9_sumOf (6, [l0, l1], [vI (S 602 j.toNat)], S) := q_ialdX dX9_sumOf_5 h0 h1
theorem eX9_sumOf_5y {j : Int} {l0 l1 : Option VV} {S : MM} (h0 : 0 ≤ j) (h1 : j < S 604 1) : rn xX9_sumOf (5, [l0, l1], [vI j, vR 603], S) = rn xX9_sumOf (6, [l0, l1], [vI (S 603 j.toNat)], S) := q_ialdY dX9_sumOf_5 h0 h1
theorem eX9_sumOf_6 {a : Option Nat} {l1 : Option VV} {v0 : VV} {S : MM} : rn xX9_sumOf (6, [some (.inr (.inl a)), l1], [v0], S) = rn xX9_sumOf (7, [some (.inr (.inl a)), l1], [.inr (.inl a), v0], S) := rn_step dX9_sumOf_6 rfl rfl
theorem eX9_sumOf_7 {l0 l1 : Option VV} {v1 : VV} {S : MM} : rn xX9_sumOf (7, [l0, l1], [vR 593, v1], S) = rn xX9_sumOf (10, [l0, l1], [vR 594, v1], S) := q_getR dX9_sumOf_7 rfl ⟨⟨by decide, by decide⟩, by decide⟩ (fun _ => by decide +kernel) kd593
theorem eX9_sumOf_10 {a : Int} {l0 : Option VV} {v0 v1 : VV} {S : MM} : rn xX9_sumOf (10, [l0, some (vI a)], [v0, v1], S) = rn xX9_sumOf (11, [l0, some (vI a)], [vI a, v0, v1], S) := rn_step dX9_sumOf_10 rfl rfl
theorem eX9_sumOf_11 {l0 l1 : Option VV} {v0 v1 v2 : VV} {S : MM} : rn xX9_sumOf (11, [l0, l1], [v0, v1, v2], S) = rn xX9_sumOf (12, [l0, l1], [vI 1, v0, v1, v2], S) := rn_step dX9_sumOf_11 rfl rfl
theorem eX9_sumOf_12 {a b : Int} {l0 l1 : Option VV} {v2 v3 : VV} {S : MM} : rn xX9_sumOf (12, [l0, l1], [vI b, vI a, v2, v3], S) = rn xX9_sumOf (13, [l0, l1], [vI (a + b), v2, v3], S) := rn_step dX9_sumOf_12 rfl rfl
theorem eX9_sumOf_13 {i : Nat} {j : Int} {l0 l1 : Option VV} {v2 : VV} (h : kd i = 10) (h0 : 0 ≤ j) (h1 : j < alen i) {S : MM} : rn xX9_sumOf (13, [l0, l1], [vI j, vR i, v2], S) = rn xX9_sumOf (14, [l0, l1], [vI (S i j.toNat), v2], S) := q_iald dX9_sumOf_13 h h0 h1
theorem eX9_sumOf_13x {j : Int} {l0 l1 : Option VV} {v2 : VV} {S : MM} (h0 : 0 ≤ j) (h1 : j < S 604 0) : rn xX9_sumOf (13, [l0, l1], [vI j, vR 602, v2], S) = rn xX9_sumOf (14, [l0, l1], [vI (S 602 j.toNat), v2], S) := q_ialdX dX9_sumOf_13 h0 h1
theorem eX9_sumOf_13y {j : Int} {l0 l1 : Option VV} {v2 : VV} {S : MM} (h0 : 0 ≤ j) (h1 : j < S 604 1) : rn xX9_sumOf (13, [l0, l1], [vI j, vR 603, v2], S) = rn xX9_sumOf (14, [l0, l1], [vI (S 603 j.toNat), v2], S) := q_ialdY dX9_sumOf_13 h0 h1
theorem eX9_sumOf_14 {a b : Int} {l0 l1 : Option VV} {S : MM} : rn xX9_sumOf (14, [l0, l1], [vI b, vI a], S) = rn xX9_sumOf (15, [l0, l1], [vI (a + b)], S) := rn_step dX9_sumOf_14 rfl rfl
theorem eX9_sumOf_15 {a : Option Nat} {l1 : Option VV} {v0 : VV} {S : MM} : rn xX9_sumOf (15, [some (.inr (.inl a)), l1], [v0], S) = rn xX9_sumOf (16, [some (.inr (.inl a)), l1], [.inr (.inl a), v0], S) := rn_step dX9_sumOf_15 rfl rfl
theorem eX9_sumOf_16 {l0 l1 : Option VV} {v1 : VV} {S : MM} : rn xX9_sumOf (16, [l0, l1], [vR 593, v1], S) = rn xX9_sumOf (19, [l0, l1], [vR 594, v1], S) := q_getR dX9_sumOf_16 rfl ⟨⟨by decide, by decide⟩, by decide⟩ (fun _ => by decide +kernel) kd593
theorem eX9_sumOf_19 {a : Int} {l0 : Option VV} {v0 v1 : VV} {S : MM} : rn xX9_sumOf (19, [l0, some (vI a)], [v0, v1], S) = rn xX9_sumOf (20, [l0, some (vI a)], [vI a, v0, v1], S) := rn_step dX9_sumOf_19 rfl rfl
theorem eX9_sumOf_20 {l0 l1 : Option VV} {v0 v1 v2 : VV} {S : MM} : rn xX9_sumOf (20, [l0, l1], [v0, v1, v2], S) = rn xX9_sumOf (21, [l0, l1], [vI 2, v0, v1, v2], S) := rn_step dX9_sumOf_20 rfl rfl
theorem eX9_sumOf_21 {a b : Int} {l0 l1 : Option VV} {v2 v3 : VV} {S : MM} : rn xX9_sumOf (21, [l0, l1], [vI b, vI a, v2, v3], S) = rn xX9_sumOf (22, [l0, l1], [vI (a + b), v2, v3], S) := rn_step dX9_sumOf_21 rfl rfl
theorem eX9_sumOf_22 {i : Nat} {j : Int} {l0 l1 : Option VV} {v2 : VV} (h : kd i = 10) (h0 : 0 ≤ j) (h1 : j < alen i) {S : MM} : rn xX9_sumOf (22, [l0, l1], [vI j, vR i, v2], S) = rn xX9_sumOf (23, [l0, l1], [vI (S i j.toNat), v2], S) := q_iald dX9_sumOf_22 h h0 h1
theorem eX9_sumOf_22x {j : Int} {l0 l1 : Option VV} {v2 : VV} {S : MM} (h0 : 0 ≤ j) (h1 : j < S 604 0) : rn xX9_sumOf (22, [l0, l1], [vI j, vR 602, v2], S) = rn xX9_sumOf (23, [l0, l1], [vI (S 602 j.toNat), v2], S) := q_ialdX dX9_sumOf_22 h0 h1
theorem eX9_sumOf_22y {j : Int} {l0 l1 : Option VV} {v2 : VV} {S : MM} (h0 : 0 ≤ j) (h1 : j < S 604 1) : rn xX9_sumOf (22, [l0, l1], [vI j, vR 603, v2], S) = rn xX9_sumOf (23, [l0, l1], [vI (S 603 j.toNat), v2], S) := q_ialdY dX9_sumOf_22 h0 h1
theorem eX9_sumOf_23 {a b : Int} {l0 l1 : Option VV} {S : MM} : rn xX9_sumOf (23, [l0, l1], [vI b, vI a], S) = rn xX9_sumOf (24, [l0, l1], [vI (a + b)], S) := rn_step dX9_sumOf_23 rfl rfl
theorem eX9_sumOf_24 {z : Int} {l0 l1 : Option VV} {S : MM} : rn xX9_sumOf (24, [l0, l1], [vI z], S) = some (some (vI z), S) := q_retI dX9_sumOf_24 rfl
noncomputable def qlX9_meetings : List CE := []
noncomputable def xX9_meetings : XX := (cX9_meetings, fcF fcl9, mcF qlX9_meetings, 1)
noncomputable def fX9_meetings : FN := fnX xX9_meetings 3
set_option maxRecDepth 100000 in
theorem cwX9_meetings : Cond.code yX9_meetings cX9_meetings 3 (some .int) ∈ lw_g := lw_gm 1134 (by decide +kernel) (by decide +kernel)
set_option maxRecDepth 100000 in
theorem conX9_meetings : Con yX9_meetings cX9_meetings 3 (some .int) { frames := 0, cells := 0, slots := 0, locals := 0 } fX9_meetings := con_of (X := xX9_meetings) (own := "LeapStonesModel") (ql := qlX9_meetings) (by decide) rfl FOK9 rfl (fun _ h => absurd h List.not_mem_nil) (Or.inr (Or.inl ⟨rfl, rfl⟩))
theorem uX9_meetings {i : Nat} {S : MM} : fX9_meetings [vR i] S = rn xX9_meetings (0, [some (vR i), none, none], [], S) := rfl
theorem dX9_meetings_0 : decode cX9_meetings 0 = .ok (.iconst 0, 1) := by decide +kernel
theorem dX9_meetings_1 : decode cX9_meetings 1 = .ok (.istore_n 1, 1) := by decide +kernel
theorem dX9_meetings_2 : decode cX9_meetings 2 = .ok (.iconst 0, 1) := by decide +kernel
theorem dX9_meetings_3 : decode cX9_meetings 3 = .ok (.istore_n 2, 1) := by decide +kernel
theorem dX9_meetings_4 : decode cX9_meetings 4 = .ok (.iload_n 2, 1) := by decide +kernel
theorem dX9_meetings_5 : decode cX9_meetings 5 = .ok (.sipush 300, 3) := by decide +kernel
theorem dX9_meetings_8 : decode cX9_meetings 8 = .ok (.if_icmp .ge 30, 3) := by decide +kernel
theorem dX9_meetings_11 : decode cX9_meetings 11 = .ok (.iload_n 1, 1) := by decide +kernel
theorem dX9_meetings_12 : decode cX9_meetings 12 = .ok (.aload_n 0, 1) := by decide +kernel
theorem dX9_meetings_13 : decode cX9_meetings 13 = .ok (.getfield 7, 3) := by decide +kernel
theorem dX9_meetings_16 : decode cX9_meetings 16 = .ok (.sipush 925, 3) := by decide +kernel
theorem dX9_meetings_19 : decode cX9_meetings 19 = .ok (.iload_n 2, 1) := by decide +kernel
theorem dX9_meetings_20 : decode cX9_meetings 20 = .ok (.iadd, 1) := by decide +kernel
theorem dX9_meetings_21 : decode cX9_meetings 21 = .ok (.iaload, 1) := by decide +kernel
theorem dX9_meetings_22 : decode cX9_meetings 22 = .ok (.ifCond .le 7, 3) := by decide +kernel
theorem dX9_meetings_25 : decode cX9_meetings 25 = .ok (.iconst 1, 1) := by decide +kernel
theorem dX9_meetings_26 : decode cX9_meetings 26 = .ok (.goto 4, 3) := by decide +kernel
theorem dX9_meetings_29 : decode cX9_meetings 29 = .ok (.iconst 0, 1) := by decide +kernel
theorem dX9_meetings_30 : decode cX9_meetings 30 = .ok (.iadd, 1) := by decide +kernel
theorem dX9_meetings_31 : decode cX9_meetings 31 = .ok (.istore_n 1, 1) := by decide +kernel
theorem dX9_meetings_32 : decode cX9_meetings 32 = .ok (.iinc 2 1, 3) := by decide +kernel
theorem dX9_meetings_35 : decode cX9_meetings 35 = .ok (.goto (-31), 3) := by decide +kernel
theorem dX9_meetings_38 : decode cX9_meetings 38 = .ok (.iload_n 1, 1) := by decide +kernel
theorem dX9_meetings_39 : decode cX9_meetings 39 = .ok (.ireturn, 1) := by decide +kernel
theorem eX9_meetings_0 {l0 l1 l2 : Option VV} {S : MM} : rn xX9_meetings (0, [l0, l1, l2], [], S) = rn xX9_meetings (1, [l0, l1, l2], [vI 0], S) := rn_step dX9_meetings_0 rfl rfl
theorem eX9_meetings_1 {a : Int} {w : Option Nat} {l1 l2 : Option VV} {S : MM} : rn xX9_meetings (1, [some (.inr (.inl w)), l1, l2], [vI a], S) = rn xX9_meetings (2, [some (.inr (.inl w)), some (vI a), l2], [], S) := rn_step dX9_meetings_1 rfl rfl
theorem eX9_meetings_2 {l0 l1 l2 : Option VV} {S : MM} : rn xX9_meetings (2, [l0, l1, l2], [], S) = rn xX9_meetings (3, [l0, l1, l2], [vI 0], S) := rn_step dX9_meetings_2 rfl rfl
theorem eX9_meetings_3 {a : Int} {w : Int} {l0 l2 : Option VV} {S : MM} : rn xX9_meetings (3, [l0, some (vI w), l2], [vI a], S) = rn xX9_meetings (4, [l0, some (vI w), some (vI a)], [], S) := rn_step dX9_meetings_3 rfl rfl
theorem eX9_meetings_4 {a : Int} {l0 l1 : Option VV} {S : MM} : rn xX9_meetings (4, [l0, l1, some (vI a)], [], S) = rn xX9_meetings (5, [l0, l1, some (vI a)], [vI a], S) := rn_step dX9_meetings_4 rfl rfl
theorem eX9_meetings_5 {l0 l1 l2 : Option VV} {v0 : VV} {S : MM} : rn xX9_meetings (5, [l0, l1, l2], [v0], S) = rn xX9_meetings (8, [l0, l1, l2], [vI 300, v0], S) := rn_step dX9_meetings_5 rfl rfl
theorem eX9_meetings_8 {a b : Int} {l0 l1 l2 : Option VV} (h : -2147483648 ≤ a ∧ a ≤ 2147483647) (h1 : -2147483648 ≤ b ∧ b ≤ 2147483647) {S : MM} : rn xX9_meetings (8, [l0, l1, l2], [vI b, vI a], S) = if a < b then rn xX9_meetings (11, [l0, l1, l2], [], S) else rn xX9_meetings (38, [l0, l1, l2], [], S) := q_icmp_ge dX9_meetings_8 (by decide) rfl h h1
theorem eX9_meetings_11 {a : Int} {l0 l2 : Option VV} {S : MM} : rn xX9_meetings (11, [l0, some (vI a), l2], [], S) = rn xX9_meetings (12, [l0, some (vI a), l2], [vI a], S) := rn_step dX9_meetings_11 rfl rfl
theorem eX9_meetings_12 {a : Option Nat} {l1 l2 : Option VV} {v0 : VV} {S : MM} : rn xX9_meetings (12, [some (.inr (.inl a)), l1, l2], [v0], S) = rn xX9_meetings (13, [some (.inr (.inl a)), l1, l2], [.inr (.inl a), v0], S) := rn_step dX9_meetings_12 rfl rfl
theorem eX9_meetings_13 {l0 l1 l2 : Option VV} {v1 : VV} {S : MM} : rn xX9_meetings (13, [l0, l1, l2], [vR 593, v1], S) = rn xX9_meetings (16, [l0, l1, l2], [vR 594, v1], S) := q_getR dX9_meetings_13 rfl ⟨⟨by decide, by decide⟩, by decide⟩ (fun _ => by decide +kernel) kd593
theorem eX9_meetings_16 {l0 l1 l2 : Option VV} {v0 v1 : VV} {S : MM} : rn xX9_meetings (16, [l0, l1, l2], [v0, v1], S) = rn xX9_meetings (19, [l0, l1, l2], [vI 925, v0, v1], S) := rn_step dX9_meetings_16 rfl rfl
theorem eX9_meetings_19 {a : Int} {l0 l1 : Option VV} {v0 v1 v2 : VV} {S : MM} : rn xX9_meetings (19, [l0, l1, some (vI a)], [v0, v1, v2], S) = rn xX9_meetings (20, [l0, l1, some (vI a)], [vI a, v0, v1, v2], S) := rn_step dX9_meetings_19 rfl rfl
theorem eX9_meetings_20 {a b : Int} {l0 l1 l2 : Option VV} {v2 v3 : VV} {S : MM} : rn xX9_meetings (20, [l0, l1, l2], [vI b, vI a, v2, v3], S) = rn xX9_meetings (21, [l0, l1, l2], [vI (a + b), v2, v3], S) := rn_step dX9_meetings_20 rfl rfl
theorem eX9_meetings_21 {i : Nat} {j : Int} {l0 l1 l2 : Option VV} {v2 : VV} (h : kd i = 10) (h0 : 0 ≤ j) (h1 : j < alen i) {S : MM} : rn xX9_meetings (21, [l0, l1, l2], [vI j, vR i, v2], S) = rn xX9_meetings (22, [l0, l1, l2], [vI (S i j.toNat), v2], S) := q_iald dX9_meetings_21 h h0 h1
theorem eX9_meetings_21x {j : Int} {l0 l1 l2 : Option VV} {v2 : VV} {S : MM} (h0 : 0 ≤ j) (h1 : j < S 604 0) : rn xX9_meetings (21, [l0, l1, l2], [vI j, vR 602, v2], S) = rn xX9_meetings (22, [l0, l1, l2], [vI (S 602 j.toNat), v2], S) := q_ialdX dX9_meetings_21 h0 h1
theorem eX9_meetings_21y {j : Int} {l0 l1 l2 : Option VV} {v2 : VV} {S : MM} (h0 : 0 ≤ j) (h1 : j < S 604 1) : rn xX9_meetings (21, [l0, l1, l2], [vI j, vR 603, v2], S) = rn xX9_meetings (22, [l0, l1, l2], [vI (S 603 j.toNat), v2], S) := q_ialdY dX9_meetings_21 h0 h1
theorem eX9_meetings_22 {a : Int} {l0 l1 l2 : Option VV} {v1 : VV} (h : -2147483648 ≤ a ∧ a ≤ 2147483647) {S : MM} : rn xX9_meetings (22, [l0, l1, l2], [vI a, v1], S) = if 0 < a then rn xX9_meetings (25, [l0, l1, l2], [v1], S) else rn xX9_meetings (29, [l0, l1, l2], [v1], S) := q_if_le dX9_meetings_22 (by decide) rfl h
theorem eX9_meetings_25 {l0 l1 l2 : Option VV} {v0 : VV} {S : MM} : rn xX9_meetings (25, [l0, l1, l2], [v0], S) = rn xX9_meetings (26, [l0, l1, l2], [vI 1, v0], S) := rn_step dX9_meetings_25 rfl rfl
theorem eX9_meetings_26 {l0 l1 l2 : Option VV} {v0 v1 : VV} {S : MM} : rn xX9_meetings (26, [l0, l1, l2], [v0, v1], S) = rn xX9_meetings (30, [l0, l1, l2], [v0, v1], S) := rn_step dX9_meetings_26 rfl rfl
theorem eX9_meetings_29 {l0 l1 l2 : Option VV} {v0 : VV} {S : MM} : rn xX9_meetings (29, [l0, l1, l2], [v0], S) = rn xX9_meetings (30, [l0, l1, l2], [vI 0, v0], S) := rn_step dX9_meetings_29 rfl rfl
theorem eX9_meetings_30 {a b : Int} {l0 l1 l2 : Option VV} {S : MM} : rn xX9_meetings (30, [l0, l1, l2], [vI b, vI a], S) = rn xX9_meetings (31, [l0, l1, l2], [vI (a + b)], S) := rn_step dX9_meetings_30 rfl rfl
theorem eX9_meetings_31 {a : Int} {w : Option Nat} {l1 l2 : Option VV} {S : MM} : rn xX9_meetings (31, [some (.inr (.inl w)), l1, l2], [vI a], S) = rn xX9_meetings (32, [some (.inr (.inl w)), some (vI a), l2], [], S) := rn_step dX9_meetings_31 rfl rfl
theorem eX9_meetings_32 {a : Int} {w : Int} {l0 : Option VV} {S : MM} : rn xX9_meetings (32, [l0, some (vI w), some (vI a)], [], S) = rn xX9_meetings (35, [l0, some (vI w), some (vI (a + 1))], [], S) := rn_step dX9_meetings_32 rfl rfl
theorem eX9_meetings_35 {l0 l1 l2 : Option VV} {S : MM} : rn xX9_meetings (35, [l0, l1, l2], [], S) = rn xX9_meetings (4, [l0, l1, l2], [], S) := rn_step dX9_meetings_35 rfl rfl
theorem eX9_meetings_38 {a : Int} {l0 l2 : Option VV} {S : MM} : rn xX9_meetings (38, [l0, some (vI a), l2], [], S) = rn xX9_meetings (39, [l0, some (vI a), l2], [vI a], S) := rn_step dX9_meetings_38 rfl rfl
theorem eX9_meetings_39 {z : Int} {l0 l1 l2 : Option VV} {S : MM} : rn xX9_meetings (39, [l0, l1, l2], [vI z], S) = some (some (vI z), S) := q_retI dX9_meetings_39 rfl
noncomputable def qlX9_metRows : List CE := []
noncomputable def xX9_metRows : XX := (cX9_metRows, fcF fcl9, mcF qlX9_metRows, 1)
noncomputable def fX9_metRows : FN := fnX xX9_metRows 3
set_option maxRecDepth 100000 in
theorem cwX9_metRows : Cond.code yX9_metRows cX9_metRows 3 (some .int) ∈ lw_g := lw_gm 1138 (by decide +kernel) (by decide +kernel)
set_option maxRecDepth 100000 in
theorem conX9_metRows : Con yX9_metRows cX9_metRows 3 (some .int) { frames := 0, cells := 0, slots := 0, locals := 0 } fX9_metRows := con_of (X := xX9_metRows) (own := "LeapStonesModel") (ql := qlX9_metRows) (by decide) rfl FOK9 rfl (fun _ h => absurd h List.not_mem_nil) (Or.inr (Or.inl ⟨rfl, rfl⟩))
theorem uX9_metRows {i : Nat} {S : MM} : fX9_metRows [vR i] S = rn xX9_metRows (0, [some (vR i), none, none], [], S) := rfl
theorem dX9_metRows_0 : decode cX9_metRows 0 = .ok (.iconst 0, 1) := by decide +kernel
theorem dX9_metRows_1 : decode cX9_metRows 1 = .ok (.istore_n 1, 1) := by decide +kernel
theorem dX9_metRows_2 : decode cX9_metRows 2 = .ok (.iconst 0, 1) := by decide +kernel
theorem dX9_metRows_3 : decode cX9_metRows 3 = .ok (.istore_n 2, 1) := by decide +kernel
theorem dX9_metRows_4 : decode cX9_metRows 4 = .ok (.iload_n 2, 1) := by decide +kernel
theorem dX9_metRows_5 : decode cX9_metRows 5 = .ok (.sipush 300, 3) := by decide +kernel
theorem dX9_metRows_8 : decode cX9_metRows 8 = .ok (.if_icmp .ge 22, 3) := by decide +kernel
theorem dX9_metRows_11 : decode cX9_metRows 11 = .ok (.iload_n 1, 1) := by decide +kernel
theorem dX9_metRows_12 : decode cX9_metRows 12 = .ok (.aload_n 0, 1) := by decide +kernel
theorem dX9_metRows_13 : decode cX9_metRows 13 = .ok (.getfield 7, 3) := by decide +kernel
theorem dX9_metRows_16 : decode cX9_metRows 16 = .ok (.sipush 925, 3) := by decide +kernel
theorem dX9_metRows_19 : decode cX9_metRows 19 = .ok (.iload_n 2, 1) := by decide +kernel
theorem dX9_metRows_20 : decode cX9_metRows 20 = .ok (.iadd, 1) := by decide +kernel
theorem dX9_metRows_21 : decode cX9_metRows 21 = .ok (.iaload, 1) := by decide +kernel
theorem dX9_metRows_22 : decode cX9_metRows 22 = .ok (.iadd, 1) := by decide +kernel
theorem dX9_metRows_23 : decode cX9_metRows 23 = .ok (.istore_n 1, 1) := by decide +kernel
theorem dX9_metRows_24 : decode cX9_metRows 24 = .ok (.iinc 2 1, 3) := by decide +kernel
theorem dX9_metRows_27 : decode cX9_metRows 27 = .ok (.goto (-23), 3) := by decide +kernel
theorem dX9_metRows_30 : decode cX9_metRows 30 = .ok (.iload_n 1, 1) := by decide +kernel
theorem dX9_metRows_31 : decode cX9_metRows 31 = .ok (.ireturn, 1) := by decide +kernel
theorem eX9_metRows_0 {l0 l1 l2 : Option VV} {S : MM} : rn xX9_metRows (0, [l0, l1, l2], [], S) = rn xX9_metRows (1, [l0, l1, l2], [vI 0], S) := rn_step dX9_metRows_0 rfl rfl
theorem eX9_metRows_1 {a : Int} {w : Option Nat} {l1 l2 : Option VV} {S : MM} : rn xX9_metRows (1, [some (.inr (.inl w)), l1, l2], [vI a], S) = rn xX9_metRows (2, [some (.inr (.inl w)), some (vI a), l2], [], S) := rn_step dX9_metRows_1 rfl rfl
theorem eX9_metRows_2 {l0 l1 l2 : Option VV} {S : MM} : rn xX9_metRows (2, [l0, l1, l2], [], S) = rn xX9_metRows (3, [l0, l1, l2], [vI 0], S) := rn_step dX9_metRows_2 rfl rfl
theorem eX9_metRows_3 {a : Int} {w : Int} {l0 l2 : Option VV} {S : MM} : rn xX9_metRows (3, [l0, some (vI w), l2], [vI a], S) = rn xX9_metRows (4, [l0, some (vI w), some (vI a)], [], S) := rn_step dX9_metRows_3 rfl rfl
theorem eX9_metRows_4 {a : Int} {l0 l1 : Option VV} {S : MM} : rn xX9_metRows (4, [l0, l1, some (vI a)], [], S) = rn xX9_metRows (5, [l0, l1, some (vI a)], [vI a], S) := rn_step dX9_metRows_4 rfl rfl
theorem eX9_metRows_5 {l0 l1 l2 : Option VV} {v0 : VV} {S : MM} : rn xX9_metRows (5, [l0, l1, l2], [v0], S) = rn xX9_metRows (8, [l0, l1, l2], [vI 300, v0], S) := rn_step dX9_metRows_5 rfl rfl
theorem eX9_metRows_8 {a b : Int} {l0 l1 l2 : Option VV} (h : -2147483648 ≤ a ∧ a ≤ 2147483647) (h1 : -2147483648 ≤ b ∧ b ≤ 2147483647) {S : MM} : rn xX9_metRows (8, [l0, l1, l2], [vI b, vI a], S) = if a < b then rn xX9_metRows (11, [l0, l1, l2], [], S) else rn xX9_metRows (30, [l0, l1, l2], [], S) := q_icmp_ge dX9_metRows_8 (by decide) rfl h h1
theorem eX9_metRows_11 {a : Int} {l0 l2 : Option VV} {S : MM} : rn xX9_metRows (11, [l0, some (vI a), l2], [], S) = rn xX9_metRows (12, [l0, some (vI a), l2], [vI a], S) := rn_step dX9_metRows_11 rfl rfl
theorem eX9_metRows_12 {a : Option Nat} {l1 l2 : Option VV} {v0 : VV} {S : MM} : rn xX9_metRows (12, [some (.inr (.inl a)), l1, l2], [v0], S) = rn xX9_metRows (13, [some (.inr (.inl a)), l1, l2], [.inr (.inl a), v0], S) := rn_step dX9_metRows_12 rfl rfl
theorem eX9_metRows_13 {l0 l1 l2 : Option VV} {v1 : VV} {S : MM} : rn xX9_metRows (13, [l0, l1, l2], [vR 593, v1], S) = rn xX9_metRows (16, [l0, l1, l2], [vR 594, v1], S) := q_getR dX9_metRows_13 rfl ⟨⟨by decide, by decide⟩, by decide⟩ (fun _ => by decide +kernel) kd593
theorem eX9_metRows_16 {l0 l1 l2 : Option VV} {v0 v1 : VV} {S : MM} : rn xX9_metRows (16, [l0, l1, l2], [v0, v1], S) = rn xX9_metRows (19, [l0, l1, l2], [vI 925, v0, v1], S) := rn_step dX9_metRows_16 rfl rfl
theorem eX9_metRows_19 {a : Int} {l0 l1 : Option VV} {v0 v1 v2 : VV} {S : MM} : rn xX9_metRows (19, [l0, l1, some (vI a)], [v0, v1, v2], S) = rn xX9_metRows (20, [l0, l1, some (vI a)], [vI a, v0, v1, v2], S) := rn_step dX9_metRows_19 rfl rfl
theorem eX9_metRows_20 {a b : Int} {l0 l1 l2 : Option VV} {v2 v3 : VV} {S : MM} : rn xX9_metRows (20, [l0, l1, l2], [vI b, vI a, v2, v3], S) = rn xX9_metRows (21, [l0, l1, l2], [vI (a + b), v2, v3], S) := rn_step dX9_metRows_20 rfl rfl
theorem eX9_metRows_21 {i : Nat} {j : Int} {l0 l1 l2 : Option VV} {v2 : VV} (h : kd i = 10) (h0 : 0 ≤ j) (h1 : j < alen i) {S : MM} : rn xX9_metRows (21, [l0, l1, l2], [vI j, vR i, v2], S) = rn xX9_metRows (22, [l0, l1, l2], [vI (S i j.toNat), v2], S) := q_iald dX9_metRows_21 h h0 h1
theorem eX9_metRows_21x {j : Int} {l0 l1 l2 : Option VV} {v2 : VV} {S : MM} (h0 : 0 ≤ j) (h1 : j < S 604 0) : rn xX9_metRows (21, [l0, l1, l2], [vI j, vR 602, v2], S) = rn xX9_metRows (22, [l0, l1, l2], [vI (S 602 j.toNat), v2], S) := q_ialdX dX9_metRows_21 h0 h1
theorem eX9_metRows_21y {j : Int} {l0 l1 l2 : Option VV} {v2 : VV} {S : MM} (h0 : 0 ≤ j) (h1 : j < S 604 1) : rn xX9_metRows (21, [l0, l1, l2], [vI j, vR 603, v2], S) = rn xX9_metRows (22, [l0, l1, l2], [vI (S 603 j.toNat), v2], S) := q_ialdY dX9_metRows_21 h0 h1
theorem eX9_metRows_22 {a b : Int} {l0 l1 l2 : Option VV} {S : MM} : rn xX9_metRows (22, [l0, l1, l2], [vI b, vI a], S) = rn xX9_metRows (23, [l0, l1, l2], [vI (a + b)], S) := rn_step dX9_metRows_22 rfl rfl
theorem eX9_metRows_23 {a : Int} {w : Option Nat} {l1 l2 : Option VV} {S : MM} : rn xX9_metRows (23, [some (.inr (.inl w)), l1, l2], [vI a], S) = rn xX9_metRows (24, [some (.inr (.inl w)), some (vI a), l2], [], S) := rn_step dX9_metRows_23 rfl rfl
theorem eX9_metRows_24 {a : Int} {w : Int} {l0 : Option VV} {S : MM} : rn xX9_metRows (24, [l0, some (vI w), some (vI a)], [], S) = rn xX9_metRows (27, [l0, some (vI w), some (vI (a + 1))], [], S) := rn_step dX9_metRows_24 rfl rfl
theorem eX9_metRows_27 {l0 l1 l2 : Option VV} {S : MM} : rn xX9_metRows (27, [l0, l1, l2], [], S) = rn xX9_metRows (4, [l0, l1, l2], [], S) := rn_step dX9_metRows_27 rfl rfl
theorem eX9_metRows_30 {a : Int} {l0 l2 : Option VV} {S : MM} : rn xX9_metRows (30, [l0, some (vI a), l2], [], S) = rn xX9_metRows (31, [l0, some (vI a), l2], [vI a], S) := rn_step dX9_metRows_30 rfl rfl
theorem eX9_metRows_31 {z : Int} {l0 l1 l2 : Option VV} {S : MM} : rn xX9_metRows (31, [l0, l1, l2], [vI z], S) = some (some (vI z), S) := q_retI dX9_metRows_31 rfl
noncomputable def qlX9_ofRun : List CE := [(1, 35, 0, 3, fX9_in), (0, 175, 9, 1, fX9_meetings), (0, 178, 9, 1, fX9_metRows), (0, 181, 9, 2, fX9_sumOf)]
noncomputable def xX9_ofRun : XX := (cX9_ofRun, fcF fcl9, mcF qlX9_ofRun, 1)
noncomputable def fX9_ofRun : FN := fnX xX9_ofRun 2
set_option maxRecDepth 100000 in
theorem cwX9_ofRun : Cond.code yX9_ofRun cX9_ofRun 2 (some .int) ∈ lw_g := lw_gm 1130 (by decide +kernel) (by decide +kernel)
set_option maxRecDepth 100000 in
theorem conX9_ofRun : Con yX9_ofRun cX9_ofRun 2 (some .int) { frames := 1, cells := 0, slots := 0, locals := 22 } fX9_ofRun := con_of (X := xX9_ofRun) (own := "LeapStonesModel") (ql := qlX9_ofRun) (by decide) rfl FOK9 rfl (List.forall_mem_cons.mpr ⟨call_S conX9_in cwX9_in (lw_gl _ [1043, 1044, 84] (by decide +kernel) (by decide +kernel)) ⟨by decide, by decide, by decide +kernel⟩ ⟨rfl, rfl⟩ ⟨by decide, by decide⟩ ⟨Nat.le_refl _, Nat.le_refl _⟩, List.forall_mem_cons.mpr ⟨call_V conX9_meetings cwX9_meetings (lw_gl _ [1131, 1133, 54, 84] (by decide +kernel) (by decide +kernel)) (by decide) rfl ⟨by decide, by decide, by decide +kernel⟩ ⟨rfl, rfl⟩ ⟨by decide, by decide⟩ ⟨Nat.le_refl _, Nat.le_refl _⟩, List.forall_mem_cons.mpr ⟨call_V conX9_metRows cwX9_metRows (lw_gl _ [1135, 1137, 55, 84] (by decide +kernel) (by decide +kernel)) (by decide) rfl ⟨by decide, by decide, by decide +kernel⟩ ⟨rfl, rfl⟩ ⟨by decide, by decide⟩ ⟨Nat.le_refl _, Nat.le_refl _⟩, List.forall_mem_cons.mpr ⟨call_V conX9_sumOf cwX9_sumOf (lw_gl _ [1139, 1141, 56, 84] (by decide +kernel) (by decide +kernel)) (by decide) rfl ⟨by decide, by decide, by decide +kernel⟩ ⟨rfl, rfl⟩ ⟨by decide, by decide⟩ ⟨Nat.le_refl _, Nat.le_refl _⟩, fun _ h => absurd h List.not_mem_nil⟩⟩⟩⟩) (Or.inr (Or.inl ⟨rfl, rfl⟩))
theorem uX9_ofRun {i : Nat} {a0 : Int} {S : MM} : fX9_ofRun [vR i, vI a0] S = rn xX9_ofRun (0, [some (vR i), some (vI a0)], [], S) := rfl
theorem dX9_ofRun_0 : decode cX9_ofRun 0 = .ok (.iload_n 1, 1) := by decide +kernel
theorem dX9_ofRun_1 : decode cX9_ofRun 1 = .ok (.iconst 0, 1) := by decide +kernel
theorem dX9_ofRun_2 : decode cX9_ofRun 2 = .ok (.bipush 7, 2) := by decide +kernel
theorem dX9_ofRun_4 : decode cX9_ofRun 4 = .ok (.invokestatic 35, 3) := by decide +kernel
theorem dX9_ofRun_7 : decode cX9_ofRun 7 = .ok (.ifCond .ne 6, 3) := by decide +kernel
theorem dX9_ofRun_10 : decode cX9_ofRun 10 = .ok (.bipush (-2), 2) := by decide +kernel
theorem dX9_ofRun_12 : decode cX9_ofRun 12 = .ok (.ireturn, 1) := by decide +kernel
theorem dX9_ofRun_13 : decode cX9_ofRun 13 = .ok (.aload_n 0, 1) := by decide +kernel
theorem dX9_ofRun_14 : decode cX9_ofRun 14 = .ok (.getfield 7, 3) := by decide +kernel
theorem dX9_ofRun_17 : decode cX9_ofRun 17 = .ok (.iconst 4, 1) := by decide +kernel
theorem dX9_ofRun_18 : decode cX9_ofRun 18 = .ok (.iaload, 1) := by decide +kernel
theorem dX9_ofRun_19 : decode cX9_ofRun 19 = .ok (.ifCond .ne 6, 3) := by decide +kernel
theorem dX9_ofRun_22 : decode cX9_ofRun 22 = .ok (.bipush (-6), 2) := by decide +kernel
theorem dX9_ofRun_24 : decode cX9_ofRun 24 = .ok (.ireturn, 1) := by decide +kernel
theorem dX9_ofRun_25 : decode cX9_ofRun 25 = .ok (.iload_n 1, 1) := by decide +kernel
theorem dX9_ofRun_26 : decode cX9_ofRun 26 = .ok (.tableswitch 90 0 6 #[42, 51, 58, 66, 71, 76, 83], 42) := by decide +kernel
theorem dX9_ofRun_68 : decode cX9_ofRun 68 = .ok (.aload_n 0, 1) := by decide +kernel
theorem dX9_ofRun_69 : decode cX9_ofRun 69 = .ok (.getfield 7, 3) := by decide +kernel
theorem dX9_ofRun_72 : decode cX9_ofRun 72 = .ok (.iconst 4, 1) := by decide +kernel
theorem dX9_ofRun_73 : decode cX9_ofRun 73 = .ok (.iaload, 1) := by decide +kernel
theorem dX9_ofRun_74 : decode cX9_ofRun 74 = .ok (.iconst 1, 1) := by decide +kernel
theorem dX9_ofRun_75 : decode cX9_ofRun 75 = .ok (.isub, 1) := by decide +kernel
theorem dX9_ofRun_76 : decode cX9_ofRun 76 = .ok (.ireturn, 1) := by decide +kernel
theorem dX9_ofRun_77 : decode cX9_ofRun 77 = .ok (.aload_n 0, 1) := by decide +kernel
theorem dX9_ofRun_78 : decode cX9_ofRun 78 = .ok (.getfield 7, 3) := by decide +kernel
theorem dX9_ofRun_81 : decode cX9_ofRun 81 = .ok (.iconst 5, 1) := by decide +kernel
theorem dX9_ofRun_82 : decode cX9_ofRun 82 = .ok (.iaload, 1) := by decide +kernel
theorem dX9_ofRun_83 : decode cX9_ofRun 83 = .ok (.ireturn, 1) := by decide +kernel
theorem dX9_ofRun_84 : decode cX9_ofRun 84 = .ok (.aload_n 0, 1) := by decide +kernel
theorem dX9_ofRun_85 : decode cX9_ofRun 85 = .ok (.getfield 7, 3) := by decide +kernel
theorem dX9_ofRun_88 : decode cX9_ofRun 88 = .ok (.bipush 6, 2) := by decide +kernel
theorem dX9_ofRun_90 : decode cX9_ofRun 90 = .ok (.iaload, 1) := by decide +kernel
theorem dX9_ofRun_91 : decode cX9_ofRun 91 = .ok (.ireturn, 1) := by decide +kernel
theorem dX9_ofRun_92 : decode cX9_ofRun 92 = .ok (.aload_n 0, 1) := by decide +kernel
theorem dX9_ofRun_93 : decode cX9_ofRun 93 = .ok (.invokevirtual 175, 3) := by decide +kernel
theorem dX9_ofRun_96 : decode cX9_ofRun 96 = .ok (.ireturn, 1) := by decide +kernel
theorem dX9_ofRun_97 : decode cX9_ofRun 97 = .ok (.aload_n 0, 1) := by decide +kernel
theorem dX9_ofRun_98 : decode cX9_ofRun 98 = .ok (.invokevirtual 178, 3) := by decide +kernel
theorem dX9_ofRun_101 : decode cX9_ofRun 101 = .ok (.ireturn, 1) := by decide +kernel
theorem dX9_ofRun_102 : decode cX9_ofRun 102 = .ok (.aload_n 0, 1) := by decide +kernel
theorem dX9_ofRun_103 : decode cX9_ofRun 103 = .ok (.bipush 8, 2) := by decide +kernel
theorem dX9_ofRun_105 : decode cX9_ofRun 105 = .ok (.invokevirtual 181, 3) := by decide +kernel
theorem dX9_ofRun_108 : decode cX9_ofRun 108 = .ok (.ireturn, 1) := by decide +kernel
theorem dX9_ofRun_109 : decode cX9_ofRun 109 = .ok (.aload_n 0, 1) := by decide +kernel
theorem dX9_ofRun_110 : decode cX9_ofRun 110 = .ok (.bipush 11, 2) := by decide +kernel
theorem dX9_ofRun_112 : decode cX9_ofRun 112 = .ok (.invokevirtual 181, 3) := by decide +kernel
theorem dX9_ofRun_115 : decode cX9_ofRun 115 = .ok (.ireturn, 1) := by decide +kernel
theorem dX9_ofRun_116 : decode cX9_ofRun 116 = .ok (.aload_n 0, 1) := by decide +kernel
theorem dX9_ofRun_117 : decode cX9_ofRun 117 = .ok (.bipush 14, 2) := by decide +kernel
theorem dX9_ofRun_119 : decode cX9_ofRun 119 = .ok (.invokevirtual 181, 3) := by decide +kernel
theorem dX9_ofRun_122 : decode cX9_ofRun 122 = .ok (.ireturn, 1) := by decide +kernel
theorem eX9_ofRun_0 {a : Int} {l0 : Option VV} {S : MM} : rn xX9_ofRun (0, [l0, some (vI a)], [], S) = rn xX9_ofRun (1, [l0, some (vI a)], [vI a], S) := rn_step dX9_ofRun_0 rfl rfl
theorem eX9_ofRun_1 {l0 l1 : Option VV} {v0 : VV} {S : MM} : rn xX9_ofRun (1, [l0, l1], [v0], S) = rn xX9_ofRun (2, [l0, l1], [vI 0, v0], S) := rn_step dX9_ofRun_1 rfl rfl
theorem eX9_ofRun_2 {l0 l1 : Option VV} {v0 v1 : VV} {S : MM} : rn xX9_ofRun (2, [l0, l1], [v0, v1], S) = rn xX9_ofRun (4, [l0, l1], [vI 7, v0, v1], S) := rn_step dX9_ofRun_2 rfl rfl
theorem eX9_ofRun_4 {a0 : Int} {a1 : Int} {a2 : Int} {l0 l1 : Option VV} {S : MM} : rn xX9_ofRun (4, [l0, l1], [vI a2, vI a1, vI a0], S) = (fX9_in [vI a0, vI a1, vI a2] S).bind (fun q => rn xX9_ofRun (7, [l0, l1], q.1.toList ++ [], q.2)) := q_callS (n := 3) (as := [vI a0, vI a1, vI a2]) (rest := []) dX9_ofRun_4 rfl rfl rfl rfl
theorem eX9_ofRun_7 {a : Int} {l0 l1 : Option VV} (h : -2147483648 ≤ a ∧ a ≤ 2147483647) {S : MM} : rn xX9_ofRun (7, [l0, l1], [vI a], S) = if a = 0 then rn xX9_ofRun (10, [l0, l1], [], S) else rn xX9_ofRun (13, [l0, l1], [], S) := q_if_ne dX9_ofRun_7 (by decide) rfl h
theorem eX9_ofRun_10 {l0 l1 : Option VV} {S : MM} : rn xX9_ofRun (10, [l0, l1], [], S) = rn xX9_ofRun (12, [l0, l1], [vI (-2)], S) := rn_step dX9_ofRun_10 rfl rfl
theorem eX9_ofRun_12 {z : Int} {l0 l1 : Option VV} {S : MM} : rn xX9_ofRun (12, [l0, l1], [vI z], S) = some (some (vI z), S) := q_retI dX9_ofRun_12 rfl
theorem eX9_ofRun_13 {a : Option Nat} {l1 : Option VV} {S : MM} : rn xX9_ofRun (13, [some (.inr (.inl a)), l1], [], S) = rn xX9_ofRun (14, [some (.inr (.inl a)), l1], [.inr (.inl a)], S) := rn_step dX9_ofRun_13 rfl rfl
theorem eX9_ofRun_14 {l0 l1 : Option VV} {S : MM} : rn xX9_ofRun (14, [l0, l1], [vR 593], S) = rn xX9_ofRun (17, [l0, l1], [vR 594], S) := q_getR dX9_ofRun_14 rfl ⟨⟨by decide, by decide⟩, by decide⟩ (fun _ => by decide +kernel) kd593
theorem eX9_ofRun_17 {l0 l1 : Option VV} {v0 : VV} {S : MM} : rn xX9_ofRun (17, [l0, l1], [v0], S) = rn xX9_ofRun (18, [l0, l1], [vI 4, v0], S) := rn_step dX9_ofRun_17 rfl rfl
theorem eX9_ofRun_18 {i : Nat} {j : Int} {l0 l1 : Option VV} (h : kd i = 10) (h0 : 0 ≤ j) (h1 : j < alen i) {S : MM} : rn xX9_ofRun (18, [l0, l1], [vI j, vR i], S) = rn xX9_ofRun (19, [l0, l1], [vI (S i j.toNat)], S) := q_iald dX9_ofRun_18 h h0 h1
theorem eX9_ofRun_18x {j : Int} {l0 l1 : Option VV} {S : MM} (h0 : 0 ≤ j) (h1 : j < S 604 0) : rn xX9_ofRun (18, [l0, l1], [vI j, vR 602], S) = rn xX9_ofRun (19, [l0, l1], [vI (S 602 j.toNat)], S) := q_ialdX dX9_ofRun_18 h0 h1
theorem eX9_ofRun_18y {j : Int} {l0 l1 : Option VV} {S : MM} (h0 : 0 ≤ j) (h1 : j < S 604 1) : rn xX9_ofRun (18, [l0, l1], [vI j, vR 603], S) = rn xX9_ofRun (19, [l0, l1], [vI (S 603 j.toNat)], S) := q_ialdY dX9_ofRun_18 h0 h1
theorem eX9_ofRun_19 {a : Int} {l0 l1 : Option VV} (h : -2147483648 ≤ a ∧ a ≤ 2147483647) {S : MM} : rn xX9_ofRun (19, [l0, l1], [vI a], S) = if a = 0 then rn xX9_ofRun (22, [l0, l1], [], S) else rn xX9_ofRun (25, [l0, l1], [], S) := q_if_ne dX9_ofRun_19 (by decide) rfl h
theorem eX9_ofRun_22 {l0 l1 : Option VV} {S : MM} : rn xX9_ofRun (22, [l0, l1], [], S) = rn xX9_ofRun (24, [l0, l1], [vI (-6)], S) := rn_step dX9_ofRun_22 rfl rfl
theorem eX9_ofRun_24 {z : Int} {l0 l1 : Option VV} {S : MM} : rn xX9_ofRun (24, [l0, l1], [vI z], S) = some (some (vI z), S) := q_retI dX9_ofRun_24 rfl
theorem eX9_ofRun_25 {a : Int} {l0 : Option VV} {S : MM} : rn xX9_ofRun (25, [l0, some (vI a)], [], S) = rn xX9_ofRun (26, [l0, some (vI a)], [vI a], S) := rn_step dX9_ofRun_25 rfl rfl
theorem eX9_ofRun_26 {a : Int} {l0 l1 : Option VV} (h : -2147483648 ≤ a ∧ a ≤ 2147483647) {S : MM} : rn xX9_ofRun (26, [l0, l1], [vI a], S) = if a = 0 then rn xX9_ofRun (68, [l0, l1], [], S) else if a = 1 then rn xX9_ofRun (77, [l0, l1], [], S) else if a = 2 then rn xX9_ofRun (84, [l0, l1], [], S) else if a = 3 then rn xX9_ofRun (92, [l0, l1], [], S) else if a = 4 then rn xX9_ofRun (97, [l0, l1], [], S) else if a = 5 then rn xX9_ofRun (102, [l0, l1], [], S) else if a = 6 then rn xX9_ofRun (109, [l0, l1], [], S) else rn xX9_ofRun (116, [l0, l1], [], S) := by
  by_cases c0 : a = 0
  · subst c0; rw [if_pos rfl]; exact q_tab (X := xX9_ofRun) (pc := 26) (L := [l0, l1]) (st := []) (S := S) (x := 0) (t := 68) dX9_ofRun_26 h (by decide) rfl (by decide) rfl
  rw [if_neg c0]
  by_cases c1 : a = 1
  · subst c1; rw [if_pos rfl]; exact q_tab (X := xX9_ofRun) (pc := 26) (L := [l0, l1]) (st := []) (S := S) (x := 1) (t := 77) dX9_ofRun_26 h (by decide) rfl (by decide) rfl
  rw [if_neg c1]
  by_cases c2 : a = 2
  · subst c2; rw [if_pos rfl]; exact q_tab (X := xX9_ofRun) (pc := 26) (L := [l0, l1]) (st := []) (S := S) (x := 2) (t := 84) dX9_ofRun_26 h (by decide) rfl (by decide) rfl
  rw [if_neg c2]
  by_cases c3 : a = 3
  · subst c3; rw [if_pos rfl]; exact q_tab (X := xX9_ofRun) (pc := 26) (L := [l0, l1]) (st := []) (S := S) (x := 3) (t := 92) dX9_ofRun_26 h (by decide) rfl (by decide) rfl
  rw [if_neg c3]
  by_cases c4 : a = 4
  · subst c4; rw [if_pos rfl]; exact q_tab (X := xX9_ofRun) (pc := 26) (L := [l0, l1]) (st := []) (S := S) (x := 4) (t := 97) dX9_ofRun_26 h (by decide) rfl (by decide) rfl
  rw [if_neg c4]
  by_cases c5 : a = 5
  · subst c5; rw [if_pos rfl]; exact q_tab (X := xX9_ofRun) (pc := 26) (L := [l0, l1]) (st := []) (S := S) (x := 5) (t := 102) dX9_ofRun_26 h (by decide) rfl (by decide) rfl
  rw [if_neg c5]
  by_cases c6 : a = 6
  · subst c6; rw [if_pos rfl]; exact q_tab (X := xX9_ofRun) (pc := 26) (L := [l0, l1]) (st := []) (S := S) (x := 6) (t := 109) dX9_ofRun_26 h (by decide) rfl (by decide) rfl
  rw [if_neg c6]
  exact q_tabD (X := xX9_ofRun) (pc := 26) (L := [l0, l1]) (st := []) (S := S) (x := a) (t := 116) dX9_ofRun_26 h (by omega) (by decide) rfl
theorem eX9_ofRun_68 {a : Option Nat} {l1 : Option VV} {S : MM} : rn xX9_ofRun (68, [some (.inr (.inl a)), l1], [], S) = rn xX9_ofRun (69, [some (.inr (.inl a)), l1], [.inr (.inl a)], S) := rn_step dX9_ofRun_68 rfl rfl
theorem eX9_ofRun_69 {l0 l1 : Option VV} {S : MM} : rn xX9_ofRun (69, [l0, l1], [vR 593], S) = rn xX9_ofRun (72, [l0, l1], [vR 594], S) := q_getR dX9_ofRun_69 rfl ⟨⟨by decide, by decide⟩, by decide⟩ (fun _ => by decide +kernel) kd593
theorem eX9_ofRun_72 {l0 l1 : Option VV} {v0 : VV} {S : MM} : rn xX9_ofRun (72, [l0, l1], [v0], S) = rn xX9_ofRun (73, [l0, l1], [vI 4, v0], S) := rn_step dX9_ofRun_72 rfl rfl
theorem eX9_ofRun_73 {i : Nat} {j : Int} {l0 l1 : Option VV} (h : kd i = 10) (h0 : 0 ≤ j) (h1 : j < alen i) {S : MM} : rn xX9_ofRun (73, [l0, l1], [vI j, vR i], S) = rn xX9_ofRun (74, [l0, l1], [vI (S i j.toNat)], S) := q_iald dX9_ofRun_73 h h0 h1
theorem eX9_ofRun_73x {j : Int} {l0 l1 : Option VV} {S : MM} (h0 : 0 ≤ j) (h1 : j < S 604 0) : rn xX9_ofRun (73, [l0, l1], [vI j, vR 602], S) = rn xX9_ofRun (74, [l0, l1], [vI (S 602 j.toNat)], S) := q_ialdX dX9_ofRun_73 h0 h1
theorem eX9_ofRun_73y {j : Int} {l0 l1 : Option VV} {S : MM} (h0 : 0 ≤ j) (h1 : j < S 604 1) : rn xX9_ofRun (73, [l0, l1], [vI j, vR 603], S) = rn xX9_ofRun (74, [l0, l1], [vI (S 603 j.toNat)], S) := q_ialdY dX9_ofRun_73 h0 h1
theorem eX9_ofRun_74 {l0 l1 : Option VV} {v0 : VV} {S : MM} : rn xX9_ofRun (74, [l0, l1], [v0], S) = rn xX9_ofRun (75, [l0, l1], [vI 1, v0], S) := rn_step dX9_ofRun_74 rfl rfl
theorem eX9_ofRun_75 {a b : Int} {l0 l1 : Option VV} {S : MM} : rn xX9_ofRun (75, [l0, l1], [vI b, vI a], S) = rn xX9_ofRun (76, [l0, l1], [vI (a - b)], S) := rn_step dX9_ofRun_75 rfl rfl
theorem eX9_ofRun_76 {z : Int} {l0 l1 : Option VV} {S : MM} : rn xX9_ofRun (76, [l0, l1], [vI z], S) = some (some (vI z), S) := q_retI dX9_ofRun_76 rfl
theorem eX9_ofRun_77 {a : Option Nat} {l1 : Option VV} {S : MM} : rn xX9_ofRun (77, [some (.inr (.inl a)), l1], [], S) = rn xX9_ofRun (78, [some (.inr (.inl a)), l1], [.inr (.inl a)], S) := rn_step dX9_ofRun_77 rfl rfl
theorem eX9_ofRun_78 {l0 l1 : Option VV} {S : MM} : rn xX9_ofRun (78, [l0, l1], [vR 593], S) = rn xX9_ofRun (81, [l0, l1], [vR 594], S) := q_getR dX9_ofRun_78 rfl ⟨⟨by decide, by decide⟩, by decide⟩ (fun _ => by decide +kernel) kd593
theorem eX9_ofRun_81 {l0 l1 : Option VV} {v0 : VV} {S : MM} : rn xX9_ofRun (81, [l0, l1], [v0], S) = rn xX9_ofRun (82, [l0, l1], [vI 5, v0], S) := rn_step dX9_ofRun_81 rfl rfl
theorem eX9_ofRun_82 {i : Nat} {j : Int} {l0 l1 : Option VV} (h : kd i = 10) (h0 : 0 ≤ j) (h1 : j < alen i) {S : MM} : rn xX9_ofRun (82, [l0, l1], [vI j, vR i], S) = rn xX9_ofRun (83, [l0, l1], [vI (S i j.toNat)], S) := q_iald dX9_ofRun_82 h h0 h1
theorem eX9_ofRun_82x {j : Int} {l0 l1 : Option VV} {S : MM} (h0 : 0 ≤ j) (h1 : j < S 604 0) : rn xX9_ofRun (82, [l0, l1], [vI j, vR 602], S) = rn xX9_ofRun (83, [l0, l1], [vI (S 602 j.toNat)], S) := q_ialdX dX9_ofRun_82 h0 h1
theorem eX9_ofRun_82y {j : Int} {l0 l1 : Option VV} {S : MM} (h0 : 0 ≤ j) (h1 : j < S 604 1) : rn xX9_ofRun (82, [l0, l1], [vI j, vR 603], S) = rn xX9_ofRun (83, [l0, l1], [vI (S 603 j.toNat)], S) := q_ialdY dX9_ofRun_82 h0 h1
theorem eX9_ofRun_83 {z : Int} {l0 l1 : Option VV} {S : MM} : rn xX9_ofRun (83, [l0, l1], [vI z], S) = some (some (vI z), S) := q_retI dX9_ofRun_83 rfl
theorem eX9_ofRun_84 {a : Option Nat} {l1 : Option VV} {S : MM} : rn xX9_ofRun (84, [some (.inr (.inl a)), l1], [], S) = rn xX9_ofRun (85, [some (.inr (.inl a)), l1], [.inr (.inl a)], S) := rn_step dX9_ofRun_84 rfl rfl
theorem eX9_ofRun_85 {l0 l1 : Option VV} {S : MM} : rn xX9_ofRun (85, [l0, l1], [vR 593], S) = rn xX9_ofRun (88, [l0, l1], [vR 594], S) := q_getR dX9_ofRun_85 rfl ⟨⟨by decide, by decide⟩, by decide⟩ (fun _ => by decide +kernel) kd593
theorem eX9_ofRun_88 {l0 l1 : Option VV} {v0 : VV} {S : MM} : rn xX9_ofRun (88, [l0, l1], [v0], S) = rn xX9_ofRun (90, [l0, l1], [vI 6, v0], S) := rn_step dX9_ofRun_88 rfl rfl
theorem eX9_ofRun_90 {i : Nat} {j : Int} {l0 l1 : Option VV} (h : kd i = 10) (h0 : 0 ≤ j) (h1 : j < alen i) {S : MM} : rn xX9_ofRun (90, [l0, l1], [vI j, vR i], S) = rn xX9_ofRun (91, [l0, l1], [vI (S i j.toNat)], S) := q_iald dX9_ofRun_90 h h0 h1
theorem eX9_ofRun_90x {j : Int} {l0 l1 : Option VV} {S : MM} (h0 : 0 ≤ j) (h1 : j < S 604 0) : rn xX9_ofRun (90, [l0, l1], [vI j, vR 602], S) = rn xX9_ofRun (91, [l0, l1], [vI (S 602 j.toNat)], S) := q_ialdX dX9_ofRun_90 h0 h1
theorem eX9_ofRun_90y {j : Int} {l0 l1 : Option VV} {S : MM} (h0 : 0 ≤ j) (h1 : j < S 604 1) : rn xX9_ofRun (90, [l0, l1], [vI j, vR 603], S) = rn xX9_ofRun (91, [l0, l1], [vI (S 603 j.toNat)], S) := q_ialdY dX9_ofRun_90 h0 h1
theorem eX9_ofRun_91 {z : Int} {l0 l1 : Option VV} {S : MM} : rn xX9_ofRun (91, [l0, l1], [vI z], S) = some (some (vI z), S) := q_retI dX9_ofRun_91 rfl
theorem eX9_ofRun_92 {a : Option Nat} {l1 : Option VV} {S : MM} : rn xX9_ofRun (92, [some (.inr (.inl a)), l1], [], S) = rn xX9_ofRun (93, [some (.inr (.inl a)), l1], [.inr (.inl a)], S) := rn_step dX9_ofRun_92 rfl rfl
theorem eX9_ofRun_93 {l0 l1 : Option VV} {S : MM} : rn xX9_ofRun (93, [l0, l1], [vR 593], S) = (fX9_meetings [vR 593] S).bind (fun q => rn xX9_ofRun (96, [l0, l1], q.1.toList ++ [], q.2)) := q_callV (n := 0) (as := []) (rest := []) dX9_ofRun_93 rfl rfl rfl rfl kd593
theorem eX9_ofRun_96 {z : Int} {l0 l1 : Option VV} {S : MM} : rn xX9_ofRun (96, [l0, l1], [vI z], S) = some (some (vI z), S) := q_retI dX9_ofRun_96 rfl
theorem eX9_ofRun_97 {a : Option Nat} {l1 : Option VV} {S : MM} : rn xX9_ofRun (97, [some (.inr (.inl a)), l1], [], S) = rn xX9_ofRun (98, [some (.inr (.inl a)), l1], [.inr (.inl a)], S) := rn_step dX9_ofRun_97 rfl rfl
theorem eX9_ofRun_98 {l0 l1 : Option VV} {S : MM} : rn xX9_ofRun (98, [l0, l1], [vR 593], S) = (fX9_metRows [vR 593] S).bind (fun q => rn xX9_ofRun (101, [l0, l1], q.1.toList ++ [], q.2)) := q_callV (n := 0) (as := []) (rest := []) dX9_ofRun_98 rfl rfl rfl rfl kd593
theorem eX9_ofRun_101 {z : Int} {l0 l1 : Option VV} {S : MM} : rn xX9_ofRun (101, [l0, l1], [vI z], S) = some (some (vI z), S) := q_retI dX9_ofRun_101 rfl
theorem eX9_ofRun_102 {a : Option Nat} {l1 : Option VV} {S : MM} : rn xX9_ofRun (102, [some (.inr (.inl a)), l1], [], S) = rn xX9_ofRun (103, [some (.inr (.inl a)), l1], [.inr (.inl a)], S) := rn_step dX9_ofRun_102 rfl rfl
theorem eX9_ofRun_103 {l0 l1 : Option VV} {v0 : VV} {S : MM} : rn xX9_ofRun (103, [l0, l1], [v0], S) = rn xX9_ofRun (105, [l0, l1], [vI 8, v0], S) := rn_step dX9_ofRun_103 rfl rfl
theorem eX9_ofRun_105 {a0 : Int} {l0 l1 : Option VV} {S : MM} : rn xX9_ofRun (105, [l0, l1], [vI a0, vR 593], S) = (fX9_sumOf [vR 593, vI a0] S).bind (fun q => rn xX9_ofRun (108, [l0, l1], q.1.toList ++ [], q.2)) := q_callV (n := 1) (as := [vI a0]) (rest := []) dX9_ofRun_105 rfl rfl rfl rfl kd593
theorem eX9_ofRun_108 {z : Int} {l0 l1 : Option VV} {S : MM} : rn xX9_ofRun (108, [l0, l1], [vI z], S) = some (some (vI z), S) := q_retI dX9_ofRun_108 rfl
theorem eX9_ofRun_109 {a : Option Nat} {l1 : Option VV} {S : MM} : rn xX9_ofRun (109, [some (.inr (.inl a)), l1], [], S) = rn xX9_ofRun (110, [some (.inr (.inl a)), l1], [.inr (.inl a)], S) := rn_step dX9_ofRun_109 rfl rfl
theorem eX9_ofRun_110 {l0 l1 : Option VV} {v0 : VV} {S : MM} : rn xX9_ofRun (110, [l0, l1], [v0], S) = rn xX9_ofRun (112, [l0, l1], [vI 11, v0], S) := rn_step dX9_ofRun_110 rfl rfl
theorem eX9_ofRun_112 {a0 : Int} {l0 l1 : Option VV} {S : MM} : rn xX9_ofRun (112, [l0, l1], [vI a0, vR 593], S) = (fX9_sumOf [vR 593, vI a0] S).bind (fun q => rn xX9_ofRun (115, [l0, l1], q.1.toList ++ [], q.2)) := q_callV (n := 1) (as := [vI a0]) (rest := []) dX9_ofRun_112 rfl rfl rfl rfl kd593
theorem eX9_ofRun_115 {z : Int} {l0 l1 : Option VV} {S : MM} : rn xX9_ofRun (115, [l0, l1], [vI z], S) = some (some (vI z), S) := q_retI dX9_ofRun_115 rfl
theorem eX9_ofRun_116 {a : Option Nat} {l1 : Option VV} {S : MM} : rn xX9_ofRun (116, [some (.inr (.inl a)), l1], [], S) = rn xX9_ofRun (117, [some (.inr (.inl a)), l1], [.inr (.inl a)], S) := rn_step dX9_ofRun_116 rfl rfl
theorem eX9_ofRun_117 {l0 l1 : Option VV} {v0 : VV} {S : MM} : rn xX9_ofRun (117, [l0, l1], [v0], S) = rn xX9_ofRun (119, [l0, l1], [vI 14, v0], S) := rn_step dX9_ofRun_117 rfl rfl
theorem eX9_ofRun_119 {a0 : Int} {l0 l1 : Option VV} {S : MM} : rn xX9_ofRun (119, [l0, l1], [vI a0, vR 593], S) = (fX9_sumOf [vR 593, vI a0] S).bind (fun q => rn xX9_ofRun (122, [l0, l1], q.1.toList ++ [], q.2)) := q_callV (n := 1) (as := [vI a0]) (rest := []) dX9_ofRun_119 rfl rfl rfl rfl kd593
theorem eX9_ofRun_122 {z : Int} {l0 l1 : Option VV} {S : MM} : rn xX9_ofRun (122, [l0, l1], [vI z], S) = some (some (vI z), S) := q_retI dX9_ofRun_122 rfl
noncomputable def qlX9_meeting : List CE := []
noncomputable def xX9_meeting : XX := (cX9_meeting, fcF fcl9, mcF qlX9_meeting, 1)
noncomputable def fX9_meeting : FN := fnX xX9_meeting 5
set_option maxRecDepth 100000 in
theorem cwX9_meeting : Cond.code yX9_meeting cX9_meeting 5 (some .int) ∈ lw_g := lw_gm 1146 (by decide +kernel) (by decide +kernel)
set_option maxRecDepth 100000 in
theorem conX9_meeting : Con yX9_meeting cX9_meeting 5 (some .int) { frames := 0, cells := 0, slots := 0, locals := 0 } fX9_meeting := con_of (X := xX9_meeting) (own := "LeapStonesModel") (ql := qlX9_meeting) (by decide) rfl FOK9 rfl (fun _ h => absurd h List.not_mem_nil) (Or.inr (Or.inl ⟨rfl, rfl⟩))
theorem uX9_meeting {i : Nat} {a0 : Int} {a1 : Int} {S : MM} : fX9_meeting [vR i, vI a0, vI a1] S = rn xX9_meeting (0, [some (vR i), some (vI a0), some (vI a1), none, none], [], S) := rfl
theorem dX9_meeting_0 : decode cX9_meeting 0 = .ok (.iconst (-1), 1) := by decide +kernel
theorem dX9_meeting_1 : decode cX9_meeting 1 = .ok (.istore_n 3, 1) := by decide +kernel
theorem dX9_meeting_2 : decode cX9_meeting 2 = .ok (.iconst 0, 1) := by decide +kernel
theorem dX9_meeting_3 : decode cX9_meeting 3 = .ok (.istore 4, 2) := by decide +kernel
theorem dX9_meeting_5 : decode cX9_meeting 5 = .ok (.iload 4, 2) := by decide +kernel
theorem dX9_meeting_7 : decode cX9_meeting 7 = .ok (.sipush 300, 3) := by decide +kernel
theorem dX9_meeting_10 : decode cX9_meeting 10 = .ok (.if_icmp .ge 81, 3) := by decide +kernel
theorem dX9_meeting_13 : decode cX9_meeting 13 = .ok (.iload_n 3, 1) := by decide +kernel
theorem dX9_meeting_14 : decode cX9_meeting 14 = .ok (.aload_n 0, 1) := by decide +kernel
theorem dX9_meeting_15 : decode cX9_meeting 15 = .ok (.getfield 7, 3) := by decide +kernel
theorem dX9_meeting_18 : decode cX9_meeting 18 = .ok (.sipush 925, 3) := by decide +kernel
theorem dX9_meeting_21 : decode cX9_meeting 21 = .ok (.iload 4, 2) := by decide +kernel
theorem dX9_meeting_23 : decode cX9_meeting 23 = .ok (.iadd, 1) := by decide +kernel
theorem dX9_meeting_24 : decode cX9_meeting 24 = .ok (.iaload, 1) := by decide +kernel
theorem dX9_meeting_25 : decode cX9_meeting 25 = .ok (.ifCond .le 7, 3) := by decide +kernel
theorem dX9_meeting_28 : decode cX9_meeting 28 = .ok (.iconst 1, 1) := by decide +kernel
theorem dX9_meeting_29 : decode cX9_meeting 29 = .ok (.goto 4, 3) := by decide +kernel
theorem dX9_meeting_32 : decode cX9_meeting 32 = .ok (.iconst 0, 1) := by decide +kernel
theorem dX9_meeting_33 : decode cX9_meeting 33 = .ok (.iadd, 1) := by decide +kernel
theorem dX9_meeting_34 : decode cX9_meeting 34 = .ok (.istore_n 3, 1) := by decide +kernel
theorem dX9_meeting_35 : decode cX9_meeting 35 = .ok (.iload_n 3, 1) := by decide +kernel
theorem dX9_meeting_36 : decode cX9_meeting 36 = .ok (.iload_n 1, 1) := by decide +kernel
theorem dX9_meeting_37 : decode cX9_meeting 37 = .ok (.if_icmp .ne 48, 3) := by decide +kernel
theorem dX9_meeting_40 : decode cX9_meeting 40 = .ok (.aload_n 0, 1) := by decide +kernel
theorem dX9_meeting_41 : decode cX9_meeting 41 = .ok (.getfield 7, 3) := by decide +kernel
theorem dX9_meeting_44 : decode cX9_meeting 44 = .ok (.sipush 925, 3) := by decide +kernel
theorem dX9_meeting_47 : decode cX9_meeting 47 = .ok (.iload 4, 2) := by decide +kernel
theorem dX9_meeting_49 : decode cX9_meeting 49 = .ok (.iadd, 1) := by decide +kernel
theorem dX9_meeting_50 : decode cX9_meeting 50 = .ok (.iaload, 1) := by decide +kernel
theorem dX9_meeting_51 : decode cX9_meeting 51 = .ok (.ifCond .le 34, 3) := by decide +kernel
theorem dX9_meeting_54 : decode cX9_meeting 54 = .ok (.iload_n 2, 1) := by decide +kernel
theorem dX9_meeting_55 : decode cX9_meeting 55 = .ok (.ifCond .ne 8, 3) := by decide +kernel
theorem dX9_meeting_58 : decode cX9_meeting 58 = .ok (.iload 4, 2) := by decide +kernel
theorem dX9_meeting_60 : decode cX9_meeting 60 = .ok (.goto 24, 3) := by decide +kernel
theorem dX9_meeting_63 : decode cX9_meeting 63 = .ok (.iload_n 2, 1) := by decide +kernel
theorem dX9_meeting_64 : decode cX9_meeting 64 = .ok (.iconst 1, 1) := by decide +kernel
theorem dX9_meeting_65 : decode cX9_meeting 65 = .ok (.if_icmp .ne 17, 3) := by decide +kernel
theorem dX9_meeting_68 : decode cX9_meeting 68 = .ok (.aload_n 0, 1) := by decide +kernel
theorem dX9_meeting_69 : decode cX9_meeting 69 = .ok (.getfield 7, 3) := by decide +kernel
theorem dX9_meeting_72 : decode cX9_meeting 72 = .ok (.sipush 925, 3) := by decide +kernel
theorem dX9_meeting_75 : decode cX9_meeting 75 = .ok (.iload 4, 2) := by decide +kernel
theorem dX9_meeting_77 : decode cX9_meeting 77 = .ok (.iadd, 1) := by decide +kernel
theorem dX9_meeting_78 : decode cX9_meeting 78 = .ok (.iaload, 1) := by decide +kernel
theorem dX9_meeting_79 : decode cX9_meeting 79 = .ok (.goto 5, 3) := by decide +kernel
theorem dX9_meeting_82 : decode cX9_meeting 82 = .ok (.bipush (-2), 2) := by decide +kernel
theorem dX9_meeting_84 : decode cX9_meeting 84 = .ok (.ireturn, 1) := by decide +kernel
theorem dX9_meeting_85 : decode cX9_meeting 85 = .ok (.iinc 4 1, 3) := by decide +kernel
theorem dX9_meeting_88 : decode cX9_meeting 88 = .ok (.goto (-83), 3) := by decide +kernel
theorem dX9_meeting_91 : decode cX9_meeting 91 = .ok (.iconst (-1), 1) := by decide +kernel
theorem dX9_meeting_92 : decode cX9_meeting 92 = .ok (.ireturn, 1) := by decide +kernel
theorem eX9_meeting_0 {l0 l1 l2 l3 l4 : Option VV} {S : MM} : rn xX9_meeting (0, [l0, l1, l2, l3, l4], [], S) = rn xX9_meeting (1, [l0, l1, l2, l3, l4], [vI (-1)], S) := rn_step dX9_meeting_0 rfl rfl
theorem eX9_meeting_1 {a : Int} {w : Int} {l0 l1 l3 l4 : Option VV} {S : MM} : rn xX9_meeting (1, [l0, l1, some (vI w), l3, l4], [vI a], S) = rn xX9_meeting (2, [l0, l1, some (vI w), some (vI a), l4], [], S) := rn_step dX9_meeting_1 rfl rfl
theorem eX9_meeting_2 {l0 l1 l2 l3 l4 : Option VV} {S : MM} : rn xX9_meeting (2, [l0, l1, l2, l3, l4], [], S) = rn xX9_meeting (3, [l0, l1, l2, l3, l4], [vI 0], S) := rn_step dX9_meeting_2 rfl rfl
theorem eX9_meeting_3 {a : Int} {w : Int} {l0 l1 l2 l4 : Option VV} {S : MM} : rn xX9_meeting (3, [l0, l1, l2, some (vI w), l4], [vI a], S) = rn xX9_meeting (5, [l0, l1, l2, some (vI w), some (vI a)], [], S) := rn_step dX9_meeting_3 rfl rfl
theorem eX9_meeting_5 {a : Int} {l0 l1 l2 l3 : Option VV} {S : MM} : rn xX9_meeting (5, [l0, l1, l2, l3, some (vI a)], [], S) = rn xX9_meeting (7, [l0, l1, l2, l3, some (vI a)], [vI a], S) := rn_step dX9_meeting_5 rfl rfl
theorem eX9_meeting_7 {l0 l1 l2 l3 l4 : Option VV} {v0 : VV} {S : MM} : rn xX9_meeting (7, [l0, l1, l2, l3, l4], [v0], S) = rn xX9_meeting (10, [l0, l1, l2, l3, l4], [vI 300, v0], S) := rn_step dX9_meeting_7 rfl rfl
theorem eX9_meeting_10 {a b : Int} {l0 l1 l2 l3 l4 : Option VV} (h : -2147483648 ≤ a ∧ a ≤ 2147483647) (h1 : -2147483648 ≤ b ∧ b ≤ 2147483647) {S : MM} : rn xX9_meeting (10, [l0, l1, l2, l3, l4], [vI b, vI a], S) = if a < b then rn xX9_meeting (13, [l0, l1, l2, l3, l4], [], S) else rn xX9_meeting (91, [l0, l1, l2, l3, l4], [], S) := q_icmp_ge dX9_meeting_10 (by decide) rfl h h1
theorem eX9_meeting_13 {a : Int} {l0 l1 l2 l4 : Option VV} {S : MM} : rn xX9_meeting (13, [l0, l1, l2, some (vI a), l4], [], S) = rn xX9_meeting (14, [l0, l1, l2, some (vI a), l4], [vI a], S) := rn_step dX9_meeting_13 rfl rfl
theorem eX9_meeting_14 {a : Option Nat} {l1 l2 l3 l4 : Option VV} {v0 : VV} {S : MM} : rn xX9_meeting (14, [some (.inr (.inl a)), l1, l2, l3, l4], [v0], S) = rn xX9_meeting (15, [some (.inr (.inl a)), l1, l2, l3, l4], [.inr (.inl a), v0], S) := rn_step dX9_meeting_14 rfl rfl
theorem eX9_meeting_15 {l0 l1 l2 l3 l4 : Option VV} {v1 : VV} {S : MM} : rn xX9_meeting (15, [l0, l1, l2, l3, l4], [vR 593, v1], S) = rn xX9_meeting (18, [l0, l1, l2, l3, l4], [vR 594, v1], S) := q_getR dX9_meeting_15 rfl ⟨⟨by decide, by decide⟩, by decide⟩ (fun _ => by decide +kernel) kd593
theorem eX9_meeting_18 {l0 l1 l2 l3 l4 : Option VV} {v0 v1 : VV} {S : MM} : rn xX9_meeting (18, [l0, l1, l2, l3, l4], [v0, v1], S) = rn xX9_meeting (21, [l0, l1, l2, l3, l4], [vI 925, v0, v1], S) := rn_step dX9_meeting_18 rfl rfl
theorem eX9_meeting_21 {a : Int} {l0 l1 l2 l3 : Option VV} {v0 v1 v2 : VV} {S : MM} : rn xX9_meeting (21, [l0, l1, l2, l3, some (vI a)], [v0, v1, v2], S) = rn xX9_meeting (23, [l0, l1, l2, l3, some (vI a)], [vI a, v0, v1, v2], S) := rn_step dX9_meeting_21 rfl rfl
theorem eX9_meeting_23 {a b : Int} {l0 l1 l2 l3 l4 : Option VV} {v2 v3 : VV} {S : MM} : rn xX9_meeting (23, [l0, l1, l2, l3, l4], [vI b, vI a, v2, v3], S) = rn xX9_meeting (24, [l0, l1, l2, l3, l4], [vI (a + b), v2, v3], S) := rn_step dX9_meeting_23 rfl rfl
theorem eX9_meeting_24 {i : Nat} {j : Int} {l0 l1 l2 l3 l4 : Option VV} {v2 : VV} (h : kd i = 10) (h0 : 0 ≤ j) (h1 : j < alen i) {S : MM} : rn xX9_meeting (24, [l0, l1, l2, l3, l4], [vI j, vR i, v2], S) = rn xX9_meeting (25, [l0, l1, l2, l3, l4], [vI (S i j.toNat), v2], S) := q_iald dX9_meeting_24 h h0 h1
theorem eX9_meeting_24x {j : Int} {l0 l1 l2 l3 l4 : Option VV} {v2 : VV} {S : MM} (h0 : 0 ≤ j) (h1 : j < S 604 0) : rn xX9_meeting (24, [l0, l1, l2, l3, l4], [vI j, vR 602, v2], S) = rn xX9_meeting (25, [l0, l1, l2, l3, l4], [vI (S 602 j.toNat), v2], S) := q_ialdX dX9_meeting_24 h0 h1
theorem eX9_meeting_24y {j : Int} {l0 l1 l2 l3 l4 : Option VV} {v2 : VV} {S : MM} (h0 : 0 ≤ j) (h1 : j < S 604 1) : rn xX9_meeting (24, [l0, l1, l2, l3, l4], [vI j, vR 603, v2], S) = rn xX9_meeting (25, [l0, l1, l2, l3, l4], [vI (S 603 j.toNat), v2], S) := q_ialdY dX9_meeting_24 h0 h1
theorem eX9_meeting_25 {a : Int} {l0 l1 l2 l3 l4 : Option VV} {v1 : VV} (h : -2147483648 ≤ a ∧ a ≤ 2147483647) {S : MM} : rn xX9_meeting (25, [l0, l1, l2, l3, l4], [vI a, v1], S) = if 0 < a then rn xX9_meeting (28, [l0, l1, l2, l3, l4], [v1], S) else rn xX9_meeting (32, [l0, l1, l2, l3, l4], [v1], S) := q_if_le dX9_meeting_25 (by decide) rfl h
theorem eX9_meeting_28 {l0 l1 l2 l3 l4 : Option VV} {v0 : VV} {S : MM} : rn xX9_meeting (28, [l0, l1, l2, l3, l4], [v0], S) = rn xX9_meeting (29, [l0, l1, l2, l3, l4], [vI 1, v0], S) := rn_step dX9_meeting_28 rfl rfl
theorem eX9_meeting_29 {l0 l1 l2 l3 l4 : Option VV} {v0 v1 : VV} {S : MM} : rn xX9_meeting (29, [l0, l1, l2, l3, l4], [v0, v1], S) = rn xX9_meeting (33, [l0, l1, l2, l3, l4], [v0, v1], S) := rn_step dX9_meeting_29 rfl rfl
theorem eX9_meeting_32 {l0 l1 l2 l3 l4 : Option VV} {v0 : VV} {S : MM} : rn xX9_meeting (32, [l0, l1, l2, l3, l4], [v0], S) = rn xX9_meeting (33, [l0, l1, l2, l3, l4], [vI 0, v0], S) := rn_step dX9_meeting_32 rfl rfl
theorem eX9_meeting_33 {a b : Int} {l0 l1 l2 l3 l4 : Option VV} {S : MM} : rn xX9_meeting (33, [l0, l1, l2, l3, l4], [vI b, vI a], S) = rn xX9_meeting (34, [l0, l1, l2, l3, l4], [vI (a + b)], S) := rn_step dX9_meeting_33 rfl rfl
theorem eX9_meeting_34 {a : Int} {w : Int} {l0 l1 l3 l4 : Option VV} {S : MM} : rn xX9_meeting (34, [l0, l1, some (vI w), l3, l4], [vI a], S) = rn xX9_meeting (35, [l0, l1, some (vI w), some (vI a), l4], [], S) := rn_step dX9_meeting_34 rfl rfl
theorem eX9_meeting_35 {a : Int} {l0 l1 l2 l4 : Option VV} {S : MM} : rn xX9_meeting (35, [l0, l1, l2, some (vI a), l4], [], S) = rn xX9_meeting (36, [l0, l1, l2, some (vI a), l4], [vI a], S) := rn_step dX9_meeting_35 rfl rfl
theorem eX9_meeting_36 {a : Int} {l0 l2 l3 l4 : Option VV} {v0 : VV} {S : MM} : rn xX9_meeting (36, [l0, some (vI a), l2, l3, l4], [v0], S) = rn xX9_meeting (37, [l0, some (vI a), l2, l3, l4], [vI a, v0], S) := rn_step dX9_meeting_36 rfl rfl
theorem eX9_meeting_37 {a b : Int} {l0 l1 l2 l3 l4 : Option VV} (h : -2147483648 ≤ a ∧ a ≤ 2147483647) (h1 : -2147483648 ≤ b ∧ b ≤ 2147483647) {S : MM} : rn xX9_meeting (37, [l0, l1, l2, l3, l4], [vI b, vI a], S) = if a = b then rn xX9_meeting (40, [l0, l1, l2, l3, l4], [], S) else rn xX9_meeting (85, [l0, l1, l2, l3, l4], [], S) := q_icmp_ne dX9_meeting_37 (by decide) rfl h h1
theorem eX9_meeting_40 {a : Option Nat} {l1 l2 l3 l4 : Option VV} {S : MM} : rn xX9_meeting (40, [some (.inr (.inl a)), l1, l2, l3, l4], [], S) = rn xX9_meeting (41, [some (.inr (.inl a)), l1, l2, l3, l4], [.inr (.inl a)], S) := rn_step dX9_meeting_40 rfl rfl
theorem eX9_meeting_41 {l0 l1 l2 l3 l4 : Option VV} {S : MM} : rn xX9_meeting (41, [l0, l1, l2, l3, l4], [vR 593], S) = rn xX9_meeting (44, [l0, l1, l2, l3, l4], [vR 594], S) := q_getR dX9_meeting_41 rfl ⟨⟨by decide, by decide⟩, by decide⟩ (fun _ => by decide +kernel) kd593
theorem eX9_meeting_44 {l0 l1 l2 l3 l4 : Option VV} {v0 : VV} {S : MM} : rn xX9_meeting (44, [l0, l1, l2, l3, l4], [v0], S) = rn xX9_meeting (47, [l0, l1, l2, l3, l4], [vI 925, v0], S) := rn_step dX9_meeting_44 rfl rfl
theorem eX9_meeting_47 {a : Int} {l0 l1 l2 l3 : Option VV} {v0 v1 : VV} {S : MM} : rn xX9_meeting (47, [l0, l1, l2, l3, some (vI a)], [v0, v1], S) = rn xX9_meeting (49, [l0, l1, l2, l3, some (vI a)], [vI a, v0, v1], S) := rn_step dX9_meeting_47 rfl rfl
theorem eX9_meeting_49 {a b : Int} {l0 l1 l2 l3 l4 : Option VV} {v2 : VV} {S : MM} : rn xX9_meeting (49, [l0, l1, l2, l3, l4], [vI b, vI a, v2], S) = rn xX9_meeting (50, [l0, l1, l2, l3, l4], [vI (a + b), v2], S) := rn_step dX9_meeting_49 rfl rfl
theorem eX9_meeting_50 {i : Nat} {j : Int} {l0 l1 l2 l3 l4 : Option VV} (h : kd i = 10) (h0 : 0 ≤ j) (h1 : j < alen i) {S : MM} : rn xX9_meeting (50, [l0, l1, l2, l3, l4], [vI j, vR i], S) = rn xX9_meeting (51, [l0, l1, l2, l3, l4], [vI (S i j.toNat)], S) := q_iald dX9_meeting_50 h h0 h1
theorem eX9_meeting_50x {j : Int} {l0 l1 l2 l3 l4 : Option VV} {S : MM} (h0 : 0 ≤ j) (h1 : j < S 604 0) : rn xX9_meeting (50, [l0, l1, l2, l3, l4], [vI j, vR 602], S) = rn xX9_meeting (51, [l0, l1, l2, l3, l4], [vI (S 602 j.toNat)], S) := q_ialdX dX9_meeting_50 h0 h1
theorem eX9_meeting_50y {j : Int} {l0 l1 l2 l3 l4 : Option VV} {S : MM} (h0 : 0 ≤ j) (h1 : j < S 604 1) : rn xX9_meeting (50, [l0, l1, l2, l3, l4], [vI j, vR 603], S) = rn xX9_meeting (51, [l0, l1, l2, l3, l4], [vI (S 603 j.toNat)], S) := q_ialdY dX9_meeting_50 h0 h1
theorem eX9_meeting_51 {a : Int} {l0 l1 l2 l3 l4 : Option VV} (h : -2147483648 ≤ a ∧ a ≤ 2147483647) {S : MM} : rn xX9_meeting (51, [l0, l1, l2, l3, l4], [vI a], S) = if 0 < a then rn xX9_meeting (54, [l0, l1, l2, l3, l4], [], S) else rn xX9_meeting (85, [l0, l1, l2, l3, l4], [], S) := q_if_le dX9_meeting_51 (by decide) rfl h
theorem eX9_meeting_54 {a : Int} {l0 l1 l3 l4 : Option VV} {S : MM} : rn xX9_meeting (54, [l0, l1, some (vI a), l3, l4], [], S) = rn xX9_meeting (55, [l0, l1, some (vI a), l3, l4], [vI a], S) := rn_step dX9_meeting_54 rfl rfl
theorem eX9_meeting_55 {a : Int} {l0 l1 l2 l3 l4 : Option VV} (h : -2147483648 ≤ a ∧ a ≤ 2147483647) {S : MM} : rn xX9_meeting (55, [l0, l1, l2, l3, l4], [vI a], S) = if a = 0 then rn xX9_meeting (58, [l0, l1, l2, l3, l4], [], S) else rn xX9_meeting (63, [l0, l1, l2, l3, l4], [], S) := q_if_ne dX9_meeting_55 (by decide) rfl h
theorem eX9_meeting_58 {a : Int} {l0 l1 l2 l3 : Option VV} {S : MM} : rn xX9_meeting (58, [l0, l1, l2, l3, some (vI a)], [], S) = rn xX9_meeting (60, [l0, l1, l2, l3, some (vI a)], [vI a], S) := rn_step dX9_meeting_58 rfl rfl
theorem eX9_meeting_60 {l0 l1 l2 l3 l4 : Option VV} {v0 : VV} {S : MM} : rn xX9_meeting (60, [l0, l1, l2, l3, l4], [v0], S) = rn xX9_meeting (84, [l0, l1, l2, l3, l4], [v0], S) := rn_step dX9_meeting_60 rfl rfl
theorem eX9_meeting_63 {a : Int} {l0 l1 l3 l4 : Option VV} {S : MM} : rn xX9_meeting (63, [l0, l1, some (vI a), l3, l4], [], S) = rn xX9_meeting (64, [l0, l1, some (vI a), l3, l4], [vI a], S) := rn_step dX9_meeting_63 rfl rfl
theorem eX9_meeting_64 {l0 l1 l2 l3 l4 : Option VV} {v0 : VV} {S : MM} : rn xX9_meeting (64, [l0, l1, l2, l3, l4], [v0], S) = rn xX9_meeting (65, [l0, l1, l2, l3, l4], [vI 1, v0], S) := rn_step dX9_meeting_64 rfl rfl
theorem eX9_meeting_65 {a b : Int} {l0 l1 l2 l3 l4 : Option VV} (h : -2147483648 ≤ a ∧ a ≤ 2147483647) (h1 : -2147483648 ≤ b ∧ b ≤ 2147483647) {S : MM} : rn xX9_meeting (65, [l0, l1, l2, l3, l4], [vI b, vI a], S) = if a = b then rn xX9_meeting (68, [l0, l1, l2, l3, l4], [], S) else rn xX9_meeting (82, [l0, l1, l2, l3, l4], [], S) := q_icmp_ne dX9_meeting_65 (by decide) rfl h h1
theorem eX9_meeting_68 {a : Option Nat} {l1 l2 l3 l4 : Option VV} {S : MM} : rn xX9_meeting (68, [some (.inr (.inl a)), l1, l2, l3, l4], [], S) = rn xX9_meeting (69, [some (.inr (.inl a)), l1, l2, l3, l4], [.inr (.inl a)], S) := rn_step dX9_meeting_68 rfl rfl
theorem eX9_meeting_69 {l0 l1 l2 l3 l4 : Option VV} {S : MM} : rn xX9_meeting (69, [l0, l1, l2, l3, l4], [vR 593], S) = rn xX9_meeting (72, [l0, l1, l2, l3, l4], [vR 594], S) := q_getR dX9_meeting_69 rfl ⟨⟨by decide, by decide⟩, by decide⟩ (fun _ => by decide +kernel) kd593
theorem eX9_meeting_72 {l0 l1 l2 l3 l4 : Option VV} {v0 : VV} {S : MM} : rn xX9_meeting (72, [l0, l1, l2, l3, l4], [v0], S) = rn xX9_meeting (75, [l0, l1, l2, l3, l4], [vI 925, v0], S) := rn_step dX9_meeting_72 rfl rfl
theorem eX9_meeting_75 {a : Int} {l0 l1 l2 l3 : Option VV} {v0 v1 : VV} {S : MM} : rn xX9_meeting (75, [l0, l1, l2, l3, some (vI a)], [v0, v1], S) = rn xX9_meeting (77, [l0, l1, l2, l3, some (vI a)], [vI a, v0, v1], S) := rn_step dX9_meeting_75 rfl rfl
theorem eX9_meeting_77 {a b : Int} {l0 l1 l2 l3 l4 : Option VV} {v2 : VV} {S : MM} : rn xX9_meeting (77, [l0, l1, l2, l3, l4], [vI b, vI a, v2], S) = rn xX9_meeting (78, [l0, l1, l2, l3, l4], [vI (a + b), v2], S) := rn_step dX9_meeting_77 rfl rfl
theorem eX9_meeting_78 {i : Nat} {j : Int} {l0 l1 l2 l3 l4 : Option VV} (h : kd i = 10) (h0 : 0 ≤ j) (h1 : j < alen i) {S : MM} : rn xX9_meeting (78, [l0, l1, l2, l3, l4], [vI j, vR i], S) = rn xX9_meeting (79, [l0, l1, l2, l3, l4], [vI (S i j.toNat)], S) := q_iald dX9_meeting_78 h h0 h1
theorem eX9_meeting_78x {j : Int} {l0 l1 l2 l3 l4 : Option VV} {S : MM} (h0 : 0 ≤ j) (h1 : j < S 604 0) : rn xX9_meeting (78, [l0, l1, l2, l3, l4], [vI j, vR 602], S) = rn xX9_meeting (79, [l0, l1, l2, l3, l4], [vI (S 602 j.toNat)], S) := q_ialdX dX9_meeting_78 h0 h1
theorem eX9_meeting_78y {j : Int} {l0 l1 l2 l3 l4 : Option VV} {S : MM} (h0 : 0 ≤ j) (h1 : j < S 604 1) : rn xX9_meeting (78, [l0, l1, l2, l3, l4], [vI j, vR 603], S) = rn xX9_meeting (79, [l0, l1, l2, l3, l4], [vI (S 603 j.toNat)], S) := q_ialdY dX9_meeting_78 h0 h1
theorem eX9_meeting_79 {l0 l1 l2 l3 l4 : Option VV} {v0 : VV} {S : MM} : rn xX9_meeting (79, [l0, l1, l2, l3, l4], [v0], S) = rn xX9_meeting (84, [l0, l1, l2, l3, l4], [v0], S) := rn_step dX9_meeting_79 rfl rfl
theorem eX9_meeting_82 {l0 l1 l2 l3 l4 : Option VV} {S : MM} : rn xX9_meeting (82, [l0, l1, l2, l3, l4], [], S) = rn xX9_meeting (84, [l0, l1, l2, l3, l4], [vI (-2)], S) := rn_step dX9_meeting_82 rfl rfl
theorem eX9_meeting_84 {z : Int} {l0 l1 l2 l3 l4 : Option VV} {S : MM} : rn xX9_meeting (84, [l0, l1, l2, l3, l4], [vI z], S) = some (some (vI z), S) := q_retI dX9_meeting_84 rfl
theorem eX9_meeting_85 {a : Int} {w : Int} {l0 l1 l2 : Option VV} {S : MM} : rn xX9_meeting (85, [l0, l1, l2, some (vI w), some (vI a)], [], S) = rn xX9_meeting (88, [l0, l1, l2, some (vI w), some (vI (a + 1))], [], S) := rn_step dX9_meeting_85 rfl rfl
theorem eX9_meeting_88 {l0 l1 l2 l3 l4 : Option VV} {S : MM} : rn xX9_meeting (88, [l0, l1, l2, l3, l4], [], S) = rn xX9_meeting (5, [l0, l1, l2, l3, l4], [], S) := rn_step dX9_meeting_88 rfl rfl
theorem eX9_meeting_91 {l0 l1 l2 l3 l4 : Option VV} {S : MM} : rn xX9_meeting (91, [l0, l1, l2, l3, l4], [], S) = rn xX9_meeting (92, [l0, l1, l2, l3, l4], [vI (-1)], S) := rn_step dX9_meeting_91 rfl rfl
theorem eX9_meeting_92 {z : Int} {l0 l1 l2 l3 l4 : Option VV} {S : MM} : rn xX9_meeting (92, [l0, l1, l2, l3, l4], [vI z], S) = some (some (vI z), S) := q_retI dX9_meeting_92 rfl
noncomputable def qlX9_count : List CE := [(0, 129, 9, 2, fX9_stonesOf)]
noncomputable def xX9_count : XX := (cX9_count, fcF fcl9, mcF qlX9_count, 1)
noncomputable def fX9_count : FN := fnX xX9_count 2
set_option maxRecDepth 100000 in
theorem cwX9_count : Cond.code yX9_count cX9_count 2 (some .int) ∈ lw_g := lw_gm 1150 (by decide +kernel) (by decide +kernel)
set_option maxRecDepth 100000 in
theorem conX9_count : Con yX9_count cX9_count 2 (some .int) { frames := 2, cells := 0, slots := 0, locals := 45 } fX9_count := con_of (X := xX9_count) (own := "LeapStonesModel") (ql := qlX9_count) (by decide) rfl FOK9 rfl (List.forall_mem_cons.mpr ⟨call_V conX9_stonesOf cwX9_stonesOf (lw_gl _ [1060, 1062, 42, 84] (by decide +kernel) (by decide +kernel)) (by decide) rfl ⟨by decide, by decide, by decide +kernel⟩ ⟨rfl, rfl⟩ ⟨by decide, by decide⟩ ⟨Nat.le_refl _, Nat.le_refl _⟩, fun _ h => absurd h List.not_mem_nil⟩) (Or.inr (Or.inl ⟨rfl, rfl⟩))
theorem uX9_count {i : Nat} {a0 : Int} {S : MM} : fX9_count [vR i, vI a0] S = rn xX9_count (0, [some (vR i), some (vI a0)], [], S) := rfl
theorem dX9_count_0 : decode cX9_count 0 = .ok (.iload_n 1, 1) := by decide +kernel
theorem dX9_count_1 : decode cX9_count 1 = .ok (.tableswitch 92 0 7 #[47, 65, 73, 73, 73, 73, 82, 87], 47) := by decide +kernel
theorem dX9_count_48 : decode cX9_count 48 = .ok (.aload_n 0, 1) := by decide +kernel
theorem dX9_count_49 : decode cX9_count 49 = .ok (.iconst 0, 1) := by decide +kernel
theorem dX9_count_50 : decode cX9_count 50 = .ok (.invokevirtual 129, 3) := by decide +kernel
theorem dX9_count_53 : decode cX9_count 53 = .ok (.aload_n 0, 1) := by decide +kernel
theorem dX9_count_54 : decode cX9_count 54 = .ok (.iconst 1, 1) := by decide +kernel
theorem dX9_count_55 : decode cX9_count 55 = .ok (.invokevirtual 129, 3) := by decide +kernel
theorem dX9_count_58 : decode cX9_count 58 = .ok (.iadd, 1) := by decide +kernel
theorem dX9_count_59 : decode cX9_count 59 = .ok (.aload_n 0, 1) := by decide +kernel
theorem dX9_count_60 : decode cX9_count 60 = .ok (.iconst 2, 1) := by decide +kernel
theorem dX9_count_61 : decode cX9_count 61 = .ok (.invokevirtual 129, 3) := by decide +kernel
theorem dX9_count_64 : decode cX9_count 64 = .ok (.iadd, 1) := by decide +kernel
theorem dX9_count_65 : decode cX9_count 65 = .ok (.ireturn, 1) := by decide +kernel
theorem dX9_count_66 : decode cX9_count 66 = .ok (.aload_n 0, 1) := by decide +kernel
theorem dX9_count_67 : decode cX9_count 67 = .ok (.getfield 7, 3) := by decide +kernel
theorem dX9_count_70 : decode cX9_count 70 = .ok (.bipush 7, 2) := by decide +kernel
theorem dX9_count_72 : decode cX9_count 72 = .ok (.iaload, 1) := by decide +kernel
theorem dX9_count_73 : decode cX9_count 73 = .ok (.ireturn, 1) := by decide +kernel
theorem dX9_count_74 : decode cX9_count 74 = .ok (.aload_n 0, 1) := by decide +kernel
theorem dX9_count_75 : decode cX9_count 75 = .ok (.getfield 7, 3) := by decide +kernel
theorem dX9_count_78 : decode cX9_count 78 = .ok (.iload_n 1, 1) := by decide +kernel
theorem dX9_count_79 : decode cX9_count 79 = .ok (.iconst 2, 1) := by decide +kernel
theorem dX9_count_80 : decode cX9_count 80 = .ok (.isub, 1) := by decide +kernel
theorem dX9_count_81 : decode cX9_count 81 = .ok (.iaload, 1) := by decide +kernel
theorem dX9_count_82 : decode cX9_count 82 = .ok (.ireturn, 1) := by decide +kernel
theorem dX9_count_83 : decode cX9_count 83 = .ok (.aload_n 0, 1) := by decide +kernel
theorem dX9_count_84 : decode cX9_count 84 = .ok (.getfield 184, 3) := by decide +kernel
theorem dX9_count_87 : decode cX9_count 87 = .ok (.ireturn, 1) := by decide +kernel
theorem dX9_count_88 : decode cX9_count 88 = .ok (.aload_n 0, 1) := by decide +kernel
theorem dX9_count_89 : decode cX9_count 89 = .ok (.getfield 43, 3) := by decide +kernel
theorem dX9_count_92 : decode cX9_count 92 = .ok (.ireturn, 1) := by decide +kernel
theorem dX9_count_93 : decode cX9_count 93 = .ok (.bipush (-2), 2) := by decide +kernel
theorem dX9_count_95 : decode cX9_count 95 = .ok (.ireturn, 1) := by decide +kernel
theorem eX9_count_0 {a : Int} {l0 : Option VV} {S : MM} : rn xX9_count (0, [l0, some (vI a)], [], S) = rn xX9_count (1, [l0, some (vI a)], [vI a], S) := rn_step dX9_count_0 rfl rfl
theorem eX9_count_1 {a : Int} {l0 l1 : Option VV} (h : -2147483648 ≤ a ∧ a ≤ 2147483647) {S : MM} : rn xX9_count (1, [l0, l1], [vI a], S) = if a = 0 then rn xX9_count (48, [l0, l1], [], S) else if a = 1 then rn xX9_count (66, [l0, l1], [], S) else if a = 2 then rn xX9_count (74, [l0, l1], [], S) else if a = 3 then rn xX9_count (74, [l0, l1], [], S) else if a = 4 then rn xX9_count (74, [l0, l1], [], S) else if a = 5 then rn xX9_count (74, [l0, l1], [], S) else if a = 6 then rn xX9_count (83, [l0, l1], [], S) else if a = 7 then rn xX9_count (88, [l0, l1], [], S) else rn xX9_count (93, [l0, l1], [], S) := by
  by_cases c0 : a = 0
  · subst c0; rw [if_pos rfl]; exact q_tab (X := xX9_count) (pc := 1) (L := [l0, l1]) (st := []) (S := S) (x := 0) (t := 48) dX9_count_1 h (by decide) rfl (by decide) rfl
  rw [if_neg c0]
  by_cases c1 : a = 1
  · subst c1; rw [if_pos rfl]; exact q_tab (X := xX9_count) (pc := 1) (L := [l0, l1]) (st := []) (S := S) (x := 1) (t := 66) dX9_count_1 h (by decide) rfl (by decide) rfl
  rw [if_neg c1]
  by_cases c2 : a = 2
  · subst c2; rw [if_pos rfl]; exact q_tab (X := xX9_count) (pc := 1) (L := [l0, l1]) (st := []) (S := S) (x := 2) (t := 74) dX9_count_1 h (by decide) rfl (by decide) rfl
  rw [if_neg c2]
  by_cases c3 : a = 3
  · subst c3; rw [if_pos rfl]; exact q_tab (X := xX9_count) (pc := 1) (L := [l0, l1]) (st := []) (S := S) (x := 3) (t := 74) dX9_count_1 h (by decide) rfl (by decide) rfl
  rw [if_neg c3]
  by_cases c4 : a = 4
  · subst c4; rw [if_pos rfl]; exact q_tab (X := xX9_count) (pc := 1) (L := [l0, l1]) (st := []) (S := S) (x := 4) (t := 74) dX9_count_1 h (by decide) rfl (by decide) rfl
  rw [if_neg c4]
  by_cases c5 : a = 5
  · subst c5; rw [if_pos rfl]; exact q_tab (X := xX9_count) (pc := 1) (L := [l0, l1]) (st := []) (S := S) (x := 5) (t := 74) dX9_count_1 h (by decide) rfl (by decide) rfl
  rw [if_neg c5]
  by_cases c6 : a = 6
  · subst c6; rw [if_pos rfl]; exact q_tab (X := xX9_count) (pc := 1) (L := [l0, l1]) (st := []) (S := S) (x := 6) (t := 83) dX9_count_1 h (by decide) rfl (by decide) rfl
  rw [if_neg c6]
  by_cases c7 : a = 7
  · subst c7; rw [if_pos rfl]; exact q_tab (X := xX9_count) (pc := 1) (L := [l0, l1]) (st := []) (S := S) (x := 7) (t := 88) dX9_count_1 h (by decide) rfl (by decide) rfl
  rw [if_neg c7]
  exact q_tabD (X := xX9_count) (pc := 1) (L := [l0, l1]) (st := []) (S := S) (x := a) (t := 93) dX9_count_1 h (by omega) (by decide) rfl
theorem eX9_count_48 {a : Option Nat} {l1 : Option VV} {S : MM} : rn xX9_count (48, [some (.inr (.inl a)), l1], [], S) = rn xX9_count (49, [some (.inr (.inl a)), l1], [.inr (.inl a)], S) := rn_step dX9_count_48 rfl rfl
theorem eX9_count_49 {l0 l1 : Option VV} {v0 : VV} {S : MM} : rn xX9_count (49, [l0, l1], [v0], S) = rn xX9_count (50, [l0, l1], [vI 0, v0], S) := rn_step dX9_count_49 rfl rfl
theorem eX9_count_50 {a0 : Int} {l0 l1 : Option VV} {S : MM} : rn xX9_count (50, [l0, l1], [vI a0, vR 593], S) = (fX9_stonesOf [vR 593, vI a0] S).bind (fun q => rn xX9_count (53, [l0, l1], q.1.toList ++ [], q.2)) := q_callV (n := 1) (as := [vI a0]) (rest := []) dX9_count_50 rfl rfl rfl rfl kd593
theorem eX9_count_53 {a : Option Nat} {l1 : Option VV} {v0 : VV} {S : MM} : rn xX9_count (53, [some (.inr (.inl a)), l1], [v0], S) = rn xX9_count (54, [some (.inr (.inl a)), l1], [.inr (.inl a), v0], S) := rn_step dX9_count_53 rfl rfl
theorem eX9_count_54 {l0 l1 : Option VV} {v0 v1 : VV} {S : MM} : rn xX9_count (54, [l0, l1], [v0, v1], S) = rn xX9_count (55, [l0, l1], [vI 1, v0, v1], S) := rn_step dX9_count_54 rfl rfl
theorem eX9_count_55 {a0 : Int} {l0 l1 : Option VV} {v2 : VV} {S : MM} : rn xX9_count (55, [l0, l1], [vI a0, vR 593, v2], S) = (fX9_stonesOf [vR 593, vI a0] S).bind (fun q => rn xX9_count (58, [l0, l1], q.1.toList ++ [v2], q.2)) := q_callV (n := 1) (as := [vI a0]) (rest := [v2]) dX9_count_55 rfl rfl rfl rfl kd593
theorem eX9_count_58 {a b : Int} {l0 l1 : Option VV} {S : MM} : rn xX9_count (58, [l0, l1], [vI b, vI a], S) = rn xX9_count (59, [l0, l1], [vI (a + b)], S) := rn_step dX9_count_58 rfl rfl
theorem eX9_count_59 {a : Option Nat} {l1 : Option VV} {v0 : VV} {S : MM} : rn xX9_count (59, [some (.inr (.inl a)), l1], [v0], S) = rn xX9_count (60, [some (.inr (.inl a)), l1], [.inr (.inl a), v0], S) := rn_step dX9_count_59 rfl rfl
theorem eX9_count_60 {l0 l1 : Option VV} {v0 v1 : VV} {S : MM} : rn xX9_count (60, [l0, l1], [v0, v1], S) = rn xX9_count (61, [l0, l1], [vI 2, v0, v1], S) := rn_step dX9_count_60 rfl rfl
theorem eX9_count_61 {a0 : Int} {l0 l1 : Option VV} {v2 : VV} {S : MM} : rn xX9_count (61, [l0, l1], [vI a0, vR 593, v2], S) = (fX9_stonesOf [vR 593, vI a0] S).bind (fun q => rn xX9_count (64, [l0, l1], q.1.toList ++ [v2], q.2)) := q_callV (n := 1) (as := [vI a0]) (rest := [v2]) dX9_count_61 rfl rfl rfl rfl kd593
theorem eX9_count_64 {a b : Int} {l0 l1 : Option VV} {S : MM} : rn xX9_count (64, [l0, l1], [vI b, vI a], S) = rn xX9_count (65, [l0, l1], [vI (a + b)], S) := rn_step dX9_count_64 rfl rfl
theorem eX9_count_65 {z : Int} {l0 l1 : Option VV} {S : MM} : rn xX9_count (65, [l0, l1], [vI z], S) = some (some (vI z), S) := q_retI dX9_count_65 rfl
theorem eX9_count_66 {a : Option Nat} {l1 : Option VV} {S : MM} : rn xX9_count (66, [some (.inr (.inl a)), l1], [], S) = rn xX9_count (67, [some (.inr (.inl a)), l1], [.inr (.inl a)], S) := rn_step dX9_count_66 rfl rfl
theorem eX9_count_67 {l0 l1 : Option VV} {S : MM} : rn xX9_count (67, [l0, l1], [vR 593], S) = rn xX9_count (70, [l0, l1], [vR 594], S) := q_getR dX9_count_67 rfl ⟨⟨by decide, by decide⟩, by decide⟩ (fun _ => by decide +kernel) kd593
theorem eX9_count_70 {l0 l1 : Option VV} {v0 : VV} {S : MM} : rn xX9_count (70, [l0, l1], [v0], S) = rn xX9_count (72, [l0, l1], [vI 7, v0], S) := rn_step dX9_count_70 rfl rfl
theorem eX9_count_72 {i : Nat} {j : Int} {l0 l1 : Option VV} (h : kd i = 10) (h0 : 0 ≤ j) (h1 : j < alen i) {S : MM} : rn xX9_count (72, [l0, l1], [vI j, vR i], S) = rn xX9_count (73, [l0, l1], [vI (S i j.toNat)], S) := q_iald dX9_count_72 h h0 h1
theorem eX9_count_72x {j : Int} {l0 l1 : Option VV} {S : MM} (h0 : 0 ≤ j) (h1 : j < S 604 0) : rn xX9_count (72, [l0, l1], [vI j, vR 602], S) = rn xX9_count (73, [l0, l1], [vI (S 602 j.toNat)], S) := q_ialdX dX9_count_72 h0 h1
theorem eX9_count_72y {j : Int} {l0 l1 : Option VV} {S : MM} (h0 : 0 ≤ j) (h1 : j < S 604 1) : rn xX9_count (72, [l0, l1], [vI j, vR 603], S) = rn xX9_count (73, [l0, l1], [vI (S 603 j.toNat)], S) := q_ialdY dX9_count_72 h0 h1
theorem eX9_count_73 {z : Int} {l0 l1 : Option VV} {S : MM} : rn xX9_count (73, [l0, l1], [vI z], S) = some (some (vI z), S) := q_retI dX9_count_73 rfl
theorem eX9_count_74 {a : Option Nat} {l1 : Option VV} {S : MM} : rn xX9_count (74, [some (.inr (.inl a)), l1], [], S) = rn xX9_count (75, [some (.inr (.inl a)), l1], [.inr (.inl a)], S) := rn_step dX9_count_74 rfl rfl
theorem eX9_count_75 {l0 l1 : Option VV} {S : MM} : rn xX9_count (75, [l0, l1], [vR 593], S) = rn xX9_count (78, [l0, l1], [vR 594], S) := q_getR dX9_count_75 rfl ⟨⟨by decide, by decide⟩, by decide⟩ (fun _ => by decide +kernel) kd593
theorem eX9_count_78 {a : Int} {l0 : Option VV} {v0 : VV} {S : MM} : rn xX9_count (78, [l0, some (vI a)], [v0], S) = rn xX9_count (79, [l0, some (vI a)], [vI a, v0], S) := rn_step dX9_count_78 rfl rfl
theorem eX9_count_79 {l0 l1 : Option VV} {v0 v1 : VV} {S : MM} : rn xX9_count (79, [l0, l1], [v0, v1], S) = rn xX9_count (80, [l0, l1], [vI 2, v0, v1], S) := rn_step dX9_count_79 rfl rfl
theorem eX9_count_80 {a b : Int} {l0 l1 : Option VV} {v2 : VV} {S : MM} : rn xX9_count (80, [l0, l1], [vI b, vI a, v2], S) = rn xX9_count (81, [l0, l1], [vI (a - b), v2], S) := rn_step dX9_count_80 rfl rfl
theorem eX9_count_81 {i : Nat} {j : Int} {l0 l1 : Option VV} (h : kd i = 10) (h0 : 0 ≤ j) (h1 : j < alen i) {S : MM} : rn xX9_count (81, [l0, l1], [vI j, vR i], S) = rn xX9_count (82, [l0, l1], [vI (S i j.toNat)], S) := q_iald dX9_count_81 h h0 h1
theorem eX9_count_81x {j : Int} {l0 l1 : Option VV} {S : MM} (h0 : 0 ≤ j) (h1 : j < S 604 0) : rn xX9_count (81, [l0, l1], [vI j, vR 602], S) = rn xX9_count (82, [l0, l1], [vI (S 602 j.toNat)], S) := q_ialdX dX9_count_81 h0 h1
theorem eX9_count_81y {j : Int} {l0 l1 : Option VV} {S : MM} (h0 : 0 ≤ j) (h1 : j < S 604 1) : rn xX9_count (81, [l0, l1], [vI j, vR 603], S) = rn xX9_count (82, [l0, l1], [vI (S 603 j.toNat)], S) := q_ialdY dX9_count_81 h0 h1
theorem eX9_count_82 {z : Int} {l0 l1 : Option VV} {S : MM} : rn xX9_count (82, [l0, l1], [vI z], S) = some (some (vI z), S) := q_retI dX9_count_82 rfl
theorem eX9_count_83 {a : Option Nat} {l1 : Option VV} {S : MM} : rn xX9_count (83, [some (.inr (.inl a)), l1], [], S) = rn xX9_count (84, [some (.inr (.inl a)), l1], [.inr (.inl a)], S) := rn_step dX9_count_83 rfl rfl
theorem eX9_count_84 {l0 l1 : Option VV} {S : MM} : rn xX9_count (84, [l0, l1], [vR 593], S) = rn xX9_count (87, [l0, l1], [vI (S 593 11)], S) := q_getI dX9_count_84 rfl ⟨⟨by decide, by decide⟩, by decide⟩ kd593
theorem eX9_count_87 {z : Int} {l0 l1 : Option VV} {S : MM} : rn xX9_count (87, [l0, l1], [vI z], S) = some (some (vI z), S) := q_retI dX9_count_87 rfl
theorem eX9_count_88 {a : Option Nat} {l1 : Option VV} {S : MM} : rn xX9_count (88, [some (.inr (.inl a)), l1], [], S) = rn xX9_count (89, [some (.inr (.inl a)), l1], [.inr (.inl a)], S) := rn_step dX9_count_88 rfl rfl
theorem eX9_count_89 {l0 l1 : Option VV} {S : MM} : rn xX9_count (89, [l0, l1], [vR 593], S) = rn xX9_count (92, [l0, l1], [vI (S 593 3)], S) := q_getI dX9_count_89 rfl ⟨⟨by decide, by decide⟩, by decide⟩ kd593
theorem eX9_count_92 {z : Int} {l0 l1 : Option VV} {S : MM} : rn xX9_count (92, [l0, l1], [vI z], S) = some (some (vI z), S) := q_retI dX9_count_92 rfl
theorem eX9_count_93 {l0 l1 : Option VV} {S : MM} : rn xX9_count (93, [l0, l1], [], S) = rn xX9_count (95, [l0, l1], [vI (-2)], S) := rn_step dX9_count_93 rfl rfl
theorem eX9_count_95 {z : Int} {l0 l1 : Option VV} {S : MM} : rn xX9_count (95, [l0, l1], [vI z], S) = some (some (vI z), S) := q_retI dX9_count_95 rfl
noncomputable def qlX9_rowsFrom : List CE := [(0, 63, 9, 2, fX9_rowsAt)]
noncomputable def xX9_rowsFrom : XX := (cX9_rowsFrom, fcF fcl9, mcF qlX9_rowsFrom, 1)
noncomputable def fX9_rowsFrom : FN := fnX xX9_rowsFrom 5
set_option maxRecDepth 100000 in
theorem cwX9_rowsFrom : Cond.code yX9_rowsFrom cX9_rowsFrom 5 (some .int) ∈ lw_g := lw_gm 1158 (by decide +kernel) (by decide +kernel)
set_option maxRecDepth 100000 in
theorem conX9_rowsFrom : Con yX9_rowsFrom cX9_rowsFrom 5 (some .int) { frames := 2, cells := 0, slots := 0, locals := 43 } fX9_rowsFrom := con_of (X := xX9_rowsFrom) (own := "LeapStonesModel") (ql := qlX9_rowsFrom) (by decide) rfl FOK9 rfl (List.forall_mem_cons.mpr ⟨call_V conX9_rowsAt cwX9_rowsAt (lw_gl _ [979, 981, 28, 84] (by decide +kernel) (by decide +kernel)) (by decide) rfl ⟨by decide, by decide, by decide +kernel⟩ ⟨rfl, rfl⟩ ⟨by decide, by decide⟩ ⟨Nat.le_refl _, Nat.le_refl _⟩, fun _ h => absurd h List.not_mem_nil⟩) (Or.inr (Or.inl ⟨rfl, rfl⟩))
theorem uX9_rowsFrom {i : Nat} {a0 : Int} {a1 : Int} {S : MM} : fX9_rowsFrom [vR i, vI a0, vI a1] S = rn xX9_rowsFrom (0, [some (vR i), some (vI a0), some (vI a1), none, none], [], S) := rfl
theorem dX9_rowsFrom_0 : decode cX9_rowsFrom 0 = .ok (.iconst 0, 1) := by decide +kernel
theorem dX9_rowsFrom_1 : decode cX9_rowsFrom 1 = .ok (.istore_n 3, 1) := by decide +kernel
theorem dX9_rowsFrom_2 : decode cX9_rowsFrom 2 = .ok (.iload_n 1, 1) := by decide +kernel
theorem dX9_rowsFrom_3 : decode cX9_rowsFrom 3 = .ok (.istore 4, 2) := by decide +kernel
theorem dX9_rowsFrom_5 : decode cX9_rowsFrom 5 = .ok (.iload 4, 2) := by decide +kernel
theorem dX9_rowsFrom_7 : decode cX9_rowsFrom 7 = .ok (.iload_n 2, 1) := by decide +kernel
theorem dX9_rowsFrom_8 : decode cX9_rowsFrom 8 = .ok (.if_icmp .gt 44, 3) := by decide +kernel
theorem dX9_rowsFrom_11 : decode cX9_rowsFrom 11 = .ok (.iload_n 3, 1) := by decide +kernel
theorem dX9_rowsFrom_12 : decode cX9_rowsFrom 12 = .ok (.iload 4, 2) := by decide +kernel
theorem dX9_rowsFrom_14 : decode cX9_rowsFrom 14 = .ok (.aload_n 0, 1) := by decide +kernel
theorem dX9_rowsFrom_15 : decode cX9_rowsFrom 15 = .ok (.getfield 7, 3) := by decide +kernel
theorem dX9_rowsFrom_18 : decode cX9_rowsFrom 18 = .ok (.iconst 0, 1) := by decide +kernel
theorem dX9_rowsFrom_19 : decode cX9_rowsFrom 19 = .ok (.iaload, 1) := by decide +kernel
theorem dX9_rowsFrom_20 : decode cX9_rowsFrom 20 = .ok (.if_icmp .lt 23, 3) := by decide +kernel
theorem dX9_rowsFrom_23 : decode cX9_rowsFrom 23 = .ok (.iload 4, 2) := by decide +kernel
theorem dX9_rowsFrom_25 : decode cX9_rowsFrom 25 = .ok (.aload_n 0, 1) := by decide +kernel
theorem dX9_rowsFrom_26 : decode cX9_rowsFrom 26 = .ok (.getfield 7, 3) := by decide +kernel
theorem dX9_rowsFrom_29 : decode cX9_rowsFrom 29 = .ok (.iconst 1, 1) := by decide +kernel
theorem dX9_rowsFrom_30 : decode cX9_rowsFrom 30 = .ok (.iaload, 1) := by decide +kernel
theorem dX9_rowsFrom_31 : decode cX9_rowsFrom 31 = .ok (.if_icmp .gt 12, 3) := by decide +kernel
theorem dX9_rowsFrom_34 : decode cX9_rowsFrom 34 = .ok (.aload_n 0, 1) := by decide +kernel
theorem dX9_rowsFrom_35 : decode cX9_rowsFrom 35 = .ok (.iload 4, 2) := by decide +kernel
theorem dX9_rowsFrom_37 : decode cX9_rowsFrom 37 = .ok (.invokevirtual 63, 3) := by decide +kernel
theorem dX9_rowsFrom_40 : decode cX9_rowsFrom 40 = .ok (.goto 4, 3) := by decide +kernel
theorem dX9_rowsFrom_43 : decode cX9_rowsFrom 43 = .ok (.iconst 0, 1) := by decide +kernel
theorem dX9_rowsFrom_44 : decode cX9_rowsFrom 44 = .ok (.iadd, 1) := by decide +kernel
theorem dX9_rowsFrom_45 : decode cX9_rowsFrom 45 = .ok (.istore_n 3, 1) := by decide +kernel
theorem dX9_rowsFrom_46 : decode cX9_rowsFrom 46 = .ok (.iinc 4 1, 3) := by decide +kernel
theorem dX9_rowsFrom_49 : decode cX9_rowsFrom 49 = .ok (.goto (-44), 3) := by decide +kernel
theorem dX9_rowsFrom_52 : decode cX9_rowsFrom 52 = .ok (.iload_n 3, 1) := by decide +kernel
theorem dX9_rowsFrom_53 : decode cX9_rowsFrom 53 = .ok (.ireturn, 1) := by decide +kernel
theorem eX9_rowsFrom_0 {l0 l1 l2 l3 l4 : Option VV} {S : MM} : rn xX9_rowsFrom (0, [l0, l1, l2, l3, l4], [], S) = rn xX9_rowsFrom (1, [l0, l1, l2, l3, l4], [vI 0], S) := rn_step dX9_rowsFrom_0 rfl rfl
theorem eX9_rowsFrom_1 {a : Int} {w : Int} {l0 l1 l3 l4 : Option VV} {S : MM} : rn xX9_rowsFrom (1, [l0, l1, some (vI w), l3, l4], [vI a], S) = rn xX9_rowsFrom (2, [l0, l1, some (vI w), some (vI a), l4], [], S) := rn_step dX9_rowsFrom_1 rfl rfl
theorem eX9_rowsFrom_2 {a : Int} {l0 l2 l3 l4 : Option VV} {S : MM} : rn xX9_rowsFrom (2, [l0, some (vI a), l2, l3, l4], [], S) = rn xX9_rowsFrom (3, [l0, some (vI a), l2, l3, l4], [vI a], S) := rn_step dX9_rowsFrom_2 rfl rfl
theorem eX9_rowsFrom_3 {a : Int} {w : Int} {l0 l1 l2 l4 : Option VV} {S : MM} : rn xX9_rowsFrom (3, [l0, l1, l2, some (vI w), l4], [vI a], S) = rn xX9_rowsFrom (5, [l0, l1, l2, some (vI w), some (vI a)], [], S) := rn_step dX9_rowsFrom_3 rfl rfl
theorem eX9_rowsFrom_5 {a : Int} {l0 l1 l2 l3 : Option VV} {S : MM} : rn xX9_rowsFrom (5, [l0, l1, l2, l3, some (vI a)], [], S) = rn xX9_rowsFrom (7, [l0, l1, l2, l3, some (vI a)], [vI a], S) := rn_step dX9_rowsFrom_5 rfl rfl
theorem eX9_rowsFrom_7 {a : Int} {l0 l1 l3 l4 : Option VV} {v0 : VV} {S : MM} : rn xX9_rowsFrom (7, [l0, l1, some (vI a), l3, l4], [v0], S) = rn xX9_rowsFrom (8, [l0, l1, some (vI a), l3, l4], [vI a, v0], S) := rn_step dX9_rowsFrom_7 rfl rfl
theorem eX9_rowsFrom_8 {a b : Int} {l0 l1 l2 l3 l4 : Option VV} (h : -2147483648 ≤ a ∧ a ≤ 2147483647) (h1 : -2147483648 ≤ b ∧ b ≤ 2147483647) {S : MM} : rn xX9_rowsFrom (8, [l0, l1, l2, l3, l4], [vI b, vI a], S) = if b < a then rn xX9_rowsFrom (52, [l0, l1, l2, l3, l4], [], S) else rn xX9_rowsFrom (11, [l0, l1, l2, l3, l4], [], S) := q_icmp_gt dX9_rowsFrom_8 (by decide) rfl h h1
theorem eX9_rowsFrom_11 {a : Int} {l0 l1 l2 l4 : Option VV} {S : MM} : rn xX9_rowsFrom (11, [l0, l1, l2, some (vI a), l4], [], S) = rn xX9_rowsFrom (12, [l0, l1, l2, some (vI a), l4], [vI a], S) := rn_step dX9_rowsFrom_11 rfl rfl
theorem eX9_rowsFrom_12 {a : Int} {l0 l1 l2 l3 : Option VV} {v0 : VV} {S : MM} : rn xX9_rowsFrom (12, [l0, l1, l2, l3, some (vI a)], [v0], S) = rn xX9_rowsFrom (14, [l0, l1, l2, l3, some (vI a)], [vI a, v0], S) := rn_step dX9_rowsFrom_12 rfl rfl
theorem eX9_rowsFrom_14 {a : Option Nat} {l1 l2 l3 l4 : Option VV} {v0 v1 : VV} {S : MM} : rn xX9_rowsFrom (14, [some (.inr (.inl a)), l1, l2, l3, l4], [v0, v1], S) = rn xX9_rowsFrom (15, [some (.inr (.inl a)), l1, l2, l3, l4], [.inr (.inl a), v0, v1], S) := rn_step dX9_rowsFrom_14 rfl rfl
theorem eX9_rowsFrom_15 {l0 l1 l2 l3 l4 : Option VV} {v1 v2 : VV} {S : MM} : rn xX9_rowsFrom (15, [l0, l1, l2, l3, l4], [vR 593, v1, v2], S) = rn xX9_rowsFrom (18, [l0, l1, l2, l3, l4], [vR 594, v1, v2], S) := q_getR dX9_rowsFrom_15 rfl ⟨⟨by decide, by decide⟩, by decide⟩ (fun _ => by decide +kernel) kd593
theorem eX9_rowsFrom_18 {l0 l1 l2 l3 l4 : Option VV} {v0 v1 v2 : VV} {S : MM} : rn xX9_rowsFrom (18, [l0, l1, l2, l3, l4], [v0, v1, v2], S) = rn xX9_rowsFrom (19, [l0, l1, l2, l3, l4], [vI 0, v0, v1, v2], S) := rn_step dX9_rowsFrom_18 rfl rfl
theorem eX9_rowsFrom_19 {i : Nat} {j : Int} {l0 l1 l2 l3 l4 : Option VV} {v2 v3 : VV} (h : kd i = 10) (h0 : 0 ≤ j) (h1 : j < alen i) {S : MM} : rn xX9_rowsFrom (19, [l0, l1, l2, l3, l4], [vI j, vR i, v2, v3], S) = rn xX9_rowsFrom (20, [l0, l1, l2, l3, l4], [vI (S i j.toNat), v2, v3], S) := q_iald dX9_rowsFrom_19 h h0 h1
theorem eX9_rowsFrom_19x {j : Int} {l0 l1 l2 l3 l4 : Option VV} {v2 v3 : VV} {S : MM} (h0 : 0 ≤ j) (h1 : j < S 604 0) : rn xX9_rowsFrom (19, [l0, l1, l2, l3, l4], [vI j, vR 602, v2, v3], S) = rn xX9_rowsFrom (20, [l0, l1, l2, l3, l4], [vI (S 602 j.toNat), v2, v3], S) := q_ialdX dX9_rowsFrom_19 h0 h1
theorem eX9_rowsFrom_19y {j : Int} {l0 l1 l2 l3 l4 : Option VV} {v2 v3 : VV} {S : MM} (h0 : 0 ≤ j) (h1 : j < S 604 1) : rn xX9_rowsFrom (19, [l0, l1, l2, l3, l4], [vI j, vR 603, v2, v3], S) = rn xX9_rowsFrom (20, [l0, l1, l2, l3, l4], [vI (S 603 j.toNat), v2, v3], S) := q_ialdY dX9_rowsFrom_19 h0 h1
theorem eX9_rowsFrom_20 {a b : Int} {l0 l1 l2 l3 l4 : Option VV} {v2 : VV} (h : -2147483648 ≤ a ∧ a ≤ 2147483647) (h1 : -2147483648 ≤ b ∧ b ≤ 2147483647) {S : MM} : rn xX9_rowsFrom (20, [l0, l1, l2, l3, l4], [vI b, vI a, v2], S) = if a < b then rn xX9_rowsFrom (43, [l0, l1, l2, l3, l4], [v2], S) else rn xX9_rowsFrom (23, [l0, l1, l2, l3, l4], [v2], S) := q_icmp_lt dX9_rowsFrom_20 (by decide) rfl h h1
theorem eX9_rowsFrom_23 {a : Int} {l0 l1 l2 l3 : Option VV} {v0 : VV} {S : MM} : rn xX9_rowsFrom (23, [l0, l1, l2, l3, some (vI a)], [v0], S) = rn xX9_rowsFrom (25, [l0, l1, l2, l3, some (vI a)], [vI a, v0], S) := rn_step dX9_rowsFrom_23 rfl rfl
theorem eX9_rowsFrom_25 {a : Option Nat} {l1 l2 l3 l4 : Option VV} {v0 v1 : VV} {S : MM} : rn xX9_rowsFrom (25, [some (.inr (.inl a)), l1, l2, l3, l4], [v0, v1], S) = rn xX9_rowsFrom (26, [some (.inr (.inl a)), l1, l2, l3, l4], [.inr (.inl a), v0, v1], S) := rn_step dX9_rowsFrom_25 rfl rfl
theorem eX9_rowsFrom_26 {l0 l1 l2 l3 l4 : Option VV} {v1 v2 : VV} {S : MM} : rn xX9_rowsFrom (26, [l0, l1, l2, l3, l4], [vR 593, v1, v2], S) = rn xX9_rowsFrom (29, [l0, l1, l2, l3, l4], [vR 594, v1, v2], S) := q_getR dX9_rowsFrom_26 rfl ⟨⟨by decide, by decide⟩, by decide⟩ (fun _ => by decide +kernel) kd593
theorem eX9_rowsFrom_29 {l0 l1 l2 l3 l4 : Option VV} {v0 v1 v2 : VV} {S : MM} : rn xX9_rowsFrom (29, [l0, l1, l2, l3, l4], [v0, v1, v2], S) = rn xX9_rowsFrom (30, [l0, l1, l2, l3, l4], [vI 1, v0, v1, v2], S) := rn_step dX9_rowsFrom_29 rfl rfl
theorem eX9_rowsFrom_30 {i : Nat} {j : Int} {l0 l1 l2 l3 l4 : Option VV} {v2 v3 : VV} (h : kd i = 10) (h0 : 0 ≤ j) (h1 : j < alen i) {S : MM} : rn xX9_rowsFrom (30, [l0, l1, l2, l3, l4], [vI j, vR i, v2, v3], S) = rn xX9_rowsFrom (31, [l0, l1, l2, l3, l4], [vI (S i j.toNat), v2, v3], S) := q_iald dX9_rowsFrom_30 h h0 h1
theorem eX9_rowsFrom_30x {j : Int} {l0 l1 l2 l3 l4 : Option VV} {v2 v3 : VV} {S : MM} (h0 : 0 ≤ j) (h1 : j < S 604 0) : rn xX9_rowsFrom (30, [l0, l1, l2, l3, l4], [vI j, vR 602, v2, v3], S) = rn xX9_rowsFrom (31, [l0, l1, l2, l3, l4], [vI (S 602 j.toNat), v2, v3], S) := q_ialdX dX9_rowsFrom_30 h0 h1
theorem eX9_rowsFrom_30y {j : Int} {l0 l1 l2 l3 l4 : Option VV} {v2 v3 : VV} {S : MM} (h0 : 0 ≤ j) (h1 : j < S 604 1) : rn xX9_rowsFrom (30, [l0, l1, l2, l3, l4], [vI j, vR 603, v2, v3], S) = rn xX9_rowsFrom (31, [l0, l1, l2, l3, l4], [vI (S 603 j.toNat), v2, v3], S) := q_ialdY dX9_rowsFrom_30 h0 h1
theorem eX9_rowsFrom_31 {a b : Int} {l0 l1 l2 l3 l4 : Option VV} {v2 : VV} (h : -2147483648 ≤ a ∧ a ≤ 2147483647) (h1 : -2147483648 ≤ b ∧ b ≤ 2147483647) {S : MM} : rn xX9_rowsFrom (31, [l0, l1, l2, l3, l4], [vI b, vI a, v2], S) = if b < a then rn xX9_rowsFrom (43, [l0, l1, l2, l3, l4], [v2], S) else rn xX9_rowsFrom (34, [l0, l1, l2, l3, l4], [v2], S) := q_icmp_gt dX9_rowsFrom_31 (by decide) rfl h h1
theorem eX9_rowsFrom_34 {a : Option Nat} {l1 l2 l3 l4 : Option VV} {v0 : VV} {S : MM} : rn xX9_rowsFrom (34, [some (.inr (.inl a)), l1, l2, l3, l4], [v0], S) = rn xX9_rowsFrom (35, [some (.inr (.inl a)), l1, l2, l3, l4], [.inr (.inl a), v0], S) := rn_step dX9_rowsFrom_34 rfl rfl
theorem eX9_rowsFrom_35 {a : Int} {l0 l1 l2 l3 : Option VV} {v0 v1 : VV} {S : MM} : rn xX9_rowsFrom (35, [l0, l1, l2, l3, some (vI a)], [v0, v1], S) = rn xX9_rowsFrom (37, [l0, l1, l2, l3, some (vI a)], [vI a, v0, v1], S) := rn_step dX9_rowsFrom_35 rfl rfl
theorem eX9_rowsFrom_37 {a0 : Int} {l0 l1 l2 l3 l4 : Option VV} {v2 : VV} {S : MM} : rn xX9_rowsFrom (37, [l0, l1, l2, l3, l4], [vI a0, vR 593, v2], S) = (fX9_rowsAt [vR 593, vI a0] S).bind (fun q => rn xX9_rowsFrom (40, [l0, l1, l2, l3, l4], q.1.toList ++ [v2], q.2)) := q_callV (n := 1) (as := [vI a0]) (rest := [v2]) dX9_rowsFrom_37 rfl rfl rfl rfl kd593
theorem eX9_rowsFrom_40 {l0 l1 l2 l3 l4 : Option VV} {v0 v1 : VV} {S : MM} : rn xX9_rowsFrom (40, [l0, l1, l2, l3, l4], [v0, v1], S) = rn xX9_rowsFrom (44, [l0, l1, l2, l3, l4], [v0, v1], S) := rn_step dX9_rowsFrom_40 rfl rfl
theorem eX9_rowsFrom_43 {l0 l1 l2 l3 l4 : Option VV} {v0 : VV} {S : MM} : rn xX9_rowsFrom (43, [l0, l1, l2, l3, l4], [v0], S) = rn xX9_rowsFrom (44, [l0, l1, l2, l3, l4], [vI 0, v0], S) := rn_step dX9_rowsFrom_43 rfl rfl
theorem eX9_rowsFrom_44 {a b : Int} {l0 l1 l2 l3 l4 : Option VV} {S : MM} : rn xX9_rowsFrom (44, [l0, l1, l2, l3, l4], [vI b, vI a], S) = rn xX9_rowsFrom (45, [l0, l1, l2, l3, l4], [vI (a + b)], S) := rn_step dX9_rowsFrom_44 rfl rfl
theorem eX9_rowsFrom_45 {a : Int} {w : Int} {l0 l1 l3 l4 : Option VV} {S : MM} : rn xX9_rowsFrom (45, [l0, l1, some (vI w), l3, l4], [vI a], S) = rn xX9_rowsFrom (46, [l0, l1, some (vI w), some (vI a), l4], [], S) := rn_step dX9_rowsFrom_45 rfl rfl
theorem eX9_rowsFrom_46 {a : Int} {w : Int} {l0 l1 l2 : Option VV} {S : MM} : rn xX9_rowsFrom (46, [l0, l1, l2, some (vI w), some (vI a)], [], S) = rn xX9_rowsFrom (49, [l0, l1, l2, some (vI w), some (vI (a + 1))], [], S) := rn_step dX9_rowsFrom_46 rfl rfl
theorem eX9_rowsFrom_49 {l0 l1 l2 l3 l4 : Option VV} {S : MM} : rn xX9_rowsFrom (49, [l0, l1, l2, l3, l4], [], S) = rn xX9_rowsFrom (5, [l0, l1, l2, l3, l4], [], S) := rn_step dX9_rowsFrom_49 rfl rfl
theorem eX9_rowsFrom_52 {a : Int} {l0 l1 l2 l4 : Option VV} {S : MM} : rn xX9_rowsFrom (52, [l0, l1, l2, some (vI a), l4], [], S) = rn xX9_rowsFrom (53, [l0, l1, l2, some (vI a), l4], [vI a], S) := rn_step dX9_rowsFrom_52 rfl rfl
theorem eX9_rowsFrom_53 {z : Int} {l0 l1 l2 l3 l4 : Option VV} {S : MM} : rn xX9_rowsFrom (53, [l0, l1, l2, l3, l4], [vI z], S) = some (some (vI z), S) := q_retI dX9_rowsFrom_53 rfl
noncomputable def qlX9_walking : List CE := [(1, 35, 0, 3, fX9_in), (0, 63, 9, 2, fX9_rowsAt), (0, 187, 9, 3, fX9_rowsFrom)]
noncomputable def xX9_walking : XX := (cX9_walking, fcF fcl9, mcF qlX9_walking, 1)
noncomputable def fX9_walking : FN := fnX xX9_walking 7
set_option maxRecDepth 100000 in
theorem cwX9_walking : Cond.code yX9_walking cX9_walking 7 (some .int) ∈ lw_g := lw_gm 1154 (by decide +kernel) (by decide +kernel)
set_option maxRecDepth 100000 in
theorem conX9_walking : Con yX9_walking cX9_walking 7 (some .int) { frames := 3, cells := 0, slots := 0, locals := 67 } fX9_walking := con_of (X := xX9_walking) (own := "LeapStonesModel") (ql := qlX9_walking) (by decide) rfl FOK9 rfl (List.forall_mem_cons.mpr ⟨call_S conX9_in cwX9_in (lw_gl _ [1043, 1044, 84] (by decide +kernel) (by decide +kernel)) ⟨by decide, by decide, by decide +kernel⟩ ⟨rfl, rfl⟩ ⟨by decide, by decide⟩ ⟨Nat.le_refl _, Nat.le_refl _⟩, List.forall_mem_cons.mpr ⟨call_V conX9_rowsAt cwX9_rowsAt (lw_gl _ [979, 981, 28, 84] (by decide +kernel) (by decide +kernel)) (by decide) rfl ⟨by decide, by decide, by decide +kernel⟩ ⟨rfl, rfl⟩ ⟨by decide, by decide⟩ ⟨Nat.le_refl _, Nat.le_refl _⟩, List.forall_mem_cons.mpr ⟨call_V conX9_rowsFrom cwX9_rowsFrom (lw_gl _ [1155, 1157, 57, 84] (by decide +kernel) (by decide +kernel)) (by decide) rfl ⟨by decide, by decide, by decide +kernel⟩ ⟨rfl, rfl⟩ ⟨by decide, by decide⟩ ⟨Nat.le_refl _, Nat.le_refl _⟩, fun _ h => absurd h List.not_mem_nil⟩⟩⟩) (Or.inr (Or.inl ⟨rfl, rfl⟩))
theorem uX9_walking {i : Nat} {a0 : Int} {S : MM} : fX9_walking [vR i, vI a0] S = rn xX9_walking (0, [some (vR i), some (vI a0), none, none, none, none, none], [], S) := rfl
theorem dX9_walking_0 : decode cX9_walking 0 = .ok (.iload_n 1, 1) := by decide +kernel
theorem dX9_walking_1 : decode cX9_walking 1 = .ok (.iconst 0, 1) := by decide +kernel
theorem dX9_walking_2 : decode cX9_walking 2 = .ok (.iconst 4, 1) := by decide +kernel
theorem dX9_walking_3 : decode cX9_walking 3 = .ok (.invokestatic 35, 3) := by decide +kernel
theorem dX9_walking_6 : decode cX9_walking 6 = .ok (.ifCond .ne 6, 3) := by decide +kernel
theorem dX9_walking_9 : decode cX9_walking 9 = .ok (.bipush (-2), 2) := by decide +kernel
theorem dX9_walking_11 : decode cX9_walking 11 = .ok (.ireturn, 1) := by decide +kernel
theorem dX9_walking_12 : decode cX9_walking 12 = .ok (.iconst 0, 1) := by decide +kernel
theorem dX9_walking_13 : decode cX9_walking 13 = .ok (.istore_n 2, 1) := by decide +kernel
theorem dX9_walking_14 : decode cX9_walking 14 = .ok (.bipush (-6), 2) := by decide +kernel
theorem dX9_walking_16 : decode cX9_walking 16 = .ok (.istore_n 3, 1) := by decide +kernel
theorem dX9_walking_17 : decode cX9_walking 17 = .ok (.bipush (-6), 2) := by decide +kernel
theorem dX9_walking_19 : decode cX9_walking 19 = .ok (.istore 4, 2) := by decide +kernel
theorem dX9_walking_21 : decode cX9_walking 21 = .ok (.bipush (-6), 2) := by decide +kernel
theorem dX9_walking_23 : decode cX9_walking 23 = .ok (.istore 5, 2) := by decide +kernel
theorem dX9_walking_25 : decode cX9_walking 25 = .ok (.aload_n 0, 1) := by decide +kernel
theorem dX9_walking_26 : decode cX9_walking 26 = .ok (.getfield 7, 3) := by decide +kernel
theorem dX9_walking_29 : decode cX9_walking 29 = .ok (.iconst 0, 1) := by decide +kernel
theorem dX9_walking_30 : decode cX9_walking 30 = .ok (.iaload, 1) := by decide +kernel
theorem dX9_walking_31 : decode cX9_walking 31 = .ok (.istore 6, 2) := by decide +kernel
theorem dX9_walking_33 : decode cX9_walking 33 = .ok (.iload 6, 2) := by decide +kernel
theorem dX9_walking_35 : decode cX9_walking 35 = .ok (.aload_n 0, 1) := by decide +kernel
theorem dX9_walking_36 : decode cX9_walking 36 = .ok (.getfield 7, 3) := by decide +kernel
theorem dX9_walking_39 : decode cX9_walking 39 = .ok (.iconst 1, 1) := by decide +kernel
theorem dX9_walking_40 : decode cX9_walking 40 = .ok (.iaload, 1) := by decide +kernel
theorem dX9_walking_41 : decode cX9_walking 41 = .ok (.if_icmp .gt 63, 3) := by decide +kernel
theorem dX9_walking_44 : decode cX9_walking 44 = .ok (.aload_n 0, 1) := by decide +kernel
theorem dX9_walking_45 : decode cX9_walking 45 = .ok (.iload 6, 2) := by decide +kernel
theorem dX9_walking_47 : decode cX9_walking 47 = .ok (.invokevirtual 63, 3) := by decide +kernel
theorem dX9_walking_50 : decode cX9_walking 50 = .ok (.ifCond .le 48, 3) := by decide +kernel
theorem dX9_walking_53 : decode cX9_walking 53 = .ok (.iload 4, 2) := by decide +kernel
theorem dX9_walking_55 : decode cX9_walking 55 = .ok (.ifCond .lt 21, 3) := by decide +kernel
theorem dX9_walking_58 : decode cX9_walking 58 = .ok (.iload 6, 2) := by decide +kernel
theorem dX9_walking_60 : decode cX9_walking 60 = .ok (.iload 4, 2) := by decide +kernel
theorem dX9_walking_62 : decode cX9_walking 62 = .ok (.isub, 1) := by decide +kernel
theorem dX9_walking_63 : decode cX9_walking 63 = .ok (.iload 5, 2) := by decide +kernel
theorem dX9_walking_65 : decode cX9_walking 65 = .ok (.if_icmp .le 11, 3) := by decide +kernel
theorem dX9_walking_68 : decode cX9_walking 68 = .ok (.iload 6, 2) := by decide +kernel
theorem dX9_walking_70 : decode cX9_walking 70 = .ok (.iload 4, 2) := by decide +kernel
theorem dX9_walking_72 : decode cX9_walking 72 = .ok (.isub, 1) := by decide +kernel
theorem dX9_walking_73 : decode cX9_walking 73 = .ok (.goto 5, 3) := by decide +kernel
theorem dX9_walking_76 : decode cX9_walking 76 = .ok (.iload 5, 2) := by decide +kernel
theorem dX9_walking_78 : decode cX9_walking 78 = .ok (.istore 5, 2) := by decide +kernel
theorem dX9_walking_80 : decode cX9_walking 80 = .ok (.iload_n 3, 1) := by decide +kernel
theorem dX9_walking_81 : decode cX9_walking 81 = .ok (.ifCond .ge 8, 3) := by decide +kernel
theorem dX9_walking_84 : decode cX9_walking 84 = .ok (.iload 6, 2) := by decide +kernel
theorem dX9_walking_86 : decode cX9_walking 86 = .ok (.goto 4, 3) := by decide +kernel
theorem dX9_walking_89 : decode cX9_walking 89 = .ok (.iload_n 3, 1) := by decide +kernel
theorem dX9_walking_90 : decode cX9_walking 90 = .ok (.istore_n 3, 1) := by decide +kernel
theorem dX9_walking_91 : decode cX9_walking 91 = .ok (.iload 6, 2) := by decide +kernel
theorem dX9_walking_93 : decode cX9_walking 93 = .ok (.istore 4, 2) := by decide +kernel
theorem dX9_walking_95 : decode cX9_walking 95 = .ok (.iinc 2 1, 3) := by decide +kernel
theorem dX9_walking_98 : decode cX9_walking 98 = .ok (.iinc 6 1, 3) := by decide +kernel
theorem dX9_walking_101 : decode cX9_walking 101 = .ok (.goto (-68), 3) := by decide +kernel
theorem dX9_walking_104 : decode cX9_walking 104 = .ok (.iload_n 1, 1) := by decide +kernel
theorem dX9_walking_105 : decode cX9_walking 105 = .ok (.ifCond .ne 7, 3) := by decide +kernel
theorem dX9_walking_108 : decode cX9_walking 108 = .ok (.iload_n 2, 1) := by decide +kernel
theorem dX9_walking_109 : decode cX9_walking 109 = .ok (.goto 40, 3) := by decide +kernel
theorem dX9_walking_112 : decode cX9_walking 112 = .ok (.iload_n 1, 1) := by decide +kernel
theorem dX9_walking_113 : decode cX9_walking 113 = .ok (.iconst 1, 1) := by decide +kernel
theorem dX9_walking_114 : decode cX9_walking 114 = .ok (.if_icmp .ne 14, 3) := by decide +kernel
theorem dX9_walking_117 : decode cX9_walking 117 = .ok (.aload_n 0, 1) := by decide +kernel
theorem dX9_walking_118 : decode cX9_walking 118 = .ok (.iconst 0, 1) := by decide +kernel
theorem dX9_walking_119 : decode cX9_walking 119 = .ok (.sipush 299, 3) := by decide +kernel
theorem dX9_walking_122 : decode cX9_walking 122 = .ok (.invokevirtual 187, 3) := by decide +kernel
theorem dX9_walking_125 : decode cX9_walking 125 = .ok (.goto 24, 3) := by decide +kernel
theorem dX9_walking_128 : decode cX9_walking 128 = .ok (.iload_n 1, 1) := by decide +kernel
theorem dX9_walking_129 : decode cX9_walking 129 = .ok (.iconst 2, 1) := by decide +kernel
theorem dX9_walking_130 : decode cX9_walking 130 = .ok (.if_icmp .ne 7, 3) := by decide +kernel
theorem dX9_walking_133 : decode cX9_walking 133 = .ok (.iload_n 3, 1) := by decide +kernel
theorem dX9_walking_134 : decode cX9_walking 134 = .ok (.goto 15, 3) := by decide +kernel
theorem dX9_walking_137 : decode cX9_walking 137 = .ok (.iload_n 1, 1) := by decide +kernel
theorem dX9_walking_138 : decode cX9_walking 138 = .ok (.iconst 3, 1) := by decide +kernel
theorem dX9_walking_139 : decode cX9_walking 139 = .ok (.if_icmp .ne 8, 3) := by decide +kernel
theorem dX9_walking_142 : decode cX9_walking 142 = .ok (.iload 4, 2) := by decide +kernel
theorem dX9_walking_144 : decode cX9_walking 144 = .ok (.goto 5, 3) := by decide +kernel
theorem dX9_walking_147 : decode cX9_walking 147 = .ok (.iload 5, 2) := by decide +kernel
theorem dX9_walking_149 : decode cX9_walking 149 = .ok (.ireturn, 1) := by decide +kernel
theorem eX9_walking_0 {a : Int} {l0 l2 l3 l4 l5 l6 : Option VV} {S : MM} : rn xX9_walking (0, [l0, some (vI a), l2, l3, l4, l5, l6], [], S) = rn xX9_walking (1, [l0, some (vI a), l2, l3, l4, l5, l6], [vI a], S) := rn_step dX9_walking_0 rfl rfl
theorem eX9_walking_1 {l0 l1 l2 l3 l4 l5 l6 : Option VV} {v0 : VV} {S : MM} : rn xX9_walking (1, [l0, l1, l2, l3, l4, l5, l6], [v0], S) = rn xX9_walking (2, [l0, l1, l2, l3, l4, l5, l6], [vI 0, v0], S) := rn_step dX9_walking_1 rfl rfl
theorem eX9_walking_2 {l0 l1 l2 l3 l4 l5 l6 : Option VV} {v0 v1 : VV} {S : MM} : rn xX9_walking (2, [l0, l1, l2, l3, l4, l5, l6], [v0, v1], S) = rn xX9_walking (3, [l0, l1, l2, l3, l4, l5, l6], [vI 4, v0, v1], S) := rn_step dX9_walking_2 rfl rfl
theorem eX9_walking_3 {a0 : Int} {a1 : Int} {a2 : Int} {l0 l1 l2 l3 l4 l5 l6 : Option VV} {S : MM} : rn xX9_walking (3, [l0, l1, l2, l3, l4, l5, l6], [vI a2, vI a1, vI a0], S) = (fX9_in [vI a0, vI a1, vI a2] S).bind (fun q => rn xX9_walking (6, [l0, l1, l2, l3, l4, l5, l6], q.1.toList ++ [], q.2)) := q_callS (n := 3) (as := [vI a0, vI a1, vI a2]) (rest := []) dX9_walking_3 rfl rfl rfl rfl
theorem eX9_walking_6 {a : Int} {l0 l1 l2 l3 l4 l5 l6 : Option VV} (h : -2147483648 ≤ a ∧ a ≤ 2147483647) {S : MM} : rn xX9_walking (6, [l0, l1, l2, l3, l4, l5, l6], [vI a], S) = if a = 0 then rn xX9_walking (9, [l0, l1, l2, l3, l4, l5, l6], [], S) else rn xX9_walking (12, [l0, l1, l2, l3, l4, l5, l6], [], S) := q_if_ne dX9_walking_6 (by decide) rfl h
theorem eX9_walking_9 {l0 l1 l2 l3 l4 l5 l6 : Option VV} {S : MM} : rn xX9_walking (9, [l0, l1, l2, l3, l4, l5, l6], [], S) = rn xX9_walking (11, [l0, l1, l2, l3, l4, l5, l6], [vI (-2)], S) := rn_step dX9_walking_9 rfl rfl
theorem eX9_walking_11 {z : Int} {l0 l1 l2 l3 l4 l5 l6 : Option VV} {S : MM} : rn xX9_walking (11, [l0, l1, l2, l3, l4, l5, l6], [vI z], S) = some (some (vI z), S) := q_retI dX9_walking_11 rfl
theorem eX9_walking_12 {l0 l1 l2 l3 l4 l5 l6 : Option VV} {S : MM} : rn xX9_walking (12, [l0, l1, l2, l3, l4, l5, l6], [], S) = rn xX9_walking (13, [l0, l1, l2, l3, l4, l5, l6], [vI 0], S) := rn_step dX9_walking_12 rfl rfl
theorem eX9_walking_13 {a : Int} {w : Int} {l0 l2 l3 l4 l5 l6 : Option VV} {S : MM} : rn xX9_walking (13, [l0, some (vI w), l2, l3, l4, l5, l6], [vI a], S) = rn xX9_walking (14, [l0, some (vI w), some (vI a), l3, l4, l5, l6], [], S) := rn_step dX9_walking_13 rfl rfl
theorem eX9_walking_14 {l0 l1 l2 l3 l4 l5 l6 : Option VV} {S : MM} : rn xX9_walking (14, [l0, l1, l2, l3, l4, l5, l6], [], S) = rn xX9_walking (16, [l0, l1, l2, l3, l4, l5, l6], [vI (-6)], S) := rn_step dX9_walking_14 rfl rfl
theorem eX9_walking_16 {a : Int} {w : Int} {l0 l1 l3 l4 l5 l6 : Option VV} {S : MM} : rn xX9_walking (16, [l0, l1, some (vI w), l3, l4, l5, l6], [vI a], S) = rn xX9_walking (17, [l0, l1, some (vI w), some (vI a), l4, l5, l6], [], S) := rn_step dX9_walking_16 rfl rfl
theorem eX9_walking_17 {l0 l1 l2 l3 l4 l5 l6 : Option VV} {S : MM} : rn xX9_walking (17, [l0, l1, l2, l3, l4, l5, l6], [], S) = rn xX9_walking (19, [l0, l1, l2, l3, l4, l5, l6], [vI (-6)], S) := rn_step dX9_walking_17 rfl rfl
theorem eX9_walking_19 {a : Int} {w : Int} {l0 l1 l2 l4 l5 l6 : Option VV} {S : MM} : rn xX9_walking (19, [l0, l1, l2, some (vI w), l4, l5, l6], [vI a], S) = rn xX9_walking (21, [l0, l1, l2, some (vI w), some (vI a), l5, l6], [], S) := rn_step dX9_walking_19 rfl rfl
theorem eX9_walking_21 {l0 l1 l2 l3 l4 l5 l6 : Option VV} {S : MM} : rn xX9_walking (21, [l0, l1, l2, l3, l4, l5, l6], [], S) = rn xX9_walking (23, [l0, l1, l2, l3, l4, l5, l6], [vI (-6)], S) := rn_step dX9_walking_21 rfl rfl
theorem eX9_walking_23 {a : Int} {w : Int} {l0 l1 l2 l3 l5 l6 : Option VV} {S : MM} : rn xX9_walking (23, [l0, l1, l2, l3, some (vI w), l5, l6], [vI a], S) = rn xX9_walking (25, [l0, l1, l2, l3, some (vI w), some (vI a), l6], [], S) := rn_step dX9_walking_23 rfl rfl
theorem eX9_walking_25 {a : Option Nat} {l1 l2 l3 l4 l5 l6 : Option VV} {S : MM} : rn xX9_walking (25, [some (.inr (.inl a)), l1, l2, l3, l4, l5, l6], [], S) = rn xX9_walking (26, [some (.inr (.inl a)), l1, l2, l3, l4, l5, l6], [.inr (.inl a)], S) := rn_step dX9_walking_25 rfl rfl
theorem eX9_walking_26 {l0 l1 l2 l3 l4 l5 l6 : Option VV} {S : MM} : rn xX9_walking (26, [l0, l1, l2, l3, l4, l5, l6], [vR 593], S) = rn xX9_walking (29, [l0, l1, l2, l3, l4, l5, l6], [vR 594], S) := q_getR dX9_walking_26 rfl ⟨⟨by decide, by decide⟩, by decide⟩ (fun _ => by decide +kernel) kd593
theorem eX9_walking_29 {l0 l1 l2 l3 l4 l5 l6 : Option VV} {v0 : VV} {S : MM} : rn xX9_walking (29, [l0, l1, l2, l3, l4, l5, l6], [v0], S) = rn xX9_walking (30, [l0, l1, l2, l3, l4, l5, l6], [vI 0, v0], S) := rn_step dX9_walking_29 rfl rfl
theorem eX9_walking_30 {i : Nat} {j : Int} {l0 l1 l2 l3 l4 l5 l6 : Option VV} (h : kd i = 10) (h0 : 0 ≤ j) (h1 : j < alen i) {S : MM} : rn xX9_walking (30, [l0, l1, l2, l3, l4, l5, l6], [vI j, vR i], S) = rn xX9_walking (31, [l0, l1, l2, l3, l4, l5, l6], [vI (S i j.toNat)], S) := q_iald dX9_walking_30 h h0 h1
theorem eX9_walking_30x {j : Int} {l0 l1 l2 l3 l4 l5 l6 : Option VV} {S : MM} (h0 : 0 ≤ j) (h1 : j < S 604 0) : rn xX9_walking (30, [l0, l1, l2, l3, l4, l5, l6], [vI j, vR 602], S) = rn xX9_walking (31, [l0, l1, l2, l3, l4, l5, l6], [vI (S 602 j.toNat)], S) := q_ialdX dX9_walking_30 h0 h1
theorem eX9_walking_30y {j : Int} {l0 l1 l2 l3 l4 l5 l6 : Option VV} {S : MM} (h0 : 0 ≤ j) (h1 : j < S 604 1) : rn xX9_walking (30, [l0, l1, l2, l3, l4, l5, l6], [vI j, vR 603], S) = rn xX9_walking (31, [l0, l1, l2, l3, l4, l5, l6], [vI (S 603 j.toNat)], S) := q_ialdY dX9_walking_30 h0 h1
theorem eX9_walking_31 {a : Int} {w : Int} {l0 l1 l2 l3 l4 l6 : Option VV} {S : MM} : rn xX9_walking (31, [l0, l1, l2, l3, l4, some (vI w), l6], [vI a], S) = rn xX9_walking (33, [l0, l1, l2, l3, l4, some (vI w), some (vI a)], [], S) := rn_step dX9_walking_31 rfl rfl
theorem eX9_walking_33 {a : Int} {l0 l1 l2 l3 l4 l5 : Option VV} {S : MM} : rn xX9_walking (33, [l0, l1, l2, l3, l4, l5, some (vI a)], [], S) = rn xX9_walking (35, [l0, l1, l2, l3, l4, l5, some (vI a)], [vI a], S) := rn_step dX9_walking_33 rfl rfl
theorem eX9_walking_35 {a : Option Nat} {l1 l2 l3 l4 l5 l6 : Option VV} {v0 : VV} {S : MM} : rn xX9_walking (35, [some (.inr (.inl a)), l1, l2, l3, l4, l5, l6], [v0], S) = rn xX9_walking (36, [some (.inr (.inl a)), l1, l2, l3, l4, l5, l6], [.inr (.inl a), v0], S) := rn_step dX9_walking_35 rfl rfl
theorem eX9_walking_36 {l0 l1 l2 l3 l4 l5 l6 : Option VV} {v1 : VV} {S : MM} : rn xX9_walking (36, [l0, l1, l2, l3, l4, l5, l6], [vR 593, v1], S) = rn xX9_walking (39, [l0, l1, l2, l3, l4, l5, l6], [vR 594, v1], S) := q_getR dX9_walking_36 rfl ⟨⟨by decide, by decide⟩, by decide⟩ (fun _ => by decide +kernel) kd593
theorem eX9_walking_39 {l0 l1 l2 l3 l4 l5 l6 : Option VV} {v0 v1 : VV} {S : MM} : rn xX9_walking (39, [l0, l1, l2, l3, l4, l5, l6], [v0, v1], S) = rn xX9_walking (40, [l0, l1, l2, l3, l4, l5, l6], [vI 1, v0, v1], S) := rn_step dX9_walking_39 rfl rfl
theorem eX9_walking_40 {i : Nat} {j : Int} {l0 l1 l2 l3 l4 l5 l6 : Option VV} {v2 : VV} (h : kd i = 10) (h0 : 0 ≤ j) (h1 : j < alen i) {S : MM} : rn xX9_walking (40, [l0, l1, l2, l3, l4, l5, l6], [vI j, vR i, v2], S) = rn xX9_walking (41, [l0, l1, l2, l3, l4, l5, l6], [vI (S i j.toNat), v2], S) := q_iald dX9_walking_40 h h0 h1
theorem eX9_walking_40x {j : Int} {l0 l1 l2 l3 l4 l5 l6 : Option VV} {v2 : VV} {S : MM} (h0 : 0 ≤ j) (h1 : j < S 604 0) : rn xX9_walking (40, [l0, l1, l2, l3, l4, l5, l6], [vI j, vR 602, v2], S) = rn xX9_walking (41, [l0, l1, l2, l3, l4, l5, l6], [vI (S 602 j.toNat), v2], S) := q_ialdX dX9_walking_40 h0 h1
theorem eX9_walking_40y {j : Int} {l0 l1 l2 l3 l4 l5 l6 : Option VV} {v2 : VV} {S : MM} (h0 : 0 ≤ j) (h1 : j < S 604 1) : rn xX9_walking (40, [l0, l1, l2, l3, l4, l5, l6], [vI j, vR 603, v2], S) = rn xX9_walking (41, [l0, l1, l2, l3, l4, l5, l6], [vI (S 603 j.toNat), v2], S) := q_ialdY dX9_walking_40 h0 h1
theorem eX9_walking_41 {a b : Int} {l0 l1 l2 l3 l4 l5 l6 : Option VV} (h : -2147483648 ≤ a ∧ a ≤ 2147483647) (h1 : -2147483648 ≤ b ∧ b ≤ 2147483647) {S : MM} : rn xX9_walking (41, [l0, l1, l2, l3, l4, l5, l6], [vI b, vI a], S) = if b < a then rn xX9_walking (104, [l0, l1, l2, l3, l4, l5, l6], [], S) else rn xX9_walking (44, [l0, l1, l2, l3, l4, l5, l6], [], S) := q_icmp_gt dX9_walking_41 (by decide) rfl h h1
theorem eX9_walking_44 {a : Option Nat} {l1 l2 l3 l4 l5 l6 : Option VV} {S : MM} : rn xX9_walking (44, [some (.inr (.inl a)), l1, l2, l3, l4, l5, l6], [], S) = rn xX9_walking (45, [some (.inr (.inl a)), l1, l2, l3, l4, l5, l6], [.inr (.inl a)], S) := rn_step dX9_walking_44 rfl rfl
theorem eX9_walking_45 {a : Int} {l0 l1 l2 l3 l4 l5 : Option VV} {v0 : VV} {S : MM} : rn xX9_walking (45, [l0, l1, l2, l3, l4, l5, some (vI a)], [v0], S) = rn xX9_walking (47, [l0, l1, l2, l3, l4, l5, some (vI a)], [vI a, v0], S) := rn_step dX9_walking_45 rfl rfl
theorem eX9_walking_47 {a0 : Int} {l0 l1 l2 l3 l4 l5 l6 : Option VV} {S : MM} : rn xX9_walking (47, [l0, l1, l2, l3, l4, l5, l6], [vI a0, vR 593], S) = (fX9_rowsAt [vR 593, vI a0] S).bind (fun q => rn xX9_walking (50, [l0, l1, l2, l3, l4, l5, l6], q.1.toList ++ [], q.2)) := q_callV (n := 1) (as := [vI a0]) (rest := []) dX9_walking_47 rfl rfl rfl rfl kd593
theorem eX9_walking_50 {a : Int} {l0 l1 l2 l3 l4 l5 l6 : Option VV} (h : -2147483648 ≤ a ∧ a ≤ 2147483647) {S : MM} : rn xX9_walking (50, [l0, l1, l2, l3, l4, l5, l6], [vI a], S) = if 0 < a then rn xX9_walking (53, [l0, l1, l2, l3, l4, l5, l6], [], S) else rn xX9_walking (98, [l0, l1, l2, l3, l4, l5, l6], [], S) := q_if_le dX9_walking_50 (by decide) rfl h
theorem eX9_walking_53 {a : Int} {l0 l1 l2 l3 l5 l6 : Option VV} {S : MM} : rn xX9_walking (53, [l0, l1, l2, l3, some (vI a), l5, l6], [], S) = rn xX9_walking (55, [l0, l1, l2, l3, some (vI a), l5, l6], [vI a], S) := rn_step dX9_walking_53 rfl rfl
theorem eX9_walking_55 {a : Int} {l0 l1 l2 l3 l4 l5 l6 : Option VV} (h : -2147483648 ≤ a ∧ a ≤ 2147483647) {S : MM} : rn xX9_walking (55, [l0, l1, l2, l3, l4, l5, l6], [vI a], S) = if a < 0 then rn xX9_walking (76, [l0, l1, l2, l3, l4, l5, l6], [], S) else rn xX9_walking (58, [l0, l1, l2, l3, l4, l5, l6], [], S) := q_if_lt dX9_walking_55 (by decide) rfl h
theorem eX9_walking_58 {a : Int} {l0 l1 l2 l3 l4 l5 : Option VV} {S : MM} : rn xX9_walking (58, [l0, l1, l2, l3, l4, l5, some (vI a)], [], S) = rn xX9_walking (60, [l0, l1, l2, l3, l4, l5, some (vI a)], [vI a], S) := rn_step dX9_walking_58 rfl rfl
theorem eX9_walking_60 {a : Int} {l0 l1 l2 l3 l5 l6 : Option VV} {v0 : VV} {S : MM} : rn xX9_walking (60, [l0, l1, l2, l3, some (vI a), l5, l6], [v0], S) = rn xX9_walking (62, [l0, l1, l2, l3, some (vI a), l5, l6], [vI a, v0], S) := rn_step dX9_walking_60 rfl rfl
theorem eX9_walking_62 {a b : Int} {l0 l1 l2 l3 l4 l5 l6 : Option VV} {S : MM} : rn xX9_walking (62, [l0, l1, l2, l3, l4, l5, l6], [vI b, vI a], S) = rn xX9_walking (63, [l0, l1, l2, l3, l4, l5, l6], [vI (a - b)], S) := rn_step dX9_walking_62 rfl rfl
theorem eX9_walking_63 {a : Int} {l0 l1 l2 l3 l4 l6 : Option VV} {v0 : VV} {S : MM} : rn xX9_walking (63, [l0, l1, l2, l3, l4, some (vI a), l6], [v0], S) = rn xX9_walking (65, [l0, l1, l2, l3, l4, some (vI a), l6], [vI a, v0], S) := rn_step dX9_walking_63 rfl rfl
theorem eX9_walking_65 {a b : Int} {l0 l1 l2 l3 l4 l5 l6 : Option VV} (h : -2147483648 ≤ a ∧ a ≤ 2147483647) (h1 : -2147483648 ≤ b ∧ b ≤ 2147483647) {S : MM} : rn xX9_walking (65, [l0, l1, l2, l3, l4, l5, l6], [vI b, vI a], S) = if b < a then rn xX9_walking (68, [l0, l1, l2, l3, l4, l5, l6], [], S) else rn xX9_walking (76, [l0, l1, l2, l3, l4, l5, l6], [], S) := q_icmp_le dX9_walking_65 (by decide) rfl h h1
theorem eX9_walking_68 {a : Int} {l0 l1 l2 l3 l4 l5 : Option VV} {S : MM} : rn xX9_walking (68, [l0, l1, l2, l3, l4, l5, some (vI a)], [], S) = rn xX9_walking (70, [l0, l1, l2, l3, l4, l5, some (vI a)], [vI a], S) := rn_step dX9_walking_68 rfl rfl
theorem eX9_walking_70 {a : Int} {l0 l1 l2 l3 l5 l6 : Option VV} {v0 : VV} {S : MM} : rn xX9_walking (70, [l0, l1, l2, l3, some (vI a), l5, l6], [v0], S) = rn xX9_walking (72, [l0, l1, l2, l3, some (vI a), l5, l6], [vI a, v0], S) := rn_step dX9_walking_70 rfl rfl
theorem eX9_walking_72 {a b : Int} {l0 l1 l2 l3 l4 l5 l6 : Option VV} {S : MM} : rn xX9_walking (72, [l0, l1, l2, l3, l4, l5, l6], [vI b, vI a], S) = rn xX9_walking (73, [l0, l1, l2, l3, l4, l5, l6], [vI (a - b)], S) := rn_step dX9_walking_72 rfl rfl
theorem eX9_walking_73 {l0 l1 l2 l3 l4 l5 l6 : Option VV} {v0 : VV} {S : MM} : rn xX9_walking (73, [l0, l1, l2, l3, l4, l5, l6], [v0], S) = rn xX9_walking (78, [l0, l1, l2, l3, l4, l5, l6], [v0], S) := rn_step dX9_walking_73 rfl rfl
theorem eX9_walking_76 {a : Int} {l0 l1 l2 l3 l4 l6 : Option VV} {S : MM} : rn xX9_walking (76, [l0, l1, l2, l3, l4, some (vI a), l6], [], S) = rn xX9_walking (78, [l0, l1, l2, l3, l4, some (vI a), l6], [vI a], S) := rn_step dX9_walking_76 rfl rfl
theorem eX9_walking_78 {a : Int} {w : Int} {l0 l1 l2 l3 l5 l6 : Option VV} {S : MM} : rn xX9_walking (78, [l0, l1, l2, l3, some (vI w), l5, l6], [vI a], S) = rn xX9_walking (80, [l0, l1, l2, l3, some (vI w), some (vI a), l6], [], S) := rn_step dX9_walking_78 rfl rfl
theorem eX9_walking_80 {a : Int} {l0 l1 l2 l4 l5 l6 : Option VV} {S : MM} : rn xX9_walking (80, [l0, l1, l2, some (vI a), l4, l5, l6], [], S) = rn xX9_walking (81, [l0, l1, l2, some (vI a), l4, l5, l6], [vI a], S) := rn_step dX9_walking_80 rfl rfl
theorem eX9_walking_81 {a : Int} {l0 l1 l2 l3 l4 l5 l6 : Option VV} (h : -2147483648 ≤ a ∧ a ≤ 2147483647) {S : MM} : rn xX9_walking (81, [l0, l1, l2, l3, l4, l5, l6], [vI a], S) = if a < 0 then rn xX9_walking (84, [l0, l1, l2, l3, l4, l5, l6], [], S) else rn xX9_walking (89, [l0, l1, l2, l3, l4, l5, l6], [], S) := q_if_ge dX9_walking_81 (by decide) rfl h
theorem eX9_walking_84 {a : Int} {l0 l1 l2 l3 l4 l5 : Option VV} {S : MM} : rn xX9_walking (84, [l0, l1, l2, l3, l4, l5, some (vI a)], [], S) = rn xX9_walking (86, [l0, l1, l2, l3, l4, l5, some (vI a)], [vI a], S) := rn_step dX9_walking_84 rfl rfl
theorem eX9_walking_86 {l0 l1 l2 l3 l4 l5 l6 : Option VV} {v0 : VV} {S : MM} : rn xX9_walking (86, [l0, l1, l2, l3, l4, l5, l6], [v0], S) = rn xX9_walking (90, [l0, l1, l2, l3, l4, l5, l6], [v0], S) := rn_step dX9_walking_86 rfl rfl
theorem eX9_walking_89 {a : Int} {l0 l1 l2 l4 l5 l6 : Option VV} {S : MM} : rn xX9_walking (89, [l0, l1, l2, some (vI a), l4, l5, l6], [], S) = rn xX9_walking (90, [l0, l1, l2, some (vI a), l4, l5, l6], [vI a], S) := rn_step dX9_walking_89 rfl rfl
theorem eX9_walking_90 {a : Int} {w : Int} {l0 l1 l3 l4 l5 l6 : Option VV} {S : MM} : rn xX9_walking (90, [l0, l1, some (vI w), l3, l4, l5, l6], [vI a], S) = rn xX9_walking (91, [l0, l1, some (vI w), some (vI a), l4, l5, l6], [], S) := rn_step dX9_walking_90 rfl rfl
theorem eX9_walking_91 {a : Int} {l0 l1 l2 l3 l4 l5 : Option VV} {S : MM} : rn xX9_walking (91, [l0, l1, l2, l3, l4, l5, some (vI a)], [], S) = rn xX9_walking (93, [l0, l1, l2, l3, l4, l5, some (vI a)], [vI a], S) := rn_step dX9_walking_91 rfl rfl
theorem eX9_walking_93 {a : Int} {w : Int} {l0 l1 l2 l4 l5 l6 : Option VV} {S : MM} : rn xX9_walking (93, [l0, l1, l2, some (vI w), l4, l5, l6], [vI a], S) = rn xX9_walking (95, [l0, l1, l2, some (vI w), some (vI a), l5, l6], [], S) := rn_step dX9_walking_93 rfl rfl
theorem eX9_walking_95 {a : Int} {w : Int} {l0 l3 l4 l5 l6 : Option VV} {S : MM} : rn xX9_walking (95, [l0, some (vI w), some (vI a), l3, l4, l5, l6], [], S) = rn xX9_walking (98, [l0, some (vI w), some (vI (a + 1)), l3, l4, l5, l6], [], S) := rn_step dX9_walking_95 rfl rfl
theorem eX9_walking_98 {a : Int} {w : Int} {l0 l1 l2 l3 l4 : Option VV} {S : MM} : rn xX9_walking (98, [l0, l1, l2, l3, l4, some (vI w), some (vI a)], [], S) = rn xX9_walking (101, [l0, l1, l2, l3, l4, some (vI w), some (vI (a + 1))], [], S) := rn_step dX9_walking_98 rfl rfl
theorem eX9_walking_101 {l0 l1 l2 l3 l4 l5 l6 : Option VV} {S : MM} : rn xX9_walking (101, [l0, l1, l2, l3, l4, l5, l6], [], S) = rn xX9_walking (33, [l0, l1, l2, l3, l4, l5, l6], [], S) := rn_step dX9_walking_101 rfl rfl
theorem eX9_walking_104 {a : Int} {l0 l2 l3 l4 l5 l6 : Option VV} {S : MM} : rn xX9_walking (104, [l0, some (vI a), l2, l3, l4, l5, l6], [], S) = rn xX9_walking (105, [l0, some (vI a), l2, l3, l4, l5, l6], [vI a], S) := rn_step dX9_walking_104 rfl rfl
theorem eX9_walking_105 {a : Int} {l0 l1 l2 l3 l4 l5 l6 : Option VV} (h : -2147483648 ≤ a ∧ a ≤ 2147483647) {S : MM} : rn xX9_walking (105, [l0, l1, l2, l3, l4, l5, l6], [vI a], S) = if a = 0 then rn xX9_walking (108, [l0, l1, l2, l3, l4, l5, l6], [], S) else rn xX9_walking (112, [l0, l1, l2, l3, l4, l5, l6], [], S) := q_if_ne dX9_walking_105 (by decide) rfl h
theorem eX9_walking_108 {a : Int} {l0 l1 l3 l4 l5 l6 : Option VV} {S : MM} : rn xX9_walking (108, [l0, l1, some (vI a), l3, l4, l5, l6], [], S) = rn xX9_walking (109, [l0, l1, some (vI a), l3, l4, l5, l6], [vI a], S) := rn_step dX9_walking_108 rfl rfl
theorem eX9_walking_109 {l0 l1 l2 l3 l4 l5 l6 : Option VV} {v0 : VV} {S : MM} : rn xX9_walking (109, [l0, l1, l2, l3, l4, l5, l6], [v0], S) = rn xX9_walking (149, [l0, l1, l2, l3, l4, l5, l6], [v0], S) := rn_step dX9_walking_109 rfl rfl
theorem eX9_walking_112 {a : Int} {l0 l2 l3 l4 l5 l6 : Option VV} {S : MM} : rn xX9_walking (112, [l0, some (vI a), l2, l3, l4, l5, l6], [], S) = rn xX9_walking (113, [l0, some (vI a), l2, l3, l4, l5, l6], [vI a], S) := rn_step dX9_walking_112 rfl rfl
theorem eX9_walking_113 {l0 l1 l2 l3 l4 l5 l6 : Option VV} {v0 : VV} {S : MM} : rn xX9_walking (113, [l0, l1, l2, l3, l4, l5, l6], [v0], S) = rn xX9_walking (114, [l0, l1, l2, l3, l4, l5, l6], [vI 1, v0], S) := rn_step dX9_walking_113 rfl rfl
theorem eX9_walking_114 {a b : Int} {l0 l1 l2 l3 l4 l5 l6 : Option VV} (h : -2147483648 ≤ a ∧ a ≤ 2147483647) (h1 : -2147483648 ≤ b ∧ b ≤ 2147483647) {S : MM} : rn xX9_walking (114, [l0, l1, l2, l3, l4, l5, l6], [vI b, vI a], S) = if a = b then rn xX9_walking (117, [l0, l1, l2, l3, l4, l5, l6], [], S) else rn xX9_walking (128, [l0, l1, l2, l3, l4, l5, l6], [], S) := q_icmp_ne dX9_walking_114 (by decide) rfl h h1
theorem eX9_walking_117 {a : Option Nat} {l1 l2 l3 l4 l5 l6 : Option VV} {S : MM} : rn xX9_walking (117, [some (.inr (.inl a)), l1, l2, l3, l4, l5, l6], [], S) = rn xX9_walking (118, [some (.inr (.inl a)), l1, l2, l3, l4, l5, l6], [.inr (.inl a)], S) := rn_step dX9_walking_117 rfl rfl
theorem eX9_walking_118 {l0 l1 l2 l3 l4 l5 l6 : Option VV} {v0 : VV} {S : MM} : rn xX9_walking (118, [l0, l1, l2, l3, l4, l5, l6], [v0], S) = rn xX9_walking (119, [l0, l1, l2, l3, l4, l5, l6], [vI 0, v0], S) := rn_step dX9_walking_118 rfl rfl
theorem eX9_walking_119 {l0 l1 l2 l3 l4 l5 l6 : Option VV} {v0 v1 : VV} {S : MM} : rn xX9_walking (119, [l0, l1, l2, l3, l4, l5, l6], [v0, v1], S) = rn xX9_walking (122, [l0, l1, l2, l3, l4, l5, l6], [vI 299, v0, v1], S) := rn_step dX9_walking_119 rfl rfl
theorem eX9_walking_122 {a0 : Int} {a1 : Int} {l0 l1 l2 l3 l4 l5 l6 : Option VV} {S : MM} : rn xX9_walking (122, [l0, l1, l2, l3, l4, l5, l6], [vI a1, vI a0, vR 593], S) = (fX9_rowsFrom [vR 593, vI a0, vI a1] S).bind (fun q => rn xX9_walking (125, [l0, l1, l2, l3, l4, l5, l6], q.1.toList ++ [], q.2)) := q_callV (n := 2) (as := [vI a0, vI a1]) (rest := []) dX9_walking_122 rfl rfl rfl rfl kd593
theorem eX9_walking_125 {l0 l1 l2 l3 l4 l5 l6 : Option VV} {v0 : VV} {S : MM} : rn xX9_walking (125, [l0, l1, l2, l3, l4, l5, l6], [v0], S) = rn xX9_walking (149, [l0, l1, l2, l3, l4, l5, l6], [v0], S) := rn_step dX9_walking_125 rfl rfl
theorem eX9_walking_128 {a : Int} {l0 l2 l3 l4 l5 l6 : Option VV} {S : MM} : rn xX9_walking (128, [l0, some (vI a), l2, l3, l4, l5, l6], [], S) = rn xX9_walking (129, [l0, some (vI a), l2, l3, l4, l5, l6], [vI a], S) := rn_step dX9_walking_128 rfl rfl
theorem eX9_walking_129 {l0 l1 l2 l3 l4 l5 l6 : Option VV} {v0 : VV} {S : MM} : rn xX9_walking (129, [l0, l1, l2, l3, l4, l5, l6], [v0], S) = rn xX9_walking (130, [l0, l1, l2, l3, l4, l5, l6], [vI 2, v0], S) := rn_step dX9_walking_129 rfl rfl
theorem eX9_walking_130 {a b : Int} {l0 l1 l2 l3 l4 l5 l6 : Option VV} (h : -2147483648 ≤ a ∧ a ≤ 2147483647) (h1 : -2147483648 ≤ b ∧ b ≤ 2147483647) {S : MM} : rn xX9_walking (130, [l0, l1, l2, l3, l4, l5, l6], [vI b, vI a], S) = if a = b then rn xX9_walking (133, [l0, l1, l2, l3, l4, l5, l6], [], S) else rn xX9_walking (137, [l0, l1, l2, l3, l4, l5, l6], [], S) := q_icmp_ne dX9_walking_130 (by decide) rfl h h1
theorem eX9_walking_133 {a : Int} {l0 l1 l2 l4 l5 l6 : Option VV} {S : MM} : rn xX9_walking (133, [l0, l1, l2, some (vI a), l4, l5, l6], [], S) = rn xX9_walking (134, [l0, l1, l2, some (vI a), l4, l5, l6], [vI a], S) := rn_step dX9_walking_133 rfl rfl
theorem eX9_walking_134 {l0 l1 l2 l3 l4 l5 l6 : Option VV} {v0 : VV} {S : MM} : rn xX9_walking (134, [l0, l1, l2, l3, l4, l5, l6], [v0], S) = rn xX9_walking (149, [l0, l1, l2, l3, l4, l5, l6], [v0], S) := rn_step dX9_walking_134 rfl rfl
theorem eX9_walking_137 {a : Int} {l0 l2 l3 l4 l5 l6 : Option VV} {S : MM} : rn xX9_walking (137, [l0, some (vI a), l2, l3, l4, l5, l6], [], S) = rn xX9_walking (138, [l0, some (vI a), l2, l3, l4, l5, l6], [vI a], S) := rn_step dX9_walking_137 rfl rfl
theorem eX9_walking_138 {l0 l1 l2 l3 l4 l5 l6 : Option VV} {v0 : VV} {S : MM} : rn xX9_walking (138, [l0, l1, l2, l3, l4, l5, l6], [v0], S) = rn xX9_walking (139, [l0, l1, l2, l3, l4, l5, l6], [vI 3, v0], S) := rn_step dX9_walking_138 rfl rfl
theorem eX9_walking_139 {a b : Int} {l0 l1 l2 l3 l4 l5 l6 : Option VV} (h : -2147483648 ≤ a ∧ a ≤ 2147483647) (h1 : -2147483648 ≤ b ∧ b ≤ 2147483647) {S : MM} : rn xX9_walking (139, [l0, l1, l2, l3, l4, l5, l6], [vI b, vI a], S) = if a = b then rn xX9_walking (142, [l0, l1, l2, l3, l4, l5, l6], [], S) else rn xX9_walking (147, [l0, l1, l2, l3, l4, l5, l6], [], S) := q_icmp_ne dX9_walking_139 (by decide) rfl h h1
theorem eX9_walking_142 {a : Int} {l0 l1 l2 l3 l5 l6 : Option VV} {S : MM} : rn xX9_walking (142, [l0, l1, l2, l3, some (vI a), l5, l6], [], S) = rn xX9_walking (144, [l0, l1, l2, l3, some (vI a), l5, l6], [vI a], S) := rn_step dX9_walking_142 rfl rfl
theorem eX9_walking_144 {l0 l1 l2 l3 l4 l5 l6 : Option VV} {v0 : VV} {S : MM} : rn xX9_walking (144, [l0, l1, l2, l3, l4, l5, l6], [v0], S) = rn xX9_walking (149, [l0, l1, l2, l3, l4, l5, l6], [v0], S) := rn_step dX9_walking_144 rfl rfl
theorem eX9_walking_147 {a : Int} {l0 l1 l2 l3 l4 l6 : Option VV} {S : MM} : rn xX9_walking (147, [l0, l1, l2, l3, l4, some (vI a), l6], [], S) = rn xX9_walking (149, [l0, l1, l2, l3, l4, some (vI a), l6], [vI a], S) := rn_step dX9_walking_147 rfl rfl
theorem eX9_walking_149 {z : Int} {l0 l1 l2 l3 l4 l5 l6 : Option VV} {S : MM} : rn xX9_walking (149, [l0, l1, l2, l3, l4, l5, l6], [vI z], S) = some (some (vI z), S) := q_retI dX9_walking_149 rfl
noncomputable def qlX9_wouldTake : List CE := [(0, 190, 9, 1, fX9_layAside), (0, 76, 9, 1, fX9_beginRun), (0, 120, 9, 1, fX9_leapOn), (0, 181, 9, 2, fX9_sumOf), (0, 193, 9, 1, fX9_layBack)]
noncomputable def xX9_wouldTake : XX := (cX9_wouldTake, fcF fcl9, mcF qlX9_wouldTake, 1)
noncomputable def fX9_wouldTake : FN := fnX xX9_wouldTake 5
set_option maxRecDepth 100000 in
theorem cwX9_wouldTake : Cond.code yX9_wouldTake cX9_wouldTake 5 (some .int) ∈ lw_g := lw_gm 1166 (by decide +kernel) (by decide +kernel)
set_option maxRecDepth 100000 in
theorem conX9_wouldTake : Con yX9_wouldTake cX9_wouldTake 5 (some .int) { frames := 6, cells := 0, slots := 0, locals := 137 } fX9_wouldTake := con_of (X := xX9_wouldTake) (own := "LeapStonesModel") (ql := qlX9_wouldTake) (by decide) rfl FOK9 rfl (List.forall_mem_cons.mpr ⟨call_V conX9_layAside cwX9_layAside (lw_gl _ [1167, 1169, 59, 84] (by decide +kernel) (by decide +kernel)) (by decide) rfl ⟨by decide, by decide, by decide +kernel⟩ ⟨rfl, rfl⟩ ⟨by decide, by decide⟩ ⟨Nat.le_refl _, Nat.le_refl _⟩, List.forall_mem_cons.mpr ⟨call_V conX9_beginRun cwX9_beginRun (lw_gl _ [951, 953, 21, 84] (by decide +kernel) (by decide +kernel)) (by decide) rfl ⟨by decide, by decide, by decide +kernel⟩ ⟨rfl, rfl⟩ ⟨by decide, by decide⟩ ⟨Nat.le_refl _, Nat.le_refl _⟩, List.forall_mem_cons.mpr ⟨call_V conX9_leapOn cwX9_leapOn (lw_gl _ [1035, 1037, 40, 84] (by decide +kernel) (by decide +kernel)) (by decide) rfl ⟨by decide, by decide, by decide +kernel⟩ ⟨rfl, rfl⟩ ⟨by decide, by decide⟩ ⟨Nat.le_refl _, Nat.le_refl _⟩, List.forall_mem_cons.mpr ⟨call_V conX9_sumOf cwX9_sumOf (lw_gl _ [1139, 1141, 56, 84] (by decide +kernel) (by decide +kernel)) (by decide) rfl ⟨by decide, by decide, by decide +kernel⟩ ⟨rfl, rfl⟩ ⟨by decide, by decide⟩ ⟨Nat.le_refl _, Nat.le_refl _⟩, List.forall_mem_cons.mpr ⟨call_V conX9_layBack cwX9_layBack (lw_gl _ [1171, 1173, 60, 84] (by decide +kernel) (by decide +kernel)) (by decide) rfl ⟨by decide, by decide, by decide +kernel⟩ ⟨rfl, rfl⟩ ⟨by decide, by decide⟩ ⟨Nat.le_refl _, Nat.le_refl _⟩, fun _ h => absurd h List.not_mem_nil⟩⟩⟩⟩⟩) (Or.inr (Or.inl ⟨rfl, rfl⟩))
theorem uX9_wouldTake {i : Nat} {a0 : Int} {a1 : Int} {a2 : Int} {S : MM} : fX9_wouldTake [vR i, vI a0, vI a1, vI a2] S = rn xX9_wouldTake (0, [some (vR i), some (vI a0), some (vI a1), some (vI a2), none], [], S) := rfl
theorem dX9_wouldTake_0 : decode cX9_wouldTake 0 = .ok (.aload_n 0, 1) := by decide +kernel
theorem dX9_wouldTake_1 : decode cX9_wouldTake 1 = .ok (.invokevirtual 190, 3) := by decide +kernel
theorem dX9_wouldTake_4 : decode cX9_wouldTake 4 = .ok (.aload_n 0, 1) := by decide +kernel
theorem dX9_wouldTake_5 : decode cX9_wouldTake 5 = .ok (.getfield 7, 3) := by decide +kernel
theorem dX9_wouldTake_8 : decode cX9_wouldTake 8 = .ok (.iconst 2, 1) := by decide +kernel
theorem dX9_wouldTake_9 : decode cX9_wouldTake 9 = .ok (.iload_n 1, 1) := by decide +kernel
theorem dX9_wouldTake_10 : decode cX9_wouldTake 10 = .ok (.iastore, 1) := by decide +kernel
theorem dX9_wouldTake_11 : decode cX9_wouldTake 11 = .ok (.aload_n 0, 1) := by decide +kernel
theorem dX9_wouldTake_12 : decode cX9_wouldTake 12 = .ok (.getfield 7, 3) := by decide +kernel
theorem dX9_wouldTake_15 : decode cX9_wouldTake 15 = .ok (.iconst 3, 1) := by decide +kernel
theorem dX9_wouldTake_16 : decode cX9_wouldTake 16 = .ok (.iload_n 2, 1) := by decide +kernel
theorem dX9_wouldTake_17 : decode cX9_wouldTake 17 = .ok (.iastore, 1) := by decide +kernel
theorem dX9_wouldTake_18 : decode cX9_wouldTake 18 = .ok (.aload_n 0, 1) := by decide +kernel
theorem dX9_wouldTake_19 : decode cX9_wouldTake 19 = .ok (.invokevirtual 76, 3) := by decide +kernel
theorem dX9_wouldTake_22 : decode cX9_wouldTake 22 = .ok (.aload_n 0, 1) := by decide +kernel
theorem dX9_wouldTake_23 : decode cX9_wouldTake 23 = .ok (.invokevirtual 120, 3) := by decide +kernel
theorem dX9_wouldTake_26 : decode cX9_wouldTake 26 = .ok (.pop, 1) := by decide +kernel
theorem dX9_wouldTake_27 : decode cX9_wouldTake 27 = .ok (.aload_n 0, 1) := by decide +kernel
theorem dX9_wouldTake_28 : decode cX9_wouldTake 28 = .ok (.iload_n 3, 1) := by decide +kernel
theorem dX9_wouldTake_29 : decode cX9_wouldTake 29 = .ok (.ifCond .ne 8, 3) := by decide +kernel
theorem dX9_wouldTake_32 : decode cX9_wouldTake 32 = .ok (.bipush 8, 2) := by decide +kernel
theorem dX9_wouldTake_34 : decode cX9_wouldTake 34 = .ok (.goto 5, 3) := by decide +kernel
theorem dX9_wouldTake_37 : decode cX9_wouldTake 37 = .ok (.bipush 11, 2) := by decide +kernel
theorem dX9_wouldTake_39 : decode cX9_wouldTake 39 = .ok (.invokevirtual 181, 3) := by decide +kernel
theorem dX9_wouldTake_42 : decode cX9_wouldTake 42 = .ok (.istore 4, 2) := by decide +kernel
theorem dX9_wouldTake_44 : decode cX9_wouldTake 44 = .ok (.aload_n 0, 1) := by decide +kernel
theorem dX9_wouldTake_45 : decode cX9_wouldTake 45 = .ok (.invokevirtual 193, 3) := by decide +kernel
theorem dX9_wouldTake_48 : decode cX9_wouldTake 48 = .ok (.iload 4, 2) := by decide +kernel
theorem dX9_wouldTake_50 : decode cX9_wouldTake 50 = .ok (.ireturn, 1) := by decide +kernel
theorem eX9_wouldTake_0 {a : Option Nat} {l1 l2 l3 l4 : Option VV} {S : MM} : rn xX9_wouldTake (0, [some (.inr (.inl a)), l1, l2, l3, l4], [], S) = rn xX9_wouldTake (1, [some (.inr (.inl a)), l1, l2, l3, l4], [.inr (.inl a)], S) := rn_step dX9_wouldTake_0 rfl rfl
theorem eX9_wouldTake_1 {l0 l1 l2 l3 l4 : Option VV} {S : MM} : rn xX9_wouldTake (1, [l0, l1, l2, l3, l4], [vR 593], S) = (fX9_layAside [vR 593] S).bind (fun q => rn xX9_wouldTake (4, [l0, l1, l2, l3, l4], q.1.toList ++ [], q.2)) := q_callV (n := 0) (as := []) (rest := []) dX9_wouldTake_1 rfl rfl rfl rfl kd593
theorem eX9_wouldTake_4 {a : Option Nat} {l1 l2 l3 l4 : Option VV} {S : MM} : rn xX9_wouldTake (4, [some (.inr (.inl a)), l1, l2, l3, l4], [], S) = rn xX9_wouldTake (5, [some (.inr (.inl a)), l1, l2, l3, l4], [.inr (.inl a)], S) := rn_step dX9_wouldTake_4 rfl rfl
theorem eX9_wouldTake_5 {l0 l1 l2 l3 l4 : Option VV} {S : MM} : rn xX9_wouldTake (5, [l0, l1, l2, l3, l4], [vR 593], S) = rn xX9_wouldTake (8, [l0, l1, l2, l3, l4], [vR 594], S) := q_getR dX9_wouldTake_5 rfl ⟨⟨by decide, by decide⟩, by decide⟩ (fun _ => by decide +kernel) kd593
theorem eX9_wouldTake_8 {l0 l1 l2 l3 l4 : Option VV} {v0 : VV} {S : MM} : rn xX9_wouldTake (8, [l0, l1, l2, l3, l4], [v0], S) = rn xX9_wouldTake (9, [l0, l1, l2, l3, l4], [vI 2, v0], S) := rn_step dX9_wouldTake_8 rfl rfl
theorem eX9_wouldTake_9 {a : Int} {l0 l2 l3 l4 : Option VV} {v0 v1 : VV} {S : MM} : rn xX9_wouldTake (9, [l0, some (vI a), l2, l3, l4], [v0, v1], S) = rn xX9_wouldTake (10, [l0, some (vI a), l2, l3, l4], [vI a, v0, v1], S) := rn_step dX9_wouldTake_9 rfl rfl
theorem eX9_wouldTake_10 {i : Nat} {j z : Int} {l0 l1 l2 l3 l4 : Option VV} (h : kd i = 10) (h0 : 0 ≤ j) (h1 : j < alen i) {S : MM} : rn xX9_wouldTake (10, [l0, l1, l2, l3, l4], [vI z, vI j, vR i], S) = rn xX9_wouldTake (11, [l0, l1, l2, l3, l4], [], updM S i j.toNat z) := q_iast dX9_wouldTake_10 h h0 h1
theorem eX9_wouldTake_11 {a : Option Nat} {l1 l2 l3 l4 : Option VV} {S : MM} : rn xX9_wouldTake (11, [some (.inr (.inl a)), l1, l2, l3, l4], [], S) = rn xX9_wouldTake (12, [some (.inr (.inl a)), l1, l2, l3, l4], [.inr (.inl a)], S) := rn_step dX9_wouldTake_11 rfl rfl
theorem eX9_wouldTake_12 {l0 l1 l2 l3 l4 : Option VV} {S : MM} : rn xX9_wouldTake (12, [l0, l1, l2, l3, l4], [vR 593], S) = rn xX9_wouldTake (15, [l0, l1, l2, l3, l4], [vR 594], S) := q_getR dX9_wouldTake_12 rfl ⟨⟨by decide, by decide⟩, by decide⟩ (fun _ => by decide +kernel) kd593
theorem eX9_wouldTake_15 {l0 l1 l2 l3 l4 : Option VV} {v0 : VV} {S : MM} : rn xX9_wouldTake (15, [l0, l1, l2, l3, l4], [v0], S) = rn xX9_wouldTake (16, [l0, l1, l2, l3, l4], [vI 3, v0], S) := rn_step dX9_wouldTake_15 rfl rfl
theorem eX9_wouldTake_16 {a : Int} {l0 l1 l3 l4 : Option VV} {v0 v1 : VV} {S : MM} : rn xX9_wouldTake (16, [l0, l1, some (vI a), l3, l4], [v0, v1], S) = rn xX9_wouldTake (17, [l0, l1, some (vI a), l3, l4], [vI a, v0, v1], S) := rn_step dX9_wouldTake_16 rfl rfl
theorem eX9_wouldTake_17 {i : Nat} {j z : Int} {l0 l1 l2 l3 l4 : Option VV} (h : kd i = 10) (h0 : 0 ≤ j) (h1 : j < alen i) {S : MM} : rn xX9_wouldTake (17, [l0, l1, l2, l3, l4], [vI z, vI j, vR i], S) = rn xX9_wouldTake (18, [l0, l1, l2, l3, l4], [], updM S i j.toNat z) := q_iast dX9_wouldTake_17 h h0 h1
theorem eX9_wouldTake_18 {a : Option Nat} {l1 l2 l3 l4 : Option VV} {S : MM} : rn xX9_wouldTake (18, [some (.inr (.inl a)), l1, l2, l3, l4], [], S) = rn xX9_wouldTake (19, [some (.inr (.inl a)), l1, l2, l3, l4], [.inr (.inl a)], S) := rn_step dX9_wouldTake_18 rfl rfl
theorem eX9_wouldTake_19 {l0 l1 l2 l3 l4 : Option VV} {S : MM} : rn xX9_wouldTake (19, [l0, l1, l2, l3, l4], [vR 593], S) = (fX9_beginRun [vR 593] S).bind (fun q => rn xX9_wouldTake (22, [l0, l1, l2, l3, l4], q.1.toList ++ [], q.2)) := q_callV (n := 0) (as := []) (rest := []) dX9_wouldTake_19 rfl rfl rfl rfl kd593
theorem eX9_wouldTake_22 {a : Option Nat} {l1 l2 l3 l4 : Option VV} {S : MM} : rn xX9_wouldTake (22, [some (.inr (.inl a)), l1, l2, l3, l4], [], S) = rn xX9_wouldTake (23, [some (.inr (.inl a)), l1, l2, l3, l4], [.inr (.inl a)], S) := rn_step dX9_wouldTake_22 rfl rfl
theorem eX9_wouldTake_23 {l0 l1 l2 l3 l4 : Option VV} {S : MM} : rn xX9_wouldTake (23, [l0, l1, l2, l3, l4], [vR 593], S) = (fX9_leapOn [vR 593] S).bind (fun q => rn xX9_wouldTake (26, [l0, l1, l2, l3, l4], q.1.toList ++ [], q.2)) := q_callV (n := 0) (as := []) (rest := []) dX9_wouldTake_23 rfl rfl rfl rfl kd593
theorem eX9_wouldTake_26 {a : Int} {l0 l1 l2 l3 l4 : Option VV} {S : MM} : rn xX9_wouldTake (26, [l0, l1, l2, l3, l4], [vI a], S) = rn xX9_wouldTake (27, [l0, l1, l2, l3, l4], [], S) := rn_step dX9_wouldTake_26 rfl rfl
theorem eX9_wouldTake_27 {a : Option Nat} {l1 l2 l3 l4 : Option VV} {S : MM} : rn xX9_wouldTake (27, [some (.inr (.inl a)), l1, l2, l3, l4], [], S) = rn xX9_wouldTake (28, [some (.inr (.inl a)), l1, l2, l3, l4], [.inr (.inl a)], S) := rn_step dX9_wouldTake_27 rfl rfl
theorem eX9_wouldTake_28 {a : Int} {l0 l1 l2 l4 : Option VV} {v0 : VV} {S : MM} : rn xX9_wouldTake (28, [l0, l1, l2, some (vI a), l4], [v0], S) = rn xX9_wouldTake (29, [l0, l1, l2, some (vI a), l4], [vI a, v0], S) := rn_step dX9_wouldTake_28 rfl rfl
theorem eX9_wouldTake_29 {a : Int} {l0 l1 l2 l3 l4 : Option VV} {v1 : VV} (h : -2147483648 ≤ a ∧ a ≤ 2147483647) {S : MM} : rn xX9_wouldTake (29, [l0, l1, l2, l3, l4], [vI a, v1], S) = if a = 0 then rn xX9_wouldTake (32, [l0, l1, l2, l3, l4], [v1], S) else rn xX9_wouldTake (37, [l0, l1, l2, l3, l4], [v1], S) := q_if_ne dX9_wouldTake_29 (by decide) rfl h
theorem eX9_wouldTake_32 {l0 l1 l2 l3 l4 : Option VV} {v0 : VV} {S : MM} : rn xX9_wouldTake (32, [l0, l1, l2, l3, l4], [v0], S) = rn xX9_wouldTake (34, [l0, l1, l2, l3, l4], [vI 8, v0], S) := rn_step dX9_wouldTake_32 rfl rfl
theorem eX9_wouldTake_34 {l0 l1 l2 l3 l4 : Option VV} {v0 v1 : VV} {S : MM} : rn xX9_wouldTake (34, [l0, l1, l2, l3, l4], [v0, v1], S) = rn xX9_wouldTake (39, [l0, l1, l2, l3, l4], [v0, v1], S) := rn_step dX9_wouldTake_34 rfl rfl
theorem eX9_wouldTake_37 {l0 l1 l2 l3 l4 : Option VV} {v0 : VV} {S : MM} : rn xX9_wouldTake (37, [l0, l1, l2, l3, l4], [v0], S) = rn xX9_wouldTake (39, [l0, l1, l2, l3, l4], [vI 11, v0], S) := rn_step dX9_wouldTake_37 rfl rfl
theorem eX9_wouldTake_39 {a0 : Int} {l0 l1 l2 l3 l4 : Option VV} {S : MM} : rn xX9_wouldTake (39, [l0, l1, l2, l3, l4], [vI a0, vR 593], S) = (fX9_sumOf [vR 593, vI a0] S).bind (fun q => rn xX9_wouldTake (42, [l0, l1, l2, l3, l4], q.1.toList ++ [], q.2)) := q_callV (n := 1) (as := [vI a0]) (rest := []) dX9_wouldTake_39 rfl rfl rfl rfl kd593
theorem eX9_wouldTake_42 {a : Int} {w : Int} {l0 l1 l2 l4 : Option VV} {S : MM} : rn xX9_wouldTake (42, [l0, l1, l2, some (vI w), l4], [vI a], S) = rn xX9_wouldTake (44, [l0, l1, l2, some (vI w), some (vI a)], [], S) := rn_step dX9_wouldTake_42 rfl rfl
theorem eX9_wouldTake_44 {a : Option Nat} {l1 l2 l3 l4 : Option VV} {S : MM} : rn xX9_wouldTake (44, [some (.inr (.inl a)), l1, l2, l3, l4], [], S) = rn xX9_wouldTake (45, [some (.inr (.inl a)), l1, l2, l3, l4], [.inr (.inl a)], S) := rn_step dX9_wouldTake_44 rfl rfl
theorem eX9_wouldTake_45 {l0 l1 l2 l3 l4 : Option VV} {S : MM} : rn xX9_wouldTake (45, [l0, l1, l2, l3, l4], [vR 593], S) = (fX9_layBack [vR 593] S).bind (fun q => rn xX9_wouldTake (48, [l0, l1, l2, l3, l4], q.1.toList ++ [], q.2)) := q_callV (n := 0) (as := []) (rest := []) dX9_wouldTake_45 rfl rfl rfl rfl kd593
theorem eX9_wouldTake_48 {a : Int} {l0 l1 l2 l3 : Option VV} {S : MM} : rn xX9_wouldTake (48, [l0, l1, l2, l3, some (vI a)], [], S) = rn xX9_wouldTake (50, [l0, l1, l2, l3, some (vI a)], [vI a], S) := rn_step dX9_wouldTake_48 rfl rfl
theorem eX9_wouldTake_50 {z : Int} {l0 l1 l2 l3 l4 : Option VV} {S : MM} : rn xX9_wouldTake (50, [l0, l1, l2, l3, l4], [vI z], S) = some (some (vI z), S) := q_retI dX9_wouldTake_50 rfl
noncomputable def qlX9_runWith : List CE := [(1, 35, 0, 3, fX9_in), (0, 196, 9, 4, fX9_wouldTake)]
noncomputable def xX9_runWith : XX := (cX9_runWith, fcF fcl9, mcF qlX9_runWith, 1)
noncomputable def fX9_runWith : FN := fnX xX9_runWith 4
set_option maxRecDepth 100000 in
theorem cwX9_runWith : Cond.code yX9_runWith cX9_runWith 4 (some .int) ∈ lw_g := lw_gm 1162 (by decide +kernel) (by decide +kernel)
set_option maxRecDepth 100000 in
theorem conX9_runWith : Con yX9_runWith cX9_runWith 4 (some .int) { frames := 7, cells := 0, slots := 0, locals := 161 } fX9_runWith := con_of (X := xX9_runWith) (own := "LeapStonesModel") (ql := qlX9_runWith) (by decide) rfl FOK9 rfl (List.forall_mem_cons.mpr ⟨call_S conX9_in cwX9_in (lw_gl _ [1043, 1044, 84] (by decide +kernel) (by decide +kernel)) ⟨by decide, by decide, by decide +kernel⟩ ⟨rfl, rfl⟩ ⟨by decide, by decide⟩ ⟨Nat.le_refl _, Nat.le_refl _⟩, List.forall_mem_cons.mpr ⟨call_V conX9_wouldTake cwX9_wouldTake (lw_gl _ [1163, 1165, 58, 84] (by decide +kernel) (by decide +kernel)) (by decide) rfl ⟨by decide, by decide, by decide +kernel⟩ ⟨rfl, rfl⟩ ⟨by decide, by decide⟩ ⟨Nat.le_refl _, Nat.le_refl _⟩, fun _ h => absurd h List.not_mem_nil⟩⟩) (Or.inr (Or.inl ⟨rfl, rfl⟩))
theorem uX9_runWith {i : Nat} {a0 : Int} {a1 : Int} {a2 : Int} {S : MM} : fX9_runWith [vR i, vI a0, vI a1, vI a2] S = rn xX9_runWith (0, [some (vR i), some (vI a0), some (vI a1), some (vI a2)], [], S) := rfl
theorem dX9_runWith_0 : decode cX9_runWith 0 = .ok (.iload_n 1, 1) := by decide +kernel
theorem dX9_runWith_1 : decode cX9_runWith 1 = .ok (.iconst 0, 1) := by decide +kernel
theorem dX9_runWith_2 : decode cX9_runWith 2 = .ok (.iconst 2, 1) := by decide +kernel
theorem dX9_runWith_3 : decode cX9_runWith 3 = .ok (.invokestatic 35, 3) := by decide +kernel
theorem dX9_runWith_6 : decode cX9_runWith 6 = .ok (.ifCond .eq 31, 3) := by decide +kernel
theorem dX9_runWith_9 : decode cX9_runWith 9 = .ok (.iload_n 2, 1) := by decide +kernel
theorem dX9_runWith_10 : decode cX9_runWith 10 = .ok (.iconst 0, 1) := by decide +kernel
theorem dX9_runWith_11 : decode cX9_runWith 11 = .ok (.iconst 5, 1) := by decide +kernel
theorem dX9_runWith_12 : decode cX9_runWith 12 = .ok (.invokestatic 35, 3) := by decide +kernel
theorem dX9_runWith_15 : decode cX9_runWith 15 = .ok (.ifCond .eq 22, 3) := by decide +kernel
theorem dX9_runWith_18 : decode cX9_runWith 18 = .ok (.iload_n 3, 1) := by decide +kernel
theorem dX9_runWith_19 : decode cX9_runWith 19 = .ok (.iconst 0, 1) := by decide +kernel
theorem dX9_runWith_20 : decode cX9_runWith 20 = .ok (.iconst 1, 1) := by decide +kernel
theorem dX9_runWith_21 : decode cX9_runWith 21 = .ok (.invokestatic 35, 3) := by decide +kernel
theorem dX9_runWith_24 : decode cX9_runWith 24 = .ok (.ifCond .eq 13, 3) := by decide +kernel
theorem dX9_runWith_27 : decode cX9_runWith 27 = .ok (.aload_n 0, 1) := by decide +kernel
theorem dX9_runWith_28 : decode cX9_runWith 28 = .ok (.iload_n 1, 1) := by decide +kernel
theorem dX9_runWith_29 : decode cX9_runWith 29 = .ok (.iload_n 2, 1) := by decide +kernel
theorem dX9_runWith_30 : decode cX9_runWith 30 = .ok (.iload_n 3, 1) := by decide +kernel
theorem dX9_runWith_31 : decode cX9_runWith 31 = .ok (.invokevirtual 196, 3) := by decide +kernel
theorem dX9_runWith_34 : decode cX9_runWith 34 = .ok (.goto 5, 3) := by decide +kernel
theorem dX9_runWith_37 : decode cX9_runWith 37 = .ok (.bipush (-2), 2) := by decide +kernel
theorem dX9_runWith_39 : decode cX9_runWith 39 = .ok (.ireturn, 1) := by decide +kernel
theorem eX9_runWith_0 {a : Int} {l0 l2 l3 : Option VV} {S : MM} : rn xX9_runWith (0, [l0, some (vI a), l2, l3], [], S) = rn xX9_runWith (1, [l0, some (vI a), l2, l3], [vI a], S) := rn_step dX9_runWith_0 rfl rfl
theorem eX9_runWith_1 {l0 l1 l2 l3 : Option VV} {v0 : VV} {S : MM} : rn xX9_runWith (1, [l0, l1, l2, l3], [v0], S) = rn xX9_runWith (2, [l0, l1, l2, l3], [vI 0, v0], S) := rn_step dX9_runWith_1 rfl rfl
theorem eX9_runWith_2 {l0 l1 l2 l3 : Option VV} {v0 v1 : VV} {S : MM} : rn xX9_runWith (2, [l0, l1, l2, l3], [v0, v1], S) = rn xX9_runWith (3, [l0, l1, l2, l3], [vI 2, v0, v1], S) := rn_step dX9_runWith_2 rfl rfl
theorem eX9_runWith_3 {a0 : Int} {a1 : Int} {a2 : Int} {l0 l1 l2 l3 : Option VV} {S : MM} : rn xX9_runWith (3, [l0, l1, l2, l3], [vI a2, vI a1, vI a0], S) = (fX9_in [vI a0, vI a1, vI a2] S).bind (fun q => rn xX9_runWith (6, [l0, l1, l2, l3], q.1.toList ++ [], q.2)) := q_callS (n := 3) (as := [vI a0, vI a1, vI a2]) (rest := []) dX9_runWith_3 rfl rfl rfl rfl
theorem eX9_runWith_6 {a : Int} {l0 l1 l2 l3 : Option VV} (h : -2147483648 ≤ a ∧ a ≤ 2147483647) {S : MM} : rn xX9_runWith (6, [l0, l1, l2, l3], [vI a], S) = if a = 0 then rn xX9_runWith (37, [l0, l1, l2, l3], [], S) else rn xX9_runWith (9, [l0, l1, l2, l3], [], S) := q_if_eq dX9_runWith_6 (by decide) rfl h
theorem eX9_runWith_9 {a : Int} {l0 l1 l3 : Option VV} {S : MM} : rn xX9_runWith (9, [l0, l1, some (vI a), l3], [], S) = rn xX9_runWith (10, [l0, l1, some (vI a), l3], [vI a], S) := rn_step dX9_runWith_9 rfl rfl
theorem eX9_runWith_10 {l0 l1 l2 l3 : Option VV} {v0 : VV} {S : MM} : rn xX9_runWith (10, [l0, l1, l2, l3], [v0], S) = rn xX9_runWith (11, [l0, l1, l2, l3], [vI 0, v0], S) := rn_step dX9_runWith_10 rfl rfl
theorem eX9_runWith_11 {l0 l1 l2 l3 : Option VV} {v0 v1 : VV} {S : MM} : rn xX9_runWith (11, [l0, l1, l2, l3], [v0, v1], S) = rn xX9_runWith (12, [l0, l1, l2, l3], [vI 5, v0, v1], S) := rn_step dX9_runWith_11 rfl rfl
theorem eX9_runWith_12 {a0 : Int} {a1 : Int} {a2 : Int} {l0 l1 l2 l3 : Option VV} {S : MM} : rn xX9_runWith (12, [l0, l1, l2, l3], [vI a2, vI a1, vI a0], S) = (fX9_in [vI a0, vI a1, vI a2] S).bind (fun q => rn xX9_runWith (15, [l0, l1, l2, l3], q.1.toList ++ [], q.2)) := q_callS (n := 3) (as := [vI a0, vI a1, vI a2]) (rest := []) dX9_runWith_12 rfl rfl rfl rfl
theorem eX9_runWith_15 {a : Int} {l0 l1 l2 l3 : Option VV} (h : -2147483648 ≤ a ∧ a ≤ 2147483647) {S : MM} : rn xX9_runWith (15, [l0, l1, l2, l3], [vI a], S) = if a = 0 then rn xX9_runWith (37, [l0, l1, l2, l3], [], S) else rn xX9_runWith (18, [l0, l1, l2, l3], [], S) := q_if_eq dX9_runWith_15 (by decide) rfl h
theorem eX9_runWith_18 {a : Int} {l0 l1 l2 : Option VV} {S : MM} : rn xX9_runWith (18, [l0, l1, l2, some (vI a)], [], S) = rn xX9_runWith (19, [l0, l1, l2, some (vI a)], [vI a], S) := rn_step dX9_runWith_18 rfl rfl
theorem eX9_runWith_19 {l0 l1 l2 l3 : Option VV} {v0 : VV} {S : MM} : rn xX9_runWith (19, [l0, l1, l2, l3], [v0], S) = rn xX9_runWith (20, [l0, l1, l2, l3], [vI 0, v0], S) := rn_step dX9_runWith_19 rfl rfl
theorem eX9_runWith_20 {l0 l1 l2 l3 : Option VV} {v0 v1 : VV} {S : MM} : rn xX9_runWith (20, [l0, l1, l2, l3], [v0, v1], S) = rn xX9_runWith (21, [l0, l1, l2, l3], [vI 1, v0, v1], S) := rn_step dX9_runWith_20 rfl rfl
theorem eX9_runWith_21 {a0 : Int} {a1 : Int} {a2 : Int} {l0 l1 l2 l3 : Option VV} {S : MM} : rn xX9_runWith (21, [l0, l1, l2, l3], [vI a2, vI a1, vI a0], S) = (fX9_in [vI a0, vI a1, vI a2] S).bind (fun q => rn xX9_runWith (24, [l0, l1, l2, l3], q.1.toList ++ [], q.2)) := q_callS (n := 3) (as := [vI a0, vI a1, vI a2]) (rest := []) dX9_runWith_21 rfl rfl rfl rfl
theorem eX9_runWith_24 {a : Int} {l0 l1 l2 l3 : Option VV} (h : -2147483648 ≤ a ∧ a ≤ 2147483647) {S : MM} : rn xX9_runWith (24, [l0, l1, l2, l3], [vI a], S) = if a = 0 then rn xX9_runWith (37, [l0, l1, l2, l3], [], S) else rn xX9_runWith (27, [l0, l1, l2, l3], [], S) := q_if_eq dX9_runWith_24 (by decide) rfl h
theorem eX9_runWith_27 {a : Option Nat} {l1 l2 l3 : Option VV} {S : MM} : rn xX9_runWith (27, [some (.inr (.inl a)), l1, l2, l3], [], S) = rn xX9_runWith (28, [some (.inr (.inl a)), l1, l2, l3], [.inr (.inl a)], S) := rn_step dX9_runWith_27 rfl rfl
theorem eX9_runWith_28 {a : Int} {l0 l2 l3 : Option VV} {v0 : VV} {S : MM} : rn xX9_runWith (28, [l0, some (vI a), l2, l3], [v0], S) = rn xX9_runWith (29, [l0, some (vI a), l2, l3], [vI a, v0], S) := rn_step dX9_runWith_28 rfl rfl
theorem eX9_runWith_29 {a : Int} {l0 l1 l3 : Option VV} {v0 v1 : VV} {S : MM} : rn xX9_runWith (29, [l0, l1, some (vI a), l3], [v0, v1], S) = rn xX9_runWith (30, [l0, l1, some (vI a), l3], [vI a, v0, v1], S) := rn_step dX9_runWith_29 rfl rfl
theorem eX9_runWith_30 {a : Int} {l0 l1 l2 : Option VV} {v0 v1 v2 : VV} {S : MM} : rn xX9_runWith (30, [l0, l1, l2, some (vI a)], [v0, v1, v2], S) = rn xX9_runWith (31, [l0, l1, l2, some (vI a)], [vI a, v0, v1, v2], S) := rn_step dX9_runWith_30 rfl rfl
theorem eX9_runWith_31 {a0 : Int} {a1 : Int} {a2 : Int} {l0 l1 l2 l3 : Option VV} {S : MM} : rn xX9_runWith (31, [l0, l1, l2, l3], [vI a2, vI a1, vI a0, vR 593], S) = (fX9_wouldTake [vR 593, vI a0, vI a1, vI a2] S).bind (fun q => rn xX9_runWith (34, [l0, l1, l2, l3], q.1.toList ++ [], q.2)) := q_callV (n := 3) (as := [vI a0, vI a1, vI a2]) (rest := []) dX9_runWith_31 rfl rfl rfl rfl kd593
theorem eX9_runWith_34 {l0 l1 l2 l3 : Option VV} {v0 : VV} {S : MM} : rn xX9_runWith (34, [l0, l1, l2, l3], [v0], S) = rn xX9_runWith (39, [l0, l1, l2, l3], [v0], S) := rn_step dX9_runWith_34 rfl rfl
theorem eX9_runWith_37 {l0 l1 l2 l3 : Option VV} {S : MM} : rn xX9_runWith (37, [l0, l1, l2, l3], [], S) = rn xX9_runWith (39, [l0, l1, l2, l3], [vI (-2)], S) := rn_step dX9_runWith_37 rfl rfl
theorem eX9_runWith_39 {z : Int} {l0 l1 l2 l3 : Option VV} {S : MM} : rn xX9_runWith (39, [l0, l1, l2, l3], [vI z], S) = some (some (vI z), S) := q_retI dX9_runWith_39 rfl
noncomputable def qlX9_cheapest : List CE := [(1, 35, 0, 3, fX9_in), (0, 196, 9, 4, fX9_wouldTake)]
noncomputable def xX9_cheapest : XX := (cX9_cheapest, fcF fcl9, mcF qlX9_cheapest, 1)
noncomputable def fX9_cheapest : FN := fnX xX9_cheapest 6
set_option maxRecDepth 100000 in
theorem cwX9_cheapest : Cond.code yX9_cheapest cX9_cheapest 6 (some .int) ∈ lw_g := lw_gm 1178 (by decide +kernel) (by decide +kernel)
set_option maxRecDepth 100000 in
theorem conX9_cheapest : Con yX9_cheapest cX9_cheapest 6 (some .int) { frames := 7, cells := 0, slots := 0, locals := 161 } fX9_cheapest := con_of (X := xX9_cheapest) (own := "LeapStonesModel") (ql := qlX9_cheapest) (by decide) rfl FOK9 rfl (List.forall_mem_cons.mpr ⟨call_S conX9_in cwX9_in (lw_gl _ [1043, 1044, 84] (by decide +kernel) (by decide +kernel)) ⟨by decide, by decide, by decide +kernel⟩ ⟨rfl, rfl⟩ ⟨by decide, by decide⟩ ⟨Nat.le_refl _, Nat.le_refl _⟩, List.forall_mem_cons.mpr ⟨call_V conX9_wouldTake cwX9_wouldTake (lw_gl _ [1163, 1165, 58, 84] (by decide +kernel) (by decide +kernel)) (by decide) rfl ⟨by decide, by decide, by decide +kernel⟩ ⟨rfl, rfl⟩ ⟨by decide, by decide⟩ ⟨Nat.le_refl _, Nat.le_refl _⟩, fun _ h => absurd h List.not_mem_nil⟩⟩) (Or.inr (Or.inl ⟨rfl, rfl⟩))
theorem uX9_cheapest {i : Nat} {a0 : Int} {S : MM} : fX9_cheapest [vR i, vI a0] S = rn xX9_cheapest (0, [some (vR i), some (vI a0), none, none, none, none], [], S) := rfl
theorem dX9_cheapest_0 : decode cX9_cheapest 0 = .ok (.iload_n 1, 1) := by decide +kernel
theorem dX9_cheapest_1 : decode cX9_cheapest 1 = .ok (.iconst 0, 1) := by decide +kernel
theorem dX9_cheapest_2 : decode cX9_cheapest 2 = .ok (.iconst 2, 1) := by decide +kernel
theorem dX9_cheapest_3 : decode cX9_cheapest 3 = .ok (.invokestatic 35, 3) := by decide +kernel
theorem dX9_cheapest_6 : decode cX9_cheapest 6 = .ok (.ifCond .ne 6, 3) := by decide +kernel
theorem dX9_cheapest_9 : decode cX9_cheapest 9 = .ok (.bipush (-2), 2) := by decide +kernel
theorem dX9_cheapest_11 : decode cX9_cheapest 11 = .ok (.ireturn, 1) := by decide +kernel
theorem dX9_cheapest_12 : decode cX9_cheapest 12 = .ok (.bipush (-6), 2) := by decide +kernel
theorem dX9_cheapest_14 : decode cX9_cheapest 14 = .ok (.istore_n 2, 1) := by decide +kernel
theorem dX9_cheapest_15 : decode cX9_cheapest 15 = .ok (.iconst 0, 1) := by decide +kernel
theorem dX9_cheapest_16 : decode cX9_cheapest 16 = .ok (.istore_n 3, 1) := by decide +kernel
theorem dX9_cheapest_17 : decode cX9_cheapest 17 = .ok (.iconst 0, 1) := by decide +kernel
theorem dX9_cheapest_18 : decode cX9_cheapest 18 = .ok (.istore 4, 2) := by decide +kernel
theorem dX9_cheapest_20 : decode cX9_cheapest 20 = .ok (.iload 4, 2) := by decide +kernel
theorem dX9_cheapest_22 : decode cX9_cheapest 22 = .ok (.bipush 18, 2) := by decide +kernel
theorem dX9_cheapest_24 : decode cX9_cheapest 24 = .ok (.if_icmp .ge 42, 3) := by decide +kernel
theorem dX9_cheapest_27 : decode cX9_cheapest 27 = .ok (.aload_n 0, 1) := by decide +kernel
theorem dX9_cheapest_28 : decode cX9_cheapest 28 = .ok (.iload 4, 2) := by decide +kernel
theorem dX9_cheapest_30 : decode cX9_cheapest 30 = .ok (.bipush 6, 2) := by decide +kernel
theorem dX9_cheapest_32 : decode cX9_cheapest 32 = .ok (.idiv, 1) := by decide +kernel
theorem dX9_cheapest_33 : decode cX9_cheapest 33 = .ok (.iload 4, 2) := by decide +kernel
theorem dX9_cheapest_35 : decode cX9_cheapest 35 = .ok (.bipush 6, 2) := by decide +kernel
theorem dX9_cheapest_37 : decode cX9_cheapest 37 = .ok (.irem, 1) := by decide +kernel
theorem dX9_cheapest_38 : decode cX9_cheapest 38 = .ok (.iconst 1, 1) := by decide +kernel
theorem dX9_cheapest_39 : decode cX9_cheapest 39 = .ok (.invokevirtual 196, 3) := by decide +kernel
theorem dX9_cheapest_42 : decode cX9_cheapest 42 = .ok (.istore 5, 2) := by decide +kernel
theorem dX9_cheapest_44 : decode cX9_cheapest 44 = .ok (.iload_n 2, 1) := by decide +kernel
theorem dX9_cheapest_45 : decode cX9_cheapest 45 = .ok (.ifCond .lt 9, 3) := by decide +kernel
theorem dX9_cheapest_48 : decode cX9_cheapest 48 = .ok (.iload 5, 2) := by decide +kernel
theorem dX9_cheapest_50 : decode cX9_cheapest 50 = .ok (.iload_n 3, 1) := by decide +kernel
theorem dX9_cheapest_51 : decode cX9_cheapest 51 = .ok (.if_icmp .ge 9, 3) := by decide +kernel
theorem dX9_cheapest_54 : decode cX9_cheapest 54 = .ok (.iload 4, 2) := by decide +kernel
theorem dX9_cheapest_56 : decode cX9_cheapest 56 = .ok (.istore_n 2, 1) := by decide +kernel
theorem dX9_cheapest_57 : decode cX9_cheapest 57 = .ok (.iload 5, 2) := by decide +kernel
theorem dX9_cheapest_59 : decode cX9_cheapest 59 = .ok (.istore_n 3, 1) := by decide +kernel
theorem dX9_cheapest_60 : decode cX9_cheapest 60 = .ok (.iinc 4 1, 3) := by decide +kernel
theorem dX9_cheapest_63 : decode cX9_cheapest 63 = .ok (.goto (-43), 3) := by decide +kernel
theorem dX9_cheapest_66 : decode cX9_cheapest 66 = .ok (.iload_n 1, 1) := by decide +kernel
theorem dX9_cheapest_67 : decode cX9_cheapest 67 = .ok (.ifCond .ne 10, 3) := by decide +kernel
theorem dX9_cheapest_70 : decode cX9_cheapest 70 = .ok (.iload_n 2, 1) := by decide +kernel
theorem dX9_cheapest_71 : decode cX9_cheapest 71 = .ok (.bipush 6, 2) := by decide +kernel
theorem dX9_cheapest_73 : decode cX9_cheapest 73 = .ok (.idiv, 1) := by decide +kernel
theorem dX9_cheapest_74 : decode cX9_cheapest 74 = .ok (.goto 16, 3) := by decide +kernel
theorem dX9_cheapest_77 : decode cX9_cheapest 77 = .ok (.iload_n 1, 1) := by decide +kernel
theorem dX9_cheapest_78 : decode cX9_cheapest 78 = .ok (.iconst 1, 1) := by decide +kernel
theorem dX9_cheapest_79 : decode cX9_cheapest 79 = .ok (.if_icmp .ne 10, 3) := by decide +kernel
theorem dX9_cheapest_82 : decode cX9_cheapest 82 = .ok (.iload_n 2, 1) := by decide +kernel
theorem dX9_cheapest_83 : decode cX9_cheapest 83 = .ok (.bipush 6, 2) := by decide +kernel
theorem dX9_cheapest_85 : decode cX9_cheapest 85 = .ok (.irem, 1) := by decide +kernel
theorem dX9_cheapest_86 : decode cX9_cheapest 86 = .ok (.goto 4, 3) := by decide +kernel
theorem dX9_cheapest_89 : decode cX9_cheapest 89 = .ok (.iload_n 3, 1) := by decide +kernel
theorem dX9_cheapest_90 : decode cX9_cheapest 90 = .ok (.ireturn, 1) := by decide +kernel
theorem eX9_cheapest_0 {a : Int} {l0 l2 l3 l4 l5 : Option VV} {S : MM} : rn xX9_cheapest (0, [l0, some (vI a), l2, l3, l4, l5], [], S) = rn xX9_cheapest (1, [l0, some (vI a), l2, l3, l4, l5], [vI a], S) := rn_step dX9_cheapest_0 rfl rfl
theorem eX9_cheapest_1 {l0 l1 l2 l3 l4 l5 : Option VV} {v0 : VV} {S : MM} : rn xX9_cheapest (1, [l0, l1, l2, l3, l4, l5], [v0], S) = rn xX9_cheapest (2, [l0, l1, l2, l3, l4, l5], [vI 0, v0], S) := rn_step dX9_cheapest_1 rfl rfl
theorem eX9_cheapest_2 {l0 l1 l2 l3 l4 l5 : Option VV} {v0 v1 : VV} {S : MM} : rn xX9_cheapest (2, [l0, l1, l2, l3, l4, l5], [v0, v1], S) = rn xX9_cheapest (3, [l0, l1, l2, l3, l4, l5], [vI 2, v0, v1], S) := rn_step dX9_cheapest_2 rfl rfl
theorem eX9_cheapest_3 {a0 : Int} {a1 : Int} {a2 : Int} {l0 l1 l2 l3 l4 l5 : Option VV} {S : MM} : rn xX9_cheapest (3, [l0, l1, l2, l3, l4, l5], [vI a2, vI a1, vI a0], S) = (fX9_in [vI a0, vI a1, vI a2] S).bind (fun q => rn xX9_cheapest (6, [l0, l1, l2, l3, l4, l5], q.1.toList ++ [], q.2)) := q_callS (n := 3) (as := [vI a0, vI a1, vI a2]) (rest := []) dX9_cheapest_3 rfl rfl rfl rfl
theorem eX9_cheapest_6 {a : Int} {l0 l1 l2 l3 l4 l5 : Option VV} (h : -2147483648 ≤ a ∧ a ≤ 2147483647) {S : MM} : rn xX9_cheapest (6, [l0, l1, l2, l3, l4, l5], [vI a], S) = if a = 0 then rn xX9_cheapest (9, [l0, l1, l2, l3, l4, l5], [], S) else rn xX9_cheapest (12, [l0, l1, l2, l3, l4, l5], [], S) := q_if_ne dX9_cheapest_6 (by decide) rfl h
theorem eX9_cheapest_9 {l0 l1 l2 l3 l4 l5 : Option VV} {S : MM} : rn xX9_cheapest (9, [l0, l1, l2, l3, l4, l5], [], S) = rn xX9_cheapest (11, [l0, l1, l2, l3, l4, l5], [vI (-2)], S) := rn_step dX9_cheapest_9 rfl rfl
theorem eX9_cheapest_11 {z : Int} {l0 l1 l2 l3 l4 l5 : Option VV} {S : MM} : rn xX9_cheapest (11, [l0, l1, l2, l3, l4, l5], [vI z], S) = some (some (vI z), S) := q_retI dX9_cheapest_11 rfl
theorem eX9_cheapest_12 {l0 l1 l2 l3 l4 l5 : Option VV} {S : MM} : rn xX9_cheapest (12, [l0, l1, l2, l3, l4, l5], [], S) = rn xX9_cheapest (14, [l0, l1, l2, l3, l4, l5], [vI (-6)], S) := rn_step dX9_cheapest_12 rfl rfl
theorem eX9_cheapest_14 {a : Int} {w : Int} {l0 l2 l3 l4 l5 : Option VV} {S : MM} : rn xX9_cheapest (14, [l0, some (vI w), l2, l3, l4, l5], [vI a], S) = rn xX9_cheapest (15, [l0, some (vI w), some (vI a), l3, l4, l5], [], S) := rn_step dX9_cheapest_14 rfl rfl
theorem eX9_cheapest_15 {l0 l1 l2 l3 l4 l5 : Option VV} {S : MM} : rn xX9_cheapest (15, [l0, l1, l2, l3, l4, l5], [], S) = rn xX9_cheapest (16, [l0, l1, l2, l3, l4, l5], [vI 0], S) := rn_step dX9_cheapest_15 rfl rfl
theorem eX9_cheapest_16 {a : Int} {w : Int} {l0 l1 l3 l4 l5 : Option VV} {S : MM} : rn xX9_cheapest (16, [l0, l1, some (vI w), l3, l4, l5], [vI a], S) = rn xX9_cheapest (17, [l0, l1, some (vI w), some (vI a), l4, l5], [], S) := rn_step dX9_cheapest_16 rfl rfl
theorem eX9_cheapest_17 {l0 l1 l2 l3 l4 l5 : Option VV} {S : MM} : rn xX9_cheapest (17, [l0, l1, l2, l3, l4, l5], [], S) = rn xX9_cheapest (18, [l0, l1, l2, l3, l4, l5], [vI 0], S) := rn_step dX9_cheapest_17 rfl rfl
theorem eX9_cheapest_18 {a : Int} {w : Int} {l0 l1 l2 l4 l5 : Option VV} {S : MM} : rn xX9_cheapest (18, [l0, l1, l2, some (vI w), l4, l5], [vI a], S) = rn xX9_cheapest (20, [l0, l1, l2, some (vI w), some (vI a), l5], [], S) := rn_step dX9_cheapest_18 rfl rfl
theorem eX9_cheapest_20 {a : Int} {l0 l1 l2 l3 l5 : Option VV} {S : MM} : rn xX9_cheapest (20, [l0, l1, l2, l3, some (vI a), l5], [], S) = rn xX9_cheapest (22, [l0, l1, l2, l3, some (vI a), l5], [vI a], S) := rn_step dX9_cheapest_20 rfl rfl
theorem eX9_cheapest_22 {l0 l1 l2 l3 l4 l5 : Option VV} {v0 : VV} {S : MM} : rn xX9_cheapest (22, [l0, l1, l2, l3, l4, l5], [v0], S) = rn xX9_cheapest (24, [l0, l1, l2, l3, l4, l5], [vI 18, v0], S) := rn_step dX9_cheapest_22 rfl rfl
theorem eX9_cheapest_24 {a b : Int} {l0 l1 l2 l3 l4 l5 : Option VV} (h : -2147483648 ≤ a ∧ a ≤ 2147483647) (h1 : -2147483648 ≤ b ∧ b ≤ 2147483647) {S : MM} : rn xX9_cheapest (24, [l0, l1, l2, l3, l4, l5], [vI b, vI a], S) = if a < b then rn xX9_cheapest (27, [l0, l1, l2, l3, l4, l5], [], S) else rn xX9_cheapest (66, [l0, l1, l2, l3, l4, l5], [], S) := q_icmp_ge dX9_cheapest_24 (by decide) rfl h h1
theorem eX9_cheapest_27 {a : Option Nat} {l1 l2 l3 l4 l5 : Option VV} {S : MM} : rn xX9_cheapest (27, [some (.inr (.inl a)), l1, l2, l3, l4, l5], [], S) = rn xX9_cheapest (28, [some (.inr (.inl a)), l1, l2, l3, l4, l5], [.inr (.inl a)], S) := rn_step dX9_cheapest_27 rfl rfl
theorem eX9_cheapest_28 {a : Int} {l0 l1 l2 l3 l5 : Option VV} {v0 : VV} {S : MM} : rn xX9_cheapest (28, [l0, l1, l2, l3, some (vI a), l5], [v0], S) = rn xX9_cheapest (30, [l0, l1, l2, l3, some (vI a), l5], [vI a, v0], S) := rn_step dX9_cheapest_28 rfl rfl
theorem eX9_cheapest_30 {l0 l1 l2 l3 l4 l5 : Option VV} {v0 v1 : VV} {S : MM} : rn xX9_cheapest (30, [l0, l1, l2, l3, l4, l5], [v0, v1], S) = rn xX9_cheapest (32, [l0, l1, l2, l3, l4, l5], [vI 6, v0, v1], S) := rn_step dX9_cheapest_30 rfl rfl
theorem eX9_cheapest_32 {a : Int} {l0 l1 l2 l3 l4 l5 : Option VV} {v2 : VV} (h0 : 0 ≤ a) (h1 : a ≤ 2147483647) {S : MM} : rn xX9_cheapest (32, [l0, l1, l2, l3, l4, l5], [vI 6, vI a, v2], S) = rn xX9_cheapest (33, [l0, l1, l2, l3, l4, l5], [vI (a / 6), v2], S) := q_idiv dX9_cheapest_32 ⟨by decide, by decide⟩ h0 h1
theorem eX9_cheapest_33 {a : Int} {l0 l1 l2 l3 l5 : Option VV} {v0 v1 : VV} {S : MM} : rn xX9_cheapest (33, [l0, l1, l2, l3, some (vI a), l5], [v0, v1], S) = rn xX9_cheapest (35, [l0, l1, l2, l3, some (vI a), l5], [vI a, v0, v1], S) := rn_step dX9_cheapest_33 rfl rfl
theorem eX9_cheapest_35 {l0 l1 l2 l3 l4 l5 : Option VV} {v0 v1 v2 : VV} {S : MM} : rn xX9_cheapest (35, [l0, l1, l2, l3, l4, l5], [v0, v1, v2], S) = rn xX9_cheapest (37, [l0, l1, l2, l3, l4, l5], [vI 6, v0, v1, v2], S) := rn_step dX9_cheapest_35 rfl rfl
theorem eX9_cheapest_37 {a : Int} {l0 l1 l2 l3 l4 l5 : Option VV} {v2 v3 : VV} (h0 : 0 ≤ a) (h1 : a ≤ 2147483647) {S : MM} : rn xX9_cheapest (37, [l0, l1, l2, l3, l4, l5], [vI 6, vI a, v2, v3], S) = rn xX9_cheapest (38, [l0, l1, l2, l3, l4, l5], [vI (a % 6), v2, v3], S) := q_irem dX9_cheapest_37 ⟨by decide, by decide⟩ h0 h1
theorem eX9_cheapest_38 {l0 l1 l2 l3 l4 l5 : Option VV} {v0 v1 v2 : VV} {S : MM} : rn xX9_cheapest (38, [l0, l1, l2, l3, l4, l5], [v0, v1, v2], S) = rn xX9_cheapest (39, [l0, l1, l2, l3, l4, l5], [vI 1, v0, v1, v2], S) := rn_step dX9_cheapest_38 rfl rfl
theorem eX9_cheapest_39 {a0 : Int} {a1 : Int} {a2 : Int} {l0 l1 l2 l3 l4 l5 : Option VV} {S : MM} : rn xX9_cheapest (39, [l0, l1, l2, l3, l4, l5], [vI a2, vI a1, vI a0, vR 593], S) = (fX9_wouldTake [vR 593, vI a0, vI a1, vI a2] S).bind (fun q => rn xX9_cheapest (42, [l0, l1, l2, l3, l4, l5], q.1.toList ++ [], q.2)) := q_callV (n := 3) (as := [vI a0, vI a1, vI a2]) (rest := []) dX9_cheapest_39 rfl rfl rfl rfl kd593
theorem eX9_cheapest_42 {a : Int} {w : Int} {l0 l1 l2 l3 l5 : Option VV} {S : MM} : rn xX9_cheapest (42, [l0, l1, l2, l3, some (vI w), l5], [vI a], S) = rn xX9_cheapest (44, [l0, l1, l2, l3, some (vI w), some (vI a)], [], S) := rn_step dX9_cheapest_42 rfl rfl
theorem eX9_cheapest_44 {a : Int} {l0 l1 l3 l4 l5 : Option VV} {S : MM} : rn xX9_cheapest (44, [l0, l1, some (vI a), l3, l4, l5], [], S) = rn xX9_cheapest (45, [l0, l1, some (vI a), l3, l4, l5], [vI a], S) := rn_step dX9_cheapest_44 rfl rfl
theorem eX9_cheapest_45 {a : Int} {l0 l1 l2 l3 l4 l5 : Option VV} (h : -2147483648 ≤ a ∧ a ≤ 2147483647) {S : MM} : rn xX9_cheapest (45, [l0, l1, l2, l3, l4, l5], [vI a], S) = if a < 0 then rn xX9_cheapest (54, [l0, l1, l2, l3, l4, l5], [], S) else rn xX9_cheapest (48, [l0, l1, l2, l3, l4, l5], [], S) := q_if_lt dX9_cheapest_45 (by decide) rfl h
theorem eX9_cheapest_48 {a : Int} {l0 l1 l2 l3 l4 : Option VV} {S : MM} : rn xX9_cheapest (48, [l0, l1, l2, l3, l4, some (vI a)], [], S) = rn xX9_cheapest (50, [l0, l1, l2, l3, l4, some (vI a)], [vI a], S) := rn_step dX9_cheapest_48 rfl rfl
theorem eX9_cheapest_50 {a : Int} {l0 l1 l2 l4 l5 : Option VV} {v0 : VV} {S : MM} : rn xX9_cheapest (50, [l0, l1, l2, some (vI a), l4, l5], [v0], S) = rn xX9_cheapest (51, [l0, l1, l2, some (vI a), l4, l5], [vI a, v0], S) := rn_step dX9_cheapest_50 rfl rfl
theorem eX9_cheapest_51 {a b : Int} {l0 l1 l2 l3 l4 l5 : Option VV} (h : -2147483648 ≤ a ∧ a ≤ 2147483647) (h1 : -2147483648 ≤ b ∧ b ≤ 2147483647) {S : MM} : rn xX9_cheapest (51, [l0, l1, l2, l3, l4, l5], [vI b, vI a], S) = if a < b then rn xX9_cheapest (54, [l0, l1, l2, l3, l4, l5], [], S) else rn xX9_cheapest (60, [l0, l1, l2, l3, l4, l5], [], S) := q_icmp_ge dX9_cheapest_51 (by decide) rfl h h1
theorem eX9_cheapest_54 {a : Int} {l0 l1 l2 l3 l5 : Option VV} {S : MM} : rn xX9_cheapest (54, [l0, l1, l2, l3, some (vI a), l5], [], S) = rn xX9_cheapest (56, [l0, l1, l2, l3, some (vI a), l5], [vI a], S) := rn_step dX9_cheapest_54 rfl rfl
theorem eX9_cheapest_56 {a : Int} {w : Int} {l0 l2 l3 l4 l5 : Option VV} {S : MM} : rn xX9_cheapest (56, [l0, some (vI w), l2, l3, l4, l5], [vI a], S) = rn xX9_cheapest (57, [l0, some (vI w), some (vI a), l3, l4, l5], [], S) := rn_step dX9_cheapest_56 rfl rfl
theorem eX9_cheapest_57 {a : Int} {l0 l1 l2 l3 l4 : Option VV} {S : MM} : rn xX9_cheapest (57, [l0, l1, l2, l3, l4, some (vI a)], [], S) = rn xX9_cheapest (59, [l0, l1, l2, l3, l4, some (vI a)], [vI a], S) := rn_step dX9_cheapest_57 rfl rfl
theorem eX9_cheapest_59 {a : Int} {w : Int} {l0 l1 l3 l4 l5 : Option VV} {S : MM} : rn xX9_cheapest (59, [l0, l1, some (vI w), l3, l4, l5], [vI a], S) = rn xX9_cheapest (60, [l0, l1, some (vI w), some (vI a), l4, l5], [], S) := rn_step dX9_cheapest_59 rfl rfl
theorem eX9_cheapest_60 {a : Int} {w : Int} {l0 l1 l2 l5 : Option VV} {S : MM} : rn xX9_cheapest (60, [l0, l1, l2, some (vI w), some (vI a), l5], [], S) = rn xX9_cheapest (63, [l0, l1, l2, some (vI w), some (vI (a + 1)), l5], [], S) := rn_step dX9_cheapest_60 rfl rfl
theorem eX9_cheapest_63 {l0 l1 l2 l3 l4 l5 : Option VV} {S : MM} : rn xX9_cheapest (63, [l0, l1, l2, l3, l4, l5], [], S) = rn xX9_cheapest (20, [l0, l1, l2, l3, l4, l5], [], S) := rn_step dX9_cheapest_63 rfl rfl
theorem eX9_cheapest_66 {a : Int} {l0 l2 l3 l4 l5 : Option VV} {S : MM} : rn xX9_cheapest (66, [l0, some (vI a), l2, l3, l4, l5], [], S) = rn xX9_cheapest (67, [l0, some (vI a), l2, l3, l4, l5], [vI a], S) := rn_step dX9_cheapest_66 rfl rfl
theorem eX9_cheapest_67 {a : Int} {l0 l1 l2 l3 l4 l5 : Option VV} (h : -2147483648 ≤ a ∧ a ≤ 2147483647) {S : MM} : rn xX9_cheapest (67, [l0, l1, l2, l3, l4, l5], [vI a], S) = if a = 0 then rn xX9_cheapest (70, [l0, l1, l2, l3, l4, l5], [], S) else rn xX9_cheapest (77, [l0, l1, l2, l3, l4, l5], [], S) := q_if_ne dX9_cheapest_67 (by decide) rfl h
theorem eX9_cheapest_70 {a : Int} {l0 l1 l3 l4 l5 : Option VV} {S : MM} : rn xX9_cheapest (70, [l0, l1, some (vI a), l3, l4, l5], [], S) = rn xX9_cheapest (71, [l0, l1, some (vI a), l3, l4, l5], [vI a], S) := rn_step dX9_cheapest_70 rfl rfl
theorem eX9_cheapest_71 {l0 l1 l2 l3 l4 l5 : Option VV} {v0 : VV} {S : MM} : rn xX9_cheapest (71, [l0, l1, l2, l3, l4, l5], [v0], S) = rn xX9_cheapest (73, [l0, l1, l2, l3, l4, l5], [vI 6, v0], S) := rn_step dX9_cheapest_71 rfl rfl
theorem eX9_cheapest_73 {a : Int} {l0 l1 l2 l3 l4 l5 : Option VV} (h0 : 0 ≤ a) (h1 : a ≤ 2147483647) {S : MM} : rn xX9_cheapest (73, [l0, l1, l2, l3, l4, l5], [vI 6, vI a], S) = rn xX9_cheapest (74, [l0, l1, l2, l3, l4, l5], [vI (a / 6)], S) := q_idiv dX9_cheapest_73 ⟨by decide, by decide⟩ h0 h1
theorem eX9_cheapest_74 {l0 l1 l2 l3 l4 l5 : Option VV} {v0 : VV} {S : MM} : rn xX9_cheapest (74, [l0, l1, l2, l3, l4, l5], [v0], S) = rn xX9_cheapest (90, [l0, l1, l2, l3, l4, l5], [v0], S) := rn_step dX9_cheapest_74 rfl rfl
theorem eX9_cheapest_77 {a : Int} {l0 l2 l3 l4 l5 : Option VV} {S : MM} : rn xX9_cheapest (77, [l0, some (vI a), l2, l3, l4, l5], [], S) = rn xX9_cheapest (78, [l0, some (vI a), l2, l3, l4, l5], [vI a], S) := rn_step dX9_cheapest_77 rfl rfl
theorem eX9_cheapest_78 {l0 l1 l2 l3 l4 l5 : Option VV} {v0 : VV} {S : MM} : rn xX9_cheapest (78, [l0, l1, l2, l3, l4, l5], [v0], S) = rn xX9_cheapest (79, [l0, l1, l2, l3, l4, l5], [vI 1, v0], S) := rn_step dX9_cheapest_78 rfl rfl
theorem eX9_cheapest_79 {a b : Int} {l0 l1 l2 l3 l4 l5 : Option VV} (h : -2147483648 ≤ a ∧ a ≤ 2147483647) (h1 : -2147483648 ≤ b ∧ b ≤ 2147483647) {S : MM} : rn xX9_cheapest (79, [l0, l1, l2, l3, l4, l5], [vI b, vI a], S) = if a = b then rn xX9_cheapest (82, [l0, l1, l2, l3, l4, l5], [], S) else rn xX9_cheapest (89, [l0, l1, l2, l3, l4, l5], [], S) := q_icmp_ne dX9_cheapest_79 (by decide) rfl h h1
theorem eX9_cheapest_82 {a : Int} {l0 l1 l3 l4 l5 : Option VV} {S : MM} : rn xX9_cheapest (82, [l0, l1, some (vI a), l3, l4, l5], [], S) = rn xX9_cheapest (83, [l0, l1, some (vI a), l3, l4, l5], [vI a], S) := rn_step dX9_cheapest_82 rfl rfl
theorem eX9_cheapest_83 {l0 l1 l2 l3 l4 l5 : Option VV} {v0 : VV} {S : MM} : rn xX9_cheapest (83, [l0, l1, l2, l3, l4, l5], [v0], S) = rn xX9_cheapest (85, [l0, l1, l2, l3, l4, l5], [vI 6, v0], S) := rn_step dX9_cheapest_83 rfl rfl
theorem eX9_cheapest_85 {a : Int} {l0 l1 l2 l3 l4 l5 : Option VV} (h0 : 0 ≤ a) (h1 : a ≤ 2147483647) {S : MM} : rn xX9_cheapest (85, [l0, l1, l2, l3, l4, l5], [vI 6, vI a], S) = rn xX9_cheapest (86, [l0, l1, l2, l3, l4, l5], [vI (a % 6)], S) := q_irem dX9_cheapest_85 ⟨by decide, by decide⟩ h0 h1
theorem eX9_cheapest_86 {l0 l1 l2 l3 l4 l5 : Option VV} {v0 : VV} {S : MM} : rn xX9_cheapest (86, [l0, l1, l2, l3, l4, l5], [v0], S) = rn xX9_cheapest (90, [l0, l1, l2, l3, l4, l5], [v0], S) := rn_step dX9_cheapest_86 rfl rfl
theorem eX9_cheapest_89 {a : Int} {l0 l1 l2 l4 l5 : Option VV} {S : MM} : rn xX9_cheapest (89, [l0, l1, l2, some (vI a), l4, l5], [], S) = rn xX9_cheapest (90, [l0, l1, l2, some (vI a), l4, l5], [vI a], S) := rn_step dX9_cheapest_89 rfl rfl
theorem eX9_cheapest_90 {z : Int} {l0 l1 l2 l3 l4 l5 : Option VV} {S : MM} : rn xX9_cheapest (90, [l0, l1, l2, l3, l4, l5], [vI z], S) = some (some (vI z), S) := q_retI dX9_cheapest_90 rfl
noncomputable def qlX9_lostBy : List CE := [(1, 140, 0, 2, fX9_isRange), (0, 187, 9, 3, fX9_rowsFrom)]
noncomputable def xX9_lostBy : XX := (cX9_lostBy, fcF fcl9, mcF qlX9_lostBy, 1)
noncomputable def fX9_lostBy : FN := fnX xX9_lostBy 3
set_option maxRecDepth 100000 in
theorem cwX9_lostBy : Cond.code yX9_lostBy cX9_lostBy 3 (some .int) ∈ lw_g := lw_gm 1182 (by decide +kernel) (by decide +kernel)
set_option maxRecDepth 100000 in
theorem conX9_lostBy : Con yX9_lostBy cX9_lostBy 3 (some .int) { frames := 3, cells := 0, slots := 0, locals := 67 } fX9_lostBy := con_of (X := xX9_lostBy) (own := "LeapStonesModel") (ql := qlX9_lostBy) (by decide) rfl FOK9 rfl (List.forall_mem_cons.mpr ⟨call_S conX9_isRange cwX9_isRange (lw_gl _ [1076, 1077, 84] (by decide +kernel) (by decide +kernel)) ⟨by decide, by decide, by decide +kernel⟩ ⟨rfl, rfl⟩ ⟨by decide, by decide⟩ ⟨Nat.le_refl _, Nat.le_refl _⟩, List.forall_mem_cons.mpr ⟨call_V conX9_rowsFrom cwX9_rowsFrom (lw_gl _ [1155, 1157, 57, 84] (by decide +kernel) (by decide +kernel)) (by decide) rfl ⟨by decide, by decide, by decide +kernel⟩ ⟨rfl, rfl⟩ ⟨by decide, by decide⟩ ⟨Nat.le_refl _, Nat.le_refl _⟩, fun _ h => absurd h List.not_mem_nil⟩⟩) (Or.inr (Or.inl ⟨rfl, rfl⟩))
theorem uX9_lostBy {i : Nat} {a0 : Int} {a1 : Int} {S : MM} : fX9_lostBy [vR i, vI a0, vI a1] S = rn xX9_lostBy (0, [some (vR i), some (vI a0), some (vI a1)], [], S) := rfl
theorem dX9_lostBy_0 : decode cX9_lostBy 0 = .ok (.iload_n 1, 1) := by decide +kernel
theorem dX9_lostBy_1 : decode cX9_lostBy 1 = .ok (.iload_n 2, 1) := by decide +kernel
theorem dX9_lostBy_2 : decode cX9_lostBy 2 = .ok (.invokestatic 140, 3) := by decide +kernel
theorem dX9_lostBy_5 : decode cX9_lostBy 5 = .ok (.ifCond .eq 12, 3) := by decide +kernel
theorem dX9_lostBy_8 : decode cX9_lostBy 8 = .ok (.aload_n 0, 1) := by decide +kernel
theorem dX9_lostBy_9 : decode cX9_lostBy 9 = .ok (.iload_n 1, 1) := by decide +kernel
theorem dX9_lostBy_10 : decode cX9_lostBy 10 = .ok (.iload_n 2, 1) := by decide +kernel
theorem dX9_lostBy_11 : decode cX9_lostBy 11 = .ok (.invokevirtual 187, 3) := by decide +kernel
theorem dX9_lostBy_14 : decode cX9_lostBy 14 = .ok (.goto 5, 3) := by decide +kernel
theorem dX9_lostBy_17 : decode cX9_lostBy 17 = .ok (.bipush (-2), 2) := by decide +kernel
theorem dX9_lostBy_19 : decode cX9_lostBy 19 = .ok (.ireturn, 1) := by decide +kernel
theorem eX9_lostBy_0 {a : Int} {l0 l2 : Option VV} {S : MM} : rn xX9_lostBy (0, [l0, some (vI a), l2], [], S) = rn xX9_lostBy (1, [l0, some (vI a), l2], [vI a], S) := rn_step dX9_lostBy_0 rfl rfl
theorem eX9_lostBy_1 {a : Int} {l0 l1 : Option VV} {v0 : VV} {S : MM} : rn xX9_lostBy (1, [l0, l1, some (vI a)], [v0], S) = rn xX9_lostBy (2, [l0, l1, some (vI a)], [vI a, v0], S) := rn_step dX9_lostBy_1 rfl rfl
theorem eX9_lostBy_2 {a0 : Int} {a1 : Int} {l0 l1 l2 : Option VV} {S : MM} : rn xX9_lostBy (2, [l0, l1, l2], [vI a1, vI a0], S) = (fX9_isRange [vI a0, vI a1] S).bind (fun q => rn xX9_lostBy (5, [l0, l1, l2], q.1.toList ++ [], q.2)) := q_callS (n := 2) (as := [vI a0, vI a1]) (rest := []) dX9_lostBy_2 rfl rfl rfl rfl
theorem eX9_lostBy_5 {a : Int} {l0 l1 l2 : Option VV} (h : -2147483648 ≤ a ∧ a ≤ 2147483647) {S : MM} : rn xX9_lostBy (5, [l0, l1, l2], [vI a], S) = if a = 0 then rn xX9_lostBy (17, [l0, l1, l2], [], S) else rn xX9_lostBy (8, [l0, l1, l2], [], S) := q_if_eq dX9_lostBy_5 (by decide) rfl h
theorem eX9_lostBy_8 {a : Option Nat} {l1 l2 : Option VV} {S : MM} : rn xX9_lostBy (8, [some (.inr (.inl a)), l1, l2], [], S) = rn xX9_lostBy (9, [some (.inr (.inl a)), l1, l2], [.inr (.inl a)], S) := rn_step dX9_lostBy_8 rfl rfl
theorem eX9_lostBy_9 {a : Int} {l0 l2 : Option VV} {v0 : VV} {S : MM} : rn xX9_lostBy (9, [l0, some (vI a), l2], [v0], S) = rn xX9_lostBy (10, [l0, some (vI a), l2], [vI a, v0], S) := rn_step dX9_lostBy_9 rfl rfl
theorem eX9_lostBy_10 {a : Int} {l0 l1 : Option VV} {v0 v1 : VV} {S : MM} : rn xX9_lostBy (10, [l0, l1, some (vI a)], [v0, v1], S) = rn xX9_lostBy (11, [l0, l1, some (vI a)], [vI a, v0, v1], S) := rn_step dX9_lostBy_10 rfl rfl
theorem eX9_lostBy_11 {a0 : Int} {a1 : Int} {l0 l1 l2 : Option VV} {S : MM} : rn xX9_lostBy (11, [l0, l1, l2], [vI a1, vI a0, vR 593], S) = (fX9_rowsFrom [vR 593, vI a0, vI a1] S).bind (fun q => rn xX9_lostBy (14, [l0, l1, l2], q.1.toList ++ [], q.2)) := q_callV (n := 2) (as := [vI a0, vI a1]) (rest := []) dX9_lostBy_11 rfl rfl rfl rfl kd593
theorem eX9_lostBy_14 {l0 l1 l2 : Option VV} {v0 : VV} {S : MM} : rn xX9_lostBy (14, [l0, l1, l2], [v0], S) = rn xX9_lostBy (19, [l0, l1, l2], [v0], S) := rn_step dX9_lostBy_14 rfl rfl
theorem eX9_lostBy_17 {l0 l1 l2 : Option VV} {S : MM} : rn xX9_lostBy (17, [l0, l1, l2], [], S) = rn xX9_lostBy (19, [l0, l1, l2], [vI (-2)], S) := rn_step dX9_lostBy_17 rfl rfl
theorem eX9_lostBy_19 {z : Int} {l0 l1 l2 : Option VV} {S : MM} : rn xX9_lostBy (19, [l0, l1, l2], [vI z], S) = some (some (vI z), S) := q_retI dX9_lostBy_19 rfl
noncomputable def qlX9_put : List CE := [(1, 35, 0, 3, fX9_in)]
noncomputable def xX9_put : XX := (cX9_put, fcF fcl9, mcF qlX9_put, 1)
noncomputable def fX9_put : FN := fnX xX9_put 7
set_option maxRecDepth 100000 in
theorem cwX9_put : Cond.code yX9_put cX9_put 7 (some .int) ∈ lw_g := lw_gm 1186 (by decide +kernel) (by decide +kernel)
set_option maxRecDepth 100000 in
theorem conX9_put : Con yX9_put cX9_put 7 (some .int) { frames := 1, cells := 0, slots := 0, locals := 22 } fX9_put := con_of (X := xX9_put) (own := "LeapStonesModel") (ql := qlX9_put) (by decide) rfl FOK9 rfl (List.forall_mem_cons.mpr ⟨call_S conX9_in cwX9_in (lw_gl _ [1043, 1044, 84] (by decide +kernel) (by decide +kernel)) ⟨by decide, by decide, by decide +kernel⟩ ⟨rfl, rfl⟩ ⟨by decide, by decide⟩ ⟨Nat.le_refl _, Nat.le_refl _⟩, fun _ h => absurd h List.not_mem_nil⟩) (Or.inr (Or.inl ⟨rfl, rfl⟩))
theorem uX9_put {i : Nat} {a0 : Nat} {S : MM} : fX9_put [vR i, vJ a0] S = rn xX9_put (0, [some (vR i), some (vJ a0), none, none, none, none, none], [], S) := rfl
theorem dX9_put_0 : decode cX9_put 0 = .ok (.iconst 0, 1) := by decide +kernel
theorem dX9_put_1 : decode cX9_put 1 = .ok (.istore_n 3, 1) := by decide +kernel
theorem dX9_put_2 : decode cX9_put 2 = .ok (.lload_n 1, 1) := by decide +kernel
theorem dX9_put_3 : decode cX9_put 3 = .ok (.lstore 4, 2) := by decide +kernel
theorem dX9_put_5 : decode cX9_put 5 = .ok (.iload_n 3, 1) := by decide +kernel
theorem dX9_put_6 : decode cX9_put 6 = .ok (.bipush 8, 2) := by decide +kernel
theorem dX9_put_8 : decode cX9_put 8 = .ok (.if_icmp .ge 47, 3) := by decide +kernel
theorem dX9_put_11 : decode cX9_put 11 = .ok (.lload 4, 2) := by decide +kernel
theorem dX9_put_13 : decode cX9_put 13 = .ok (.ldc2_w 199, 3) := by decide +kernel
theorem dX9_put_16 : decode cX9_put 16 = .ok (.land, 1) := by decide +kernel
theorem dX9_put_17 : decode cX9_put 17 = .ok (.lconst 0, 1) := by decide +kernel
theorem dX9_put_18 : decode cX9_put 18 = .ok (.lcmp, 1) := by decide +kernel
theorem dX9_put_19 : decode cX9_put 19 = .ok (.ifCond .eq 36, 3) := by decide +kernel
theorem dX9_put_22 : decode cX9_put 22 = .ok (.lload 4, 2) := by decide +kernel
theorem dX9_put_24 : decode cX9_put 24 = .ok (.ldc2_w 199, 3) := by decide +kernel
theorem dX9_put_27 : decode cX9_put 27 = .ok (.land, 1) := by decide +kernel
theorem dX9_put_28 : decode cX9_put 28 = .ok (.l2i, 1) := by decide +kernel
theorem dX9_put_29 : decode cX9_put 29 = .ok (.bipush 33, 2) := by decide +kernel
theorem dX9_put_31 : decode cX9_put 31 = .ok (.bipush 126, 2) := by decide +kernel
theorem dX9_put_33 : decode cX9_put 33 = .ok (.invokestatic 35, 3) := by decide +kernel
theorem dX9_put_36 : decode cX9_put 36 = .ok (.ifCond .ne 6, 3) := by decide +kernel
theorem dX9_put_39 : decode cX9_put 39 = .ok (.bipush (-2), 2) := by decide +kernel
theorem dX9_put_41 : decode cX9_put 41 = .ok (.ireturn, 1) := by decide +kernel
theorem dX9_put_42 : decode cX9_put 42 = .ok (.iinc 3 1, 3) := by decide +kernel
theorem dX9_put_45 : decode cX9_put 45 = .ok (.lload 4, 2) := by decide +kernel
theorem dX9_put_47 : decode cX9_put 47 = .ok (.bipush 8, 2) := by decide +kernel
theorem dX9_put_49 : decode cX9_put 49 = .ok (.lushr, 1) := by decide +kernel
theorem dX9_put_50 : decode cX9_put 50 = .ok (.lstore 4, 2) := by decide +kernel
theorem dX9_put_52 : decode cX9_put 52 = .ok (.goto (-47), 3) := by decide +kernel
theorem dX9_put_55 : decode cX9_put 55 = .ok (.iload_n 3, 1) := by decide +kernel
theorem dX9_put_56 : decode cX9_put 56 = .ok (.ifCond .eq 10, 3) := by decide +kernel
theorem dX9_put_59 : decode cX9_put 59 = .ok (.lload 4, 2) := by decide +kernel
theorem dX9_put_61 : decode cX9_put 61 = .ok (.lconst 0, 1) := by decide +kernel
theorem dX9_put_62 : decode cX9_put 62 = .ok (.lcmp, 1) := by decide +kernel
theorem dX9_put_63 : decode cX9_put 63 = .ok (.ifCond .eq 6, 3) := by decide +kernel
theorem dX9_put_66 : decode cX9_put 66 = .ok (.bipush (-2), 2) := by decide +kernel
theorem dX9_put_68 : decode cX9_put 68 = .ok (.ireturn, 1) := by decide +kernel
theorem dX9_put_69 : decode cX9_put 69 = .ok (.aload_n 0, 1) := by decide +kernel
theorem dX9_put_70 : decode cX9_put 70 = .ok (.getfield 184, 3) := by decide +kernel
theorem dX9_put_73 : decode cX9_put 73 = .ok (.iload_n 3, 1) := by decide +kernel
theorem dX9_put_74 : decode cX9_put 74 = .ok (.iadd, 1) := by decide +kernel
theorem dX9_put_75 : decode cX9_put 75 = .ok (.bipush 80, 2) := by decide +kernel
theorem dX9_put_77 : decode cX9_put 77 = .ok (.if_icmp .le 6, 3) := by decide +kernel
theorem dX9_put_80 : decode cX9_put 80 = .ok (.bipush (-4), 2) := by decide +kernel
theorem dX9_put_82 : decode cX9_put 82 = .ok (.ireturn, 1) := by decide +kernel
theorem dX9_put_83 : decode cX9_put 83 = .ok (.iconst 0, 1) := by decide +kernel
theorem dX9_put_84 : decode cX9_put 84 = .ok (.istore 6, 2) := by decide +kernel
theorem dX9_put_86 : decode cX9_put 86 = .ok (.iload 6, 2) := by decide +kernel
theorem dX9_put_88 : decode cX9_put 88 = .ok (.iload_n 3, 1) := by decide +kernel
theorem dX9_put_89 : decode cX9_put 89 = .ok (.if_icmp .ge 37, 3) := by decide +kernel
theorem dX9_put_92 : decode cX9_put 92 = .ok (.aload_n 0, 1) := by decide +kernel
theorem dX9_put_93 : decode cX9_put 93 = .ok (.getfield 29, 3) := by decide +kernel
theorem dX9_put_96 : decode cX9_put 96 = .ok (.aload_n 0, 1) := by decide +kernel
theorem dX9_put_97 : decode cX9_put 97 = .ok (.getfield 184, 3) := by decide +kernel
theorem dX9_put_100 : decode cX9_put 100 = .ok (.iload 6, 2) := by decide +kernel
theorem dX9_put_102 : decode cX9_put 102 = .ok (.iadd, 1) := by decide +kernel
theorem dX9_put_103 : decode cX9_put 103 = .ok (.lload_n 1, 1) := by decide +kernel
theorem dX9_put_104 : decode cX9_put 104 = .ok (.bipush 8, 2) := by decide +kernel
theorem dX9_put_106 : decode cX9_put 106 = .ok (.iload_n 3, 1) := by decide +kernel
theorem dX9_put_107 : decode cX9_put 107 = .ok (.iconst 1, 1) := by decide +kernel
theorem dX9_put_108 : decode cX9_put 108 = .ok (.isub, 1) := by decide +kernel
theorem dX9_put_109 : decode cX9_put 109 = .ok (.iload 6, 2) := by decide +kernel
theorem dX9_put_111 : decode cX9_put 111 = .ok (.isub, 1) := by decide +kernel
theorem dX9_put_112 : decode cX9_put 112 = .ok (.imul, 1) := by decide +kernel
theorem dX9_put_113 : decode cX9_put 113 = .ok (.lshr, 1) := by decide +kernel
theorem dX9_put_114 : decode cX9_put 114 = .ok (.ldc2_w 199, 3) := by decide +kernel
theorem dX9_put_117 : decode cX9_put 117 = .ok (.land, 1) := by decide +kernel
theorem dX9_put_118 : decode cX9_put 118 = .ok (.l2i, 1) := by decide +kernel
theorem dX9_put_119 : decode cX9_put 119 = .ok (.iastore, 1) := by decide +kernel
theorem dX9_put_120 : decode cX9_put 120 = .ok (.iinc 6 1, 3) := by decide +kernel
theorem dX9_put_123 : decode cX9_put 123 = .ok (.goto (-37), 3) := by decide +kernel
theorem dX9_put_126 : decode cX9_put 126 = .ok (.aload_n 0, 1) := by decide +kernel
theorem dX9_put_127 : decode cX9_put 127 = .ok (.dup, 1) := by decide +kernel
theorem dX9_put_128 : decode cX9_put 128 = .ok (.getfield 184, 3) := by decide +kernel
theorem dX9_put_131 : decode cX9_put 131 = .ok (.iload_n 3, 1) := by decide +kernel
theorem dX9_put_132 : decode cX9_put 132 = .ok (.iadd, 1) := by decide +kernel
theorem dX9_put_133 : decode cX9_put 133 = .ok (.putfield 184, 3) := by decide +kernel
theorem dX9_put_136 : decode cX9_put 136 = .ok (.aload_n 0, 1) := by decide +kernel
theorem dX9_put_137 : decode cX9_put 137 = .ok (.getfield 184, 3) := by decide +kernel
theorem dX9_put_140 : decode cX9_put 140 = .ok (.ireturn, 1) := by decide +kernel
theorem eX9_put_0 {l0 l1 l2 l3 l4 l5 l6 : Option VV} {S : MM} : rn xX9_put (0, [l0, l1, l2, l3, l4, l5, l6], [], S) = rn xX9_put (1, [l0, l1, l2, l3, l4, l5, l6], [vI 0], S) := rn_step dX9_put_0 rfl rfl
theorem eX9_put_1 {a : Int} {l0 l1 l3 l4 l5 l6 : Option VV} {S : MM} : rn xX9_put (1, [l0, l1, none, l3, l4, l5, l6], [vI a], S) = rn xX9_put (2, [l0, l1, none, some (vI a), l4, l5, l6], [], S) := rn_step dX9_put_1 rfl rfl
theorem eX9_put_2 {a : Nat} {l0 l2 l3 l4 l5 l6 : Option VV} {S : MM} : rn xX9_put (2, [l0, some (vJ a), l2, l3, l4, l5, l6], [], S) = rn xX9_put (3, [l0, some (vJ a), l2, l3, l4, l5, l6], [vJ a], S) := rn_step dX9_put_2 rfl rfl
theorem eX9_put_3 {a : Nat} {w : Int} {l0 l1 l2 l4 l5 l6 : Option VV} {S : MM} : rn xX9_put (3, [l0, l1, l2, some (vI w), l4, l5, l6], [vJ a], S) = rn xX9_put (5, [l0, l1, l2, some (vI w), some (vJ a), none, l6], [], S) := rn_step dX9_put_3 rfl rfl
theorem eX9_put_5 {a : Int} {l0 l1 l2 l4 l5 l6 : Option VV} {S : MM} : rn xX9_put (5, [l0, l1, l2, some (vI a), l4, l5, l6], [], S) = rn xX9_put (6, [l0, l1, l2, some (vI a), l4, l5, l6], [vI a], S) := rn_step dX9_put_5 rfl rfl
theorem eX9_put_6 {l0 l1 l2 l3 l4 l5 l6 : Option VV} {v0 : VV} {S : MM} : rn xX9_put (6, [l0, l1, l2, l3, l4, l5, l6], [v0], S) = rn xX9_put (8, [l0, l1, l2, l3, l4, l5, l6], [vI 8, v0], S) := rn_step dX9_put_6 rfl rfl
theorem eX9_put_8 {a b : Int} {l0 l1 l2 l3 l4 l5 l6 : Option VV} (h : -2147483648 ≤ a ∧ a ≤ 2147483647) (h1 : -2147483648 ≤ b ∧ b ≤ 2147483647) {S : MM} : rn xX9_put (8, [l0, l1, l2, l3, l4, l5, l6], [vI b, vI a], S) = if a < b then rn xX9_put (11, [l0, l1, l2, l3, l4, l5, l6], [], S) else rn xX9_put (55, [l0, l1, l2, l3, l4, l5, l6], [], S) := q_icmp_ge dX9_put_8 (by decide) rfl h h1
theorem eX9_put_11 {a : Nat} {l0 l1 l2 l3 l5 l6 : Option VV} {S : MM} : rn xX9_put (11, [l0, l1, l2, l3, some (vJ a), l5, l6], [], S) = rn xX9_put (13, [l0, l1, l2, l3, some (vJ a), l5, l6], [vJ a], S) := rn_step dX9_put_11 rfl rfl
theorem eX9_put_13 {l0 l1 l2 l3 l4 l5 l6 : Option VV} {v0 : VV} {S : MM} : rn xX9_put (13, [l0, l1, l2, l3, l4, l5, l6], [v0], S) = rn xX9_put (16, [l0, l1, l2, l3, l4, l5, l6], [vJ 255, v0], S) := q_ldc2 dX9_put_13 rfl
theorem eX9_put_16 {a b : Nat} {l0 l1 l2 l3 l4 l5 l6 : Option VV} (h : a < 18446744073709551616) (h1 : b < 18446744073709551616) {S : MM} : rn xX9_put (16, [l0, l1, l2, l3, l4, l5, l6], [vJ b, vJ a], S) = rn xX9_put (17, [l0, l1, l2, l3, l4, l5, l6], [vJ (a &&& b)], S) := q_land dX9_put_16 h h1
theorem eX9_put_17 {l0 l1 l2 l3 l4 l5 l6 : Option VV} {v0 : VV} {S : MM} : rn xX9_put (17, [l0, l1, l2, l3, l4, l5, l6], [v0], S) = rn xX9_put (18, [l0, l1, l2, l3, l4, l5, l6], [vJ 0, v0], S) := rn_step dX9_put_17 rfl rfl
theorem eX9_put_18 {a b : Nat} {l0 l1 l2 l3 l4 l5 l6 : Option VV} (h : a < 18446744073709551616) (h1 : b < 18446744073709551616) {S : MM} : rn xX9_put (18, [l0, l1, l2, l3, l4, l5, l6], [vJ b, vJ a], S) = rn xX9_put (19, [l0, l1, l2, l3, l4, l5, l6], [vI (if a = b then 0 else if sgn a < sgn b then -1 else 1)], S) := q_lcmp dX9_put_18 h h1
theorem eX9_put_19 {a : Int} {l0 l1 l2 l3 l4 l5 l6 : Option VV} (h : -2147483648 ≤ a ∧ a ≤ 2147483647) {S : MM} : rn xX9_put (19, [l0, l1, l2, l3, l4, l5, l6], [vI a], S) = if a = 0 then rn xX9_put (55, [l0, l1, l2, l3, l4, l5, l6], [], S) else rn xX9_put (22, [l0, l1, l2, l3, l4, l5, l6], [], S) := q_if_eq dX9_put_19 (by decide) rfl h
theorem eX9_put_22 {a : Nat} {l0 l1 l2 l3 l5 l6 : Option VV} {S : MM} : rn xX9_put (22, [l0, l1, l2, l3, some (vJ a), l5, l6], [], S) = rn xX9_put (24, [l0, l1, l2, l3, some (vJ a), l5, l6], [vJ a], S) := rn_step dX9_put_22 rfl rfl
theorem eX9_put_24 {l0 l1 l2 l3 l4 l5 l6 : Option VV} {v0 : VV} {S : MM} : rn xX9_put (24, [l0, l1, l2, l3, l4, l5, l6], [v0], S) = rn xX9_put (27, [l0, l1, l2, l3, l4, l5, l6], [vJ 255, v0], S) := q_ldc2 dX9_put_24 rfl
theorem eX9_put_27 {a b : Nat} {l0 l1 l2 l3 l4 l5 l6 : Option VV} (h : a < 18446744073709551616) (h1 : b < 18446744073709551616) {S : MM} : rn xX9_put (27, [l0, l1, l2, l3, l4, l5, l6], [vJ b, vJ a], S) = rn xX9_put (28, [l0, l1, l2, l3, l4, l5, l6], [vJ (a &&& b)], S) := q_land dX9_put_27 h h1
theorem eX9_put_28 {a : Nat} {l0 l1 l2 l3 l4 l5 l6 : Option VV} (h : a < 18446744073709551616) {S : MM} : rn xX9_put (28, [l0, l1, l2, l3, l4, l5, l6], [vJ a], S) = rn xX9_put (29, [l0, l1, l2, l3, l4, l5, l6], [vI (Int.bmod a 4294967296)], S) := q_l2i dX9_put_28 h
theorem eX9_put_29 {l0 l1 l2 l3 l4 l5 l6 : Option VV} {v0 : VV} {S : MM} : rn xX9_put (29, [l0, l1, l2, l3, l4, l5, l6], [v0], S) = rn xX9_put (31, [l0, l1, l2, l3, l4, l5, l6], [vI 33, v0], S) := rn_step dX9_put_29 rfl rfl
theorem eX9_put_31 {l0 l1 l2 l3 l4 l5 l6 : Option VV} {v0 v1 : VV} {S : MM} : rn xX9_put (31, [l0, l1, l2, l3, l4, l5, l6], [v0, v1], S) = rn xX9_put (33, [l0, l1, l2, l3, l4, l5, l6], [vI 126, v0, v1], S) := rn_step dX9_put_31 rfl rfl
theorem eX9_put_33 {a0 : Int} {a1 : Int} {a2 : Int} {l0 l1 l2 l3 l4 l5 l6 : Option VV} {S : MM} : rn xX9_put (33, [l0, l1, l2, l3, l4, l5, l6], [vI a2, vI a1, vI a0], S) = (fX9_in [vI a0, vI a1, vI a2] S).bind (fun q => rn xX9_put (36, [l0, l1, l2, l3, l4, l5, l6], q.1.toList ++ [], q.2)) := q_callS (n := 3) (as := [vI a0, vI a1, vI a2]) (rest := []) dX9_put_33 rfl rfl rfl rfl
theorem eX9_put_36 {a : Int} {l0 l1 l2 l3 l4 l5 l6 : Option VV} (h : -2147483648 ≤ a ∧ a ≤ 2147483647) {S : MM} : rn xX9_put (36, [l0, l1, l2, l3, l4, l5, l6], [vI a], S) = if a = 0 then rn xX9_put (39, [l0, l1, l2, l3, l4, l5, l6], [], S) else rn xX9_put (42, [l0, l1, l2, l3, l4, l5, l6], [], S) := q_if_ne dX9_put_36 (by decide) rfl h
theorem eX9_put_39 {l0 l1 l2 l3 l4 l5 l6 : Option VV} {S : MM} : rn xX9_put (39, [l0, l1, l2, l3, l4, l5, l6], [], S) = rn xX9_put (41, [l0, l1, l2, l3, l4, l5, l6], [vI (-2)], S) := rn_step dX9_put_39 rfl rfl
theorem eX9_put_41 {z : Int} {l0 l1 l2 l3 l4 l5 l6 : Option VV} {S : MM} : rn xX9_put (41, [l0, l1, l2, l3, l4, l5, l6], [vI z], S) = some (some (vI z), S) := q_retI dX9_put_41 rfl
theorem eX9_put_42 {a : Int} {l0 l1 l4 l5 l6 : Option VV} {S : MM} : rn xX9_put (42, [l0, l1, none, some (vI a), l4, l5, l6], [], S) = rn xX9_put (45, [l0, l1, none, some (vI (a + 1)), l4, l5, l6], [], S) := rn_step dX9_put_42 rfl rfl
theorem eX9_put_45 {a : Nat} {l0 l1 l2 l3 l5 l6 : Option VV} {S : MM} : rn xX9_put (45, [l0, l1, l2, l3, some (vJ a), l5, l6], [], S) = rn xX9_put (47, [l0, l1, l2, l3, some (vJ a), l5, l6], [vJ a], S) := rn_step dX9_put_45 rfl rfl
theorem eX9_put_47 {l0 l1 l2 l3 l4 l5 l6 : Option VV} {v0 : VV} {S : MM} : rn xX9_put (47, [l0, l1, l2, l3, l4, l5, l6], [v0], S) = rn xX9_put (49, [l0, l1, l2, l3, l4, l5, l6], [vI 8, v0], S) := rn_step dX9_put_47 rfl rfl
theorem eX9_put_49 {a : Nat} {k : Int} {l0 l1 l2 l3 l4 l5 l6 : Option VV} (h : a < 18446744073709551616) (h0 : 0 ≤ k) (h1 : k < 64) {S : MM} : rn xX9_put (49, [l0, l1, l2, l3, l4, l5, l6], [vI k, vJ a], S) = rn xX9_put (50, [l0, l1, l2, l3, l4, l5, l6], [vJ (a / 2 ^ k.toNat)], S) := q_lushr dX9_put_49 h h0 h1
theorem eX9_put_50 {a : Nat} {w : Int} {l0 l1 l2 l4 l5 l6 : Option VV} {S : MM} : rn xX9_put (50, [l0, l1, l2, some (vI w), l4, l5, l6], [vJ a], S) = rn xX9_put (52, [l0, l1, l2, some (vI w), some (vJ a), none, l6], [], S) := rn_step dX9_put_50 rfl rfl
theorem eX9_put_52 {l0 l1 l2 l3 l4 l5 l6 : Option VV} {S : MM} : rn xX9_put (52, [l0, l1, l2, l3, l4, l5, l6], [], S) = rn xX9_put (5, [l0, l1, l2, l3, l4, l5, l6], [], S) := rn_step dX9_put_52 rfl rfl
theorem eX9_put_55 {a : Int} {l0 l1 l2 l4 l5 l6 : Option VV} {S : MM} : rn xX9_put (55, [l0, l1, l2, some (vI a), l4, l5, l6], [], S) = rn xX9_put (56, [l0, l1, l2, some (vI a), l4, l5, l6], [vI a], S) := rn_step dX9_put_55 rfl rfl
theorem eX9_put_56 {a : Int} {l0 l1 l2 l3 l4 l5 l6 : Option VV} (h : -2147483648 ≤ a ∧ a ≤ 2147483647) {S : MM} : rn xX9_put (56, [l0, l1, l2, l3, l4, l5, l6], [vI a], S) = if a = 0 then rn xX9_put (66, [l0, l1, l2, l3, l4, l5, l6], [], S) else rn xX9_put (59, [l0, l1, l2, l3, l4, l5, l6], [], S) := q_if_eq dX9_put_56 (by decide) rfl h
theorem eX9_put_59 {a : Nat} {l0 l1 l2 l3 l5 l6 : Option VV} {S : MM} : rn xX9_put (59, [l0, l1, l2, l3, some (vJ a), l5, l6], [], S) = rn xX9_put (61, [l0, l1, l2, l3, some (vJ a), l5, l6], [vJ a], S) := rn_step dX9_put_59 rfl rfl
theorem eX9_put_61 {l0 l1 l2 l3 l4 l5 l6 : Option VV} {v0 : VV} {S : MM} : rn xX9_put (61, [l0, l1, l2, l3, l4, l5, l6], [v0], S) = rn xX9_put (62, [l0, l1, l2, l3, l4, l5, l6], [vJ 0, v0], S) := rn_step dX9_put_61 rfl rfl
theorem eX9_put_62 {a b : Nat} {l0 l1 l2 l3 l4 l5 l6 : Option VV} (h : a < 18446744073709551616) (h1 : b < 18446744073709551616) {S : MM} : rn xX9_put (62, [l0, l1, l2, l3, l4, l5, l6], [vJ b, vJ a], S) = rn xX9_put (63, [l0, l1, l2, l3, l4, l5, l6], [vI (if a = b then 0 else if sgn a < sgn b then -1 else 1)], S) := q_lcmp dX9_put_62 h h1
theorem eX9_put_63 {a : Int} {l0 l1 l2 l3 l4 l5 l6 : Option VV} (h : -2147483648 ≤ a ∧ a ≤ 2147483647) {S : MM} : rn xX9_put (63, [l0, l1, l2, l3, l4, l5, l6], [vI a], S) = if a = 0 then rn xX9_put (69, [l0, l1, l2, l3, l4, l5, l6], [], S) else rn xX9_put (66, [l0, l1, l2, l3, l4, l5, l6], [], S) := q_if_eq dX9_put_63 (by decide) rfl h
theorem eX9_put_66 {l0 l1 l2 l3 l4 l5 l6 : Option VV} {S : MM} : rn xX9_put (66, [l0, l1, l2, l3, l4, l5, l6], [], S) = rn xX9_put (68, [l0, l1, l2, l3, l4, l5, l6], [vI (-2)], S) := rn_step dX9_put_66 rfl rfl
theorem eX9_put_68 {z : Int} {l0 l1 l2 l3 l4 l5 l6 : Option VV} {S : MM} : rn xX9_put (68, [l0, l1, l2, l3, l4, l5, l6], [vI z], S) = some (some (vI z), S) := q_retI dX9_put_68 rfl
theorem eX9_put_69 {a : Option Nat} {l1 l2 l3 l4 l5 l6 : Option VV} {S : MM} : rn xX9_put (69, [some (.inr (.inl a)), l1, l2, l3, l4, l5, l6], [], S) = rn xX9_put (70, [some (.inr (.inl a)), l1, l2, l3, l4, l5, l6], [.inr (.inl a)], S) := rn_step dX9_put_69 rfl rfl
theorem eX9_put_70 {l0 l1 l2 l3 l4 l5 l6 : Option VV} {S : MM} : rn xX9_put (70, [l0, l1, l2, l3, l4, l5, l6], [vR 593], S) = rn xX9_put (73, [l0, l1, l2, l3, l4, l5, l6], [vI (S 593 11)], S) := q_getI dX9_put_70 rfl ⟨⟨by decide, by decide⟩, by decide⟩ kd593
theorem eX9_put_73 {a : Int} {l0 l1 l2 l4 l5 l6 : Option VV} {v0 : VV} {S : MM} : rn xX9_put (73, [l0, l1, l2, some (vI a), l4, l5, l6], [v0], S) = rn xX9_put (74, [l0, l1, l2, some (vI a), l4, l5, l6], [vI a, v0], S) := rn_step dX9_put_73 rfl rfl
theorem eX9_put_74 {a b : Int} {l0 l1 l2 l3 l4 l5 l6 : Option VV} {S : MM} : rn xX9_put (74, [l0, l1, l2, l3, l4, l5, l6], [vI b, vI a], S) = rn xX9_put (75, [l0, l1, l2, l3, l4, l5, l6], [vI (a + b)], S) := rn_step dX9_put_74 rfl rfl
theorem eX9_put_75 {l0 l1 l2 l3 l4 l5 l6 : Option VV} {v0 : VV} {S : MM} : rn xX9_put (75, [l0, l1, l2, l3, l4, l5, l6], [v0], S) = rn xX9_put (77, [l0, l1, l2, l3, l4, l5, l6], [vI 80, v0], S) := rn_step dX9_put_75 rfl rfl
theorem eX9_put_77 {a b : Int} {l0 l1 l2 l3 l4 l5 l6 : Option VV} (h : -2147483648 ≤ a ∧ a ≤ 2147483647) (h1 : -2147483648 ≤ b ∧ b ≤ 2147483647) {S : MM} : rn xX9_put (77, [l0, l1, l2, l3, l4, l5, l6], [vI b, vI a], S) = if b < a then rn xX9_put (80, [l0, l1, l2, l3, l4, l5, l6], [], S) else rn xX9_put (83, [l0, l1, l2, l3, l4, l5, l6], [], S) := q_icmp_le dX9_put_77 (by decide) rfl h h1
theorem eX9_put_80 {l0 l1 l2 l3 l4 l5 l6 : Option VV} {S : MM} : rn xX9_put (80, [l0, l1, l2, l3, l4, l5, l6], [], S) = rn xX9_put (82, [l0, l1, l2, l3, l4, l5, l6], [vI (-4)], S) := rn_step dX9_put_80 rfl rfl
theorem eX9_put_82 {z : Int} {l0 l1 l2 l3 l4 l5 l6 : Option VV} {S : MM} : rn xX9_put (82, [l0, l1, l2, l3, l4, l5, l6], [vI z], S) = some (some (vI z), S) := q_retI dX9_put_82 rfl
theorem eX9_put_83 {l0 l1 l2 l3 l4 l5 l6 : Option VV} {S : MM} : rn xX9_put (83, [l0, l1, l2, l3, l4, l5, l6], [], S) = rn xX9_put (84, [l0, l1, l2, l3, l4, l5, l6], [vI 0], S) := rn_step dX9_put_83 rfl rfl
theorem eX9_put_84 {a : Int} {l0 l1 l2 l3 l4 l6 : Option VV} {S : MM} : rn xX9_put (84, [l0, l1, l2, l3, l4, none, l6], [vI a], S) = rn xX9_put (86, [l0, l1, l2, l3, l4, none, some (vI a)], [], S) := rn_step dX9_put_84 rfl rfl
theorem eX9_put_86 {a : Int} {l0 l1 l2 l3 l4 l5 : Option VV} {S : MM} : rn xX9_put (86, [l0, l1, l2, l3, l4, l5, some (vI a)], [], S) = rn xX9_put (88, [l0, l1, l2, l3, l4, l5, some (vI a)], [vI a], S) := rn_step dX9_put_86 rfl rfl
theorem eX9_put_88 {a : Int} {l0 l1 l2 l4 l5 l6 : Option VV} {v0 : VV} {S : MM} : rn xX9_put (88, [l0, l1, l2, some (vI a), l4, l5, l6], [v0], S) = rn xX9_put (89, [l0, l1, l2, some (vI a), l4, l5, l6], [vI a, v0], S) := rn_step dX9_put_88 rfl rfl
theorem eX9_put_89 {a b : Int} {l0 l1 l2 l3 l4 l5 l6 : Option VV} (h : -2147483648 ≤ a ∧ a ≤ 2147483647) (h1 : -2147483648 ≤ b ∧ b ≤ 2147483647) {S : MM} : rn xX9_put (89, [l0, l1, l2, l3, l4, l5, l6], [vI b, vI a], S) = if a < b then rn xX9_put (92, [l0, l1, l2, l3, l4, l5, l6], [], S) else rn xX9_put (126, [l0, l1, l2, l3, l4, l5, l6], [], S) := q_icmp_ge dX9_put_89 (by decide) rfl h h1
theorem eX9_put_92 {a : Option Nat} {l1 l2 l3 l4 l5 l6 : Option VV} {S : MM} : rn xX9_put (92, [some (.inr (.inl a)), l1, l2, l3, l4, l5, l6], [], S) = rn xX9_put (93, [some (.inr (.inl a)), l1, l2, l3, l4, l5, l6], [.inr (.inl a)], S) := rn_step dX9_put_92 rfl rfl
theorem eX9_put_93 {l0 l1 l2 l3 l4 l5 l6 : Option VV} {S : MM} : rn xX9_put (93, [l0, l1, l2, l3, l4, l5, l6], [vR 593], S) = rn xX9_put (96, [l0, l1, l2, l3, l4, l5, l6], [vR 600], S) := q_getR dX9_put_93 rfl ⟨⟨by decide, by decide⟩, by decide⟩ (fun _ => by decide +kernel) kd593
theorem eX9_put_96 {a : Option Nat} {l1 l2 l3 l4 l5 l6 : Option VV} {v0 : VV} {S : MM} : rn xX9_put (96, [some (.inr (.inl a)), l1, l2, l3, l4, l5, l6], [v0], S) = rn xX9_put (97, [some (.inr (.inl a)), l1, l2, l3, l4, l5, l6], [.inr (.inl a), v0], S) := rn_step dX9_put_96 rfl rfl
theorem eX9_put_97 {l0 l1 l2 l3 l4 l5 l6 : Option VV} {v1 : VV} {S : MM} : rn xX9_put (97, [l0, l1, l2, l3, l4, l5, l6], [vR 593, v1], S) = rn xX9_put (100, [l0, l1, l2, l3, l4, l5, l6], [vI (S 593 11), v1], S) := q_getI dX9_put_97 rfl ⟨⟨by decide, by decide⟩, by decide⟩ kd593
theorem eX9_put_100 {a : Int} {l0 l1 l2 l3 l4 l5 : Option VV} {v0 v1 : VV} {S : MM} : rn xX9_put (100, [l0, l1, l2, l3, l4, l5, some (vI a)], [v0, v1], S) = rn xX9_put (102, [l0, l1, l2, l3, l4, l5, some (vI a)], [vI a, v0, v1], S) := rn_step dX9_put_100 rfl rfl
theorem eX9_put_102 {a b : Int} {l0 l1 l2 l3 l4 l5 l6 : Option VV} {v2 : VV} {S : MM} : rn xX9_put (102, [l0, l1, l2, l3, l4, l5, l6], [vI b, vI a, v2], S) = rn xX9_put (103, [l0, l1, l2, l3, l4, l5, l6], [vI (a + b), v2], S) := rn_step dX9_put_102 rfl rfl
theorem eX9_put_103 {a : Nat} {l0 l2 l3 l4 l5 l6 : Option VV} {v0 v1 : VV} {S : MM} : rn xX9_put (103, [l0, some (vJ a), l2, l3, l4, l5, l6], [v0, v1], S) = rn xX9_put (104, [l0, some (vJ a), l2, l3, l4, l5, l6], [vJ a, v0, v1], S) := rn_step dX9_put_103 rfl rfl
theorem eX9_put_104 {l0 l1 l2 l3 l4 l5 l6 : Option VV} {v0 v1 v2 : VV} {S : MM} : rn xX9_put (104, [l0, l1, l2, l3, l4, l5, l6], [v0, v1, v2], S) = rn xX9_put (106, [l0, l1, l2, l3, l4, l5, l6], [vI 8, v0, v1, v2], S) := rn_step dX9_put_104 rfl rfl
theorem eX9_put_106 {a : Int} {l0 l1 l2 l4 l5 l6 : Option VV} {v0 v1 v2 v3 : VV} {S : MM} : rn xX9_put (106, [l0, l1, l2, some (vI a), l4, l5, l6], [v0, v1, v2, v3], S) = rn xX9_put (107, [l0, l1, l2, some (vI a), l4, l5, l6], [vI a, v0, v1, v2, v3], S) := rn_step dX9_put_106 rfl rfl
theorem eX9_put_107 {l0 l1 l2 l3 l4 l5 l6 : Option VV} {v0 v1 v2 v3 v4 : VV} {S : MM} : rn xX9_put (107, [l0, l1, l2, l3, l4, l5, l6], [v0, v1, v2, v3, v4], S) = rn xX9_put (108, [l0, l1, l2, l3, l4, l5, l6], [vI 1, v0, v1, v2, v3, v4], S) := rn_step dX9_put_107 rfl rfl
theorem eX9_put_108 {a b : Int} {l0 l1 l2 l3 l4 l5 l6 : Option VV} {v2 v3 v4 v5 : VV} {S : MM} : rn xX9_put (108, [l0, l1, l2, l3, l4, l5, l6], [vI b, vI a, v2, v3, v4, v5], S) = rn xX9_put (109, [l0, l1, l2, l3, l4, l5, l6], [vI (a - b), v2, v3, v4, v5], S) := rn_step dX9_put_108 rfl rfl
theorem eX9_put_109 {a : Int} {l0 l1 l2 l3 l4 l5 : Option VV} {v0 v1 v2 v3 v4 : VV} {S : MM} : rn xX9_put (109, [l0, l1, l2, l3, l4, l5, some (vI a)], [v0, v1, v2, v3, v4], S) = rn xX9_put (111, [l0, l1, l2, l3, l4, l5, some (vI a)], [vI a, v0, v1, v2, v3, v4], S) := rn_step dX9_put_109 rfl rfl
theorem eX9_put_111 {a b : Int} {l0 l1 l2 l3 l4 l5 l6 : Option VV} {v2 v3 v4 v5 : VV} {S : MM} : rn xX9_put (111, [l0, l1, l2, l3, l4, l5, l6], [vI b, vI a, v2, v3, v4, v5], S) = rn xX9_put (112, [l0, l1, l2, l3, l4, l5, l6], [vI (a - b), v2, v3, v4, v5], S) := rn_step dX9_put_111 rfl rfl
theorem eX9_put_112 {a b : Int} {l0 l1 l2 l3 l4 l5 l6 : Option VV} {v2 v3 v4 : VV} {S : MM} : rn xX9_put (112, [l0, l1, l2, l3, l4, l5, l6], [vI b, vI a, v2, v3, v4], S) = rn xX9_put (113, [l0, l1, l2, l3, l4, l5, l6], [vI (a * b), v2, v3, v4], S) := rn_step dX9_put_112 rfl rfl
theorem eX9_put_113 {a : Nat} {k : Int} {l0 l1 l2 l3 l4 l5 l6 : Option VV} {v2 v3 : VV} (h : a < 18446744073709551616) (h0 : 0 ≤ k) (h1 : k < 64) {S : MM} : rn xX9_put (113, [l0, l1, l2, l3, l4, l5, l6], [vI k, vJ a, v2, v3], S) = rn xX9_put (114, [l0, l1, l2, l3, l4, l5, l6], [vJ ((sgn a / 2 ^ k.toNat % 18446744073709551616).toNat), v2, v3], S) := q_lshr dX9_put_113 h h0 h1
theorem eX9_put_114 {l0 l1 l2 l3 l4 l5 l6 : Option VV} {v0 v1 v2 : VV} {S : MM} : rn xX9_put (114, [l0, l1, l2, l3, l4, l5, l6], [v0, v1, v2], S) = rn xX9_put (117, [l0, l1, l2, l3, l4, l5, l6], [vJ 255, v0, v1, v2], S) := q_ldc2 dX9_put_114 rfl
theorem eX9_put_117 {a b : Nat} {l0 l1 l2 l3 l4 l5 l6 : Option VV} {v2 v3 : VV} (h : a < 18446744073709551616) (h1 : b < 18446744073709551616) {S : MM} : rn xX9_put (117, [l0, l1, l2, l3, l4, l5, l6], [vJ b, vJ a, v2, v3], S) = rn xX9_put (118, [l0, l1, l2, l3, l4, l5, l6], [vJ (a &&& b), v2, v3], S) := q_land dX9_put_117 h h1
theorem eX9_put_118 {a : Nat} {l0 l1 l2 l3 l4 l5 l6 : Option VV} {v1 v2 : VV} (h : a < 18446744073709551616) {S : MM} : rn xX9_put (118, [l0, l1, l2, l3, l4, l5, l6], [vJ a, v1, v2], S) = rn xX9_put (119, [l0, l1, l2, l3, l4, l5, l6], [vI (Int.bmod a 4294967296), v1, v2], S) := q_l2i dX9_put_118 h
theorem eX9_put_119 {i : Nat} {j z : Int} {l0 l1 l2 l3 l4 l5 l6 : Option VV} (h : kd i = 10) (h0 : 0 ≤ j) (h1 : j < alen i) {S : MM} : rn xX9_put (119, [l0, l1, l2, l3, l4, l5, l6], [vI z, vI j, vR i], S) = rn xX9_put (120, [l0, l1, l2, l3, l4, l5, l6], [], updM S i j.toNat z) := q_iast dX9_put_119 h h0 h1
theorem eX9_put_120 {a : Int} {l0 l1 l2 l3 l4 : Option VV} {S : MM} : rn xX9_put (120, [l0, l1, l2, l3, l4, none, some (vI a)], [], S) = rn xX9_put (123, [l0, l1, l2, l3, l4, none, some (vI (a + 1))], [], S) := rn_step dX9_put_120 rfl rfl
theorem eX9_put_123 {l0 l1 l2 l3 l4 l5 l6 : Option VV} {S : MM} : rn xX9_put (123, [l0, l1, l2, l3, l4, l5, l6], [], S) = rn xX9_put (86, [l0, l1, l2, l3, l4, l5, l6], [], S) := rn_step dX9_put_123 rfl rfl
theorem eX9_put_126 {a : Option Nat} {l1 l2 l3 l4 l5 l6 : Option VV} {S : MM} : rn xX9_put (126, [some (.inr (.inl a)), l1, l2, l3, l4, l5, l6], [], S) = rn xX9_put (127, [some (.inr (.inl a)), l1, l2, l3, l4, l5, l6], [.inr (.inl a)], S) := rn_step dX9_put_126 rfl rfl
theorem eX9_put_127 {a : Option Nat} {l0 l1 l2 l3 l4 l5 l6 : Option VV} {S : MM} : rn xX9_put (127, [l0, l1, l2, l3, l4, l5, l6], [.inr (.inl a)], S) = rn xX9_put (128, [l0, l1, l2, l3, l4, l5, l6], [.inr (.inl a), .inr (.inl a)], S) := rn_step dX9_put_127 rfl rfl
theorem eX9_put_128 {l0 l1 l2 l3 l4 l5 l6 : Option VV} {v1 : VV} {S : MM} : rn xX9_put (128, [l0, l1, l2, l3, l4, l5, l6], [vR 593, v1], S) = rn xX9_put (131, [l0, l1, l2, l3, l4, l5, l6], [vI (S 593 11), v1], S) := q_getI dX9_put_128 rfl ⟨⟨by decide, by decide⟩, by decide⟩ kd593
theorem eX9_put_131 {a : Int} {l0 l1 l2 l4 l5 l6 : Option VV} {v0 v1 : VV} {S : MM} : rn xX9_put (131, [l0, l1, l2, some (vI a), l4, l5, l6], [v0, v1], S) = rn xX9_put (132, [l0, l1, l2, some (vI a), l4, l5, l6], [vI a, v0, v1], S) := rn_step dX9_put_131 rfl rfl
theorem eX9_put_132 {a b : Int} {l0 l1 l2 l3 l4 l5 l6 : Option VV} {v2 : VV} {S : MM} : rn xX9_put (132, [l0, l1, l2, l3, l4, l5, l6], [vI b, vI a, v2], S) = rn xX9_put (133, [l0, l1, l2, l3, l4, l5, l6], [vI (a + b), v2], S) := rn_step dX9_put_132 rfl rfl
theorem eX9_put_133 {z : Int} {l0 l1 l2 l3 l4 l5 l6 : Option VV} {S : MM} : rn xX9_put (133, [l0, l1, l2, l3, l4, l5, l6], [vI z, vR 593], S) = rn xX9_put (136, [l0, l1, l2, l3, l4, l5, l6], [], updM S 593 11 z) := q_put dX9_put_133 rfl ⟨by decide, by decide⟩ rfl kd593
theorem eX9_put_136 {a : Option Nat} {l1 l2 l3 l4 l5 l6 : Option VV} {S : MM} : rn xX9_put (136, [some (.inr (.inl a)), l1, l2, l3, l4, l5, l6], [], S) = rn xX9_put (137, [some (.inr (.inl a)), l1, l2, l3, l4, l5, l6], [.inr (.inl a)], S) := rn_step dX9_put_136 rfl rfl
theorem eX9_put_137 {l0 l1 l2 l3 l4 l5 l6 : Option VV} {S : MM} : rn xX9_put (137, [l0, l1, l2, l3, l4, l5, l6], [vR 593], S) = rn xX9_put (140, [l0, l1, l2, l3, l4, l5, l6], [vI (S 593 11)], S) := q_getI dX9_put_137 rfl ⟨⟨by decide, by decide⟩, by decide⟩ kd593
theorem eX9_put_140 {z : Int} {l0 l1 l2 l3 l4 l5 l6 : Option VV} {S : MM} : rn xX9_put (140, [l0, l1, l2, l3, l4, l5, l6], [vI z], S) = some (some (vI z), S) := q_retI dX9_put_140 rfl
noncomputable def qlX9_wipe : List CE := []
noncomputable def xX9_wipe : XX := (cX9_wipe, fcF fcl9, mcF qlX9_wipe, 1)
noncomputable def fX9_wipe : FN := fnX xX9_wipe 2
set_option maxRecDepth 100000 in
theorem cwX9_wipe : Cond.code yX9_wipe cX9_wipe 2 (some .int) ∈ lw_g := lw_gm 1191 (by decide +kernel) (by decide +kernel)
set_option maxRecDepth 100000 in
theorem conX9_wipe : Con yX9_wipe cX9_wipe 2 (some .int) { frames := 0, cells := 0, slots := 0, locals := 0 } fX9_wipe := con_of (X := xX9_wipe) (own := "LeapStonesModel") (ql := qlX9_wipe) (by decide) rfl FOK9 rfl (fun _ h => absurd h List.not_mem_nil) (Or.inr (Or.inl ⟨rfl, rfl⟩))
theorem uX9_wipe {i : Nat} {S : MM} : fX9_wipe [vR i] S = rn xX9_wipe (0, [some (vR i), none], [], S) := rfl
theorem dX9_wipe_0 : decode cX9_wipe 0 = .ok (.aload_n 0, 1) := by decide +kernel
theorem dX9_wipe_1 : decode cX9_wipe 1 = .ok (.getfield 184, 3) := by decide +kernel
theorem dX9_wipe_4 : decode cX9_wipe 4 = .ok (.istore_n 1, 1) := by decide +kernel
theorem dX9_wipe_5 : decode cX9_wipe 5 = .ok (.aload_n 0, 1) := by decide +kernel
theorem dX9_wipe_6 : decode cX9_wipe 6 = .ok (.iconst 0, 1) := by decide +kernel
theorem dX9_wipe_7 : decode cX9_wipe 7 = .ok (.putfield 184, 3) := by decide +kernel
theorem dX9_wipe_10 : decode cX9_wipe 10 = .ok (.iload_n 1, 1) := by decide +kernel
theorem dX9_wipe_11 : decode cX9_wipe 11 = .ok (.ireturn, 1) := by decide +kernel
theorem eX9_wipe_0 {a : Option Nat} {l1 : Option VV} {S : MM} : rn xX9_wipe (0, [some (.inr (.inl a)), l1], [], S) = rn xX9_wipe (1, [some (.inr (.inl a)), l1], [.inr (.inl a)], S) := rn_step dX9_wipe_0 rfl rfl
theorem eX9_wipe_1 {l0 l1 : Option VV} {S : MM} : rn xX9_wipe (1, [l0, l1], [vR 593], S) = rn xX9_wipe (4, [l0, l1], [vI (S 593 11)], S) := q_getI dX9_wipe_1 rfl ⟨⟨by decide, by decide⟩, by decide⟩ kd593
theorem eX9_wipe_4 {a : Int} {w : Option Nat} {l1 : Option VV} {S : MM} : rn xX9_wipe (4, [some (.inr (.inl w)), l1], [vI a], S) = rn xX9_wipe (5, [some (.inr (.inl w)), some (vI a)], [], S) := rn_step dX9_wipe_4 rfl rfl
theorem eX9_wipe_5 {a : Option Nat} {l1 : Option VV} {S : MM} : rn xX9_wipe (5, [some (.inr (.inl a)), l1], [], S) = rn xX9_wipe (6, [some (.inr (.inl a)), l1], [.inr (.inl a)], S) := rn_step dX9_wipe_5 rfl rfl
theorem eX9_wipe_6 {l0 l1 : Option VV} {v0 : VV} {S : MM} : rn xX9_wipe (6, [l0, l1], [v0], S) = rn xX9_wipe (7, [l0, l1], [vI 0, v0], S) := rn_step dX9_wipe_6 rfl rfl
theorem eX9_wipe_7 {z : Int} {l0 l1 : Option VV} {S : MM} : rn xX9_wipe (7, [l0, l1], [vI z, vR 593], S) = rn xX9_wipe (10, [l0, l1], [], updM S 593 11 z) := q_put dX9_wipe_7 rfl ⟨by decide, by decide⟩ rfl kd593
theorem eX9_wipe_10 {a : Int} {l0 : Option VV} {S : MM} : rn xX9_wipe (10, [l0, some (vI a)], [], S) = rn xX9_wipe (11, [l0, some (vI a)], [vI a], S) := rn_step dX9_wipe_10 rfl rfl
theorem eX9_wipe_11 {z : Int} {l0 l1 : Option VV} {S : MM} : rn xX9_wipe (11, [l0, l1], [vI z], S) = some (some (vI z), S) := q_retI dX9_wipe_11 rfl
noncomputable def qlX9_next : List CE := []
noncomputable def xX9_next : XX := (cX9_next, fcF fcl9, mcF qlX9_next, 1)
noncomputable def fX9_next : FN := fnX xX9_next 1
set_option maxRecDepth 100000 in
theorem cwX9_next : Cond.code yX9_next cX9_next 1 (some .int) ∈ lw_g := lw_gm 1203 (by decide +kernel) (by decide +kernel)
set_option maxRecDepth 100000 in
theorem conX9_next : Con yX9_next cX9_next 1 (some .int) { frames := 0, cells := 0, slots := 0, locals := 0 } fX9_next := con_of (X := xX9_next) (own := "LeapStonesModel") (ql := qlX9_next) (by decide) rfl FOK9 rfl (fun _ h => absurd h List.not_mem_nil) (Or.inr (Or.inl ⟨rfl, rfl⟩))
theorem uX9_next {i : Nat} {S : MM} : fX9_next [vR i] S = rn xX9_next (0, [some (vR i)], [], S) := rfl
theorem dX9_next_0 : decode cX9_next 0 = .ok (.aload_n 0, 1) := by decide +kernel
theorem dX9_next_1 : decode cX9_next 1 = .ok (.getfield 201, 3) := by decide +kernel
theorem dX9_next_4 : decode cX9_next 4 = .ok (.aload_n 0, 1) := by decide +kernel
theorem dX9_next_5 : decode cX9_next 5 = .ok (.getfield 184, 3) := by decide +kernel
theorem dX9_next_8 : decode cX9_next 8 = .ok (.if_icmp .ge 15, 3) := by decide +kernel
theorem dX9_next_11 : decode cX9_next 11 = .ok (.aload_n 0, 1) := by decide +kernel
theorem dX9_next_12 : decode cX9_next 12 = .ok (.getfield 29, 3) := by decide +kernel
theorem dX9_next_15 : decode cX9_next 15 = .ok (.aload_n 0, 1) := by decide +kernel
theorem dX9_next_16 : decode cX9_next 16 = .ok (.getfield 201, 3) := by decide +kernel
theorem dX9_next_19 : decode cX9_next 19 = .ok (.iaload, 1) := by decide +kernel
theorem dX9_next_20 : decode cX9_next 20 = .ok (.goto 4, 3) := by decide +kernel
theorem dX9_next_23 : decode cX9_next 23 = .ok (.iconst 0, 1) := by decide +kernel
theorem dX9_next_24 : decode cX9_next 24 = .ok (.ireturn, 1) := by decide +kernel
theorem eX9_next_0 {a : Option Nat} {S : MM} : rn xX9_next (0, [some (.inr (.inl a))], [], S) = rn xX9_next (1, [some (.inr (.inl a))], [.inr (.inl a)], S) := rn_step dX9_next_0 rfl rfl
theorem eX9_next_1 {l0 : Option VV} {S : MM} : rn xX9_next (1, [l0], [vR 593], S) = rn xX9_next (4, [l0], [vI (S 593 12)], S) := q_getI dX9_next_1 rfl ⟨⟨by decide, by decide⟩, by decide⟩ kd593
theorem eX9_next_4 {a : Option Nat} {v0 : VV} {S : MM} : rn xX9_next (4, [some (.inr (.inl a))], [v0], S) = rn xX9_next (5, [some (.inr (.inl a))], [.inr (.inl a), v0], S) := rn_step dX9_next_4 rfl rfl
theorem eX9_next_5 {l0 : Option VV} {v1 : VV} {S : MM} : rn xX9_next (5, [l0], [vR 593, v1], S) = rn xX9_next (8, [l0], [vI (S 593 11), v1], S) := q_getI dX9_next_5 rfl ⟨⟨by decide, by decide⟩, by decide⟩ kd593
theorem eX9_next_8 {a b : Int} {l0 : Option VV} (h : -2147483648 ≤ a ∧ a ≤ 2147483647) (h1 : -2147483648 ≤ b ∧ b ≤ 2147483647) {S : MM} : rn xX9_next (8, [l0], [vI b, vI a], S) = if a < b then rn xX9_next (11, [l0], [], S) else rn xX9_next (23, [l0], [], S) := q_icmp_ge dX9_next_8 (by decide) rfl h h1
theorem eX9_next_11 {a : Option Nat} {S : MM} : rn xX9_next (11, [some (.inr (.inl a))], [], S) = rn xX9_next (12, [some (.inr (.inl a))], [.inr (.inl a)], S) := rn_step dX9_next_11 rfl rfl
theorem eX9_next_12 {l0 : Option VV} {S : MM} : rn xX9_next (12, [l0], [vR 593], S) = rn xX9_next (15, [l0], [vR 600], S) := q_getR dX9_next_12 rfl ⟨⟨by decide, by decide⟩, by decide⟩ (fun _ => by decide +kernel) kd593
theorem eX9_next_15 {a : Option Nat} {v0 : VV} {S : MM} : rn xX9_next (15, [some (.inr (.inl a))], [v0], S) = rn xX9_next (16, [some (.inr (.inl a))], [.inr (.inl a), v0], S) := rn_step dX9_next_15 rfl rfl
theorem eX9_next_16 {l0 : Option VV} {v1 : VV} {S : MM} : rn xX9_next (16, [l0], [vR 593, v1], S) = rn xX9_next (19, [l0], [vI (S 593 12), v1], S) := q_getI dX9_next_16 rfl ⟨⟨by decide, by decide⟩, by decide⟩ kd593
theorem eX9_next_19 {i : Nat} {j : Int} {l0 : Option VV} (h : kd i = 10) (h0 : 0 ≤ j) (h1 : j < alen i) {S : MM} : rn xX9_next (19, [l0], [vI j, vR i], S) = rn xX9_next (20, [l0], [vI (S i j.toNat)], S) := q_iald dX9_next_19 h h0 h1
theorem eX9_next_19x {j : Int} {l0 : Option VV} {S : MM} (h0 : 0 ≤ j) (h1 : j < S 604 0) : rn xX9_next (19, [l0], [vI j, vR 602], S) = rn xX9_next (20, [l0], [vI (S 602 j.toNat)], S) := q_ialdX dX9_next_19 h0 h1
theorem eX9_next_19y {j : Int} {l0 : Option VV} {S : MM} (h0 : 0 ≤ j) (h1 : j < S 604 1) : rn xX9_next (19, [l0], [vI j, vR 603], S) = rn xX9_next (20, [l0], [vI (S 603 j.toNat)], S) := q_ialdY dX9_next_19 h0 h1
theorem eX9_next_20 {l0 : Option VV} {v0 : VV} {S : MM} : rn xX9_next (20, [l0], [v0], S) = rn xX9_next (24, [l0], [v0], S) := rn_step dX9_next_20 rfl rfl
theorem eX9_next_23 {l0 : Option VV} {S : MM} : rn xX9_next (23, [l0], [], S) = rn xX9_next (24, [l0], [vI 0], S) := rn_step dX9_next_23 rfl rfl
theorem eX9_next_24 {z : Int} {l0 : Option VV} {S : MM} : rn xX9_next (24, [l0], [vI z], S) = some (some (vI z), S) := q_retI dX9_next_24 rfl
noncomputable def qlX9_takeSign : List CE := [(0, 208, 9, 1, fX9_next)]
noncomputable def xX9_takeSign : XX := (cX9_takeSign, fcF fcl9, mcF qlX9_takeSign, 0)
noncomputable def fX9_takeSign : FN := fnX xX9_takeSign 2
set_option maxRecDepth 100000 in
theorem cwX9_takeSign : Cond.code yX9_takeSign cX9_takeSign 2 none ∈ lw_g := lw_gm 1219 (by decide +kernel) (by decide +kernel)
set_option maxRecDepth 100000 in
theorem conX9_takeSign : Con yX9_takeSign cX9_takeSign 2 none { frames := 1, cells := 0, slots := 0, locals := 20 } fX9_takeSign := con_of (X := xX9_takeSign) (own := "LeapStonesModel") (ql := qlX9_takeSign) (by decide) rfl FOK9 rfl (List.forall_mem_cons.mpr ⟨call_V conX9_next cwX9_next (lw_gl _ [1200, 1202, 62, 84] (by decide +kernel) (by decide +kernel)) (by decide) rfl ⟨by decide, by decide, by decide +kernel⟩ ⟨rfl, rfl⟩ ⟨by decide, by decide⟩ ⟨Nat.le_refl _, Nat.le_refl _⟩, fun _ h => absurd h List.not_mem_nil⟩) (Or.inl ⟨rfl, rfl⟩)
theorem uX9_takeSign {i : Nat} {a0 : Int} {S : MM} : fX9_takeSign [vR i, vI a0] S = rn xX9_takeSign (0, [some (vR i), some (vI a0)], [], S) := rfl
theorem dX9_takeSign_0 : decode cX9_takeSign 0 = .ok (.aload_n 0, 1) := by decide +kernel
theorem dX9_takeSign_1 : decode cX9_takeSign 1 = .ok (.aload_n 0, 1) := by decide +kernel
theorem dX9_takeSign_2 : decode cX9_takeSign 2 = .ok (.getfield 204, 3) := by decide +kernel
theorem dX9_takeSign_5 : decode cX9_takeSign 5 = .ok (.ifCond .ne 11, 3) := by decide +kernel
theorem dX9_takeSign_8 : decode cX9_takeSign 8 = .ok (.aload_n 0, 1) := by decide +kernel
theorem dX9_takeSign_9 : decode cX9_takeSign 9 = .ok (.invokevirtual 208, 3) := by decide +kernel
theorem dX9_takeSign_12 : decode cX9_takeSign 12 = .ok (.iload_n 1, 1) := by decide +kernel
theorem dX9_takeSign_13 : decode cX9_takeSign 13 = .ok (.if_icmp .eq 7, 3) := by decide +kernel
theorem dX9_takeSign_16 : decode cX9_takeSign 16 = .ok (.iconst 1, 1) := by decide +kernel
theorem dX9_takeSign_17 : decode cX9_takeSign 17 = .ok (.goto 4, 3) := by decide +kernel
theorem dX9_takeSign_20 : decode cX9_takeSign 20 = .ok (.iconst 0, 1) := by decide +kernel
theorem dX9_takeSign_21 : decode cX9_takeSign 21 = .ok (.putfield 204, 3) := by decide +kernel
theorem dX9_takeSign_24 : decode cX9_takeSign 24 = .ok (.aload_n 0, 1) := by decide +kernel
theorem dX9_takeSign_25 : decode cX9_takeSign 25 = .ok (.dup, 1) := by decide +kernel
theorem dX9_takeSign_26 : decode cX9_takeSign 26 = .ok (.getfield 201, 3) := by decide +kernel
theorem dX9_takeSign_29 : decode cX9_takeSign 29 = .ok (.aload_n 0, 1) := by decide +kernel
theorem dX9_takeSign_30 : decode cX9_takeSign 30 = .ok (.getfield 204, 3) := by decide +kernel
theorem dX9_takeSign_33 : decode cX9_takeSign 33 = .ok (.ifCond .eq 7, 3) := by decide +kernel
theorem dX9_takeSign_36 : decode cX9_takeSign 36 = .ok (.iconst 0, 1) := by decide +kernel
theorem dX9_takeSign_37 : decode cX9_takeSign 37 = .ok (.goto 4, 3) := by decide +kernel
theorem dX9_takeSign_40 : decode cX9_takeSign 40 = .ok (.iconst 1, 1) := by decide +kernel
theorem dX9_takeSign_41 : decode cX9_takeSign 41 = .ok (.iadd, 1) := by decide +kernel
theorem dX9_takeSign_42 : decode cX9_takeSign 42 = .ok (.putfield 201, 3) := by decide +kernel
theorem dX9_takeSign_45 : decode cX9_takeSign 45 = .ok (.return_, 1) := by decide +kernel
theorem eX9_takeSign_0 {a : Option Nat} {l1 : Option VV} {S : MM} : rn xX9_takeSign (0, [some (.inr (.inl a)), l1], [], S) = rn xX9_takeSign (1, [some (.inr (.inl a)), l1], [.inr (.inl a)], S) := rn_step dX9_takeSign_0 rfl rfl
theorem eX9_takeSign_1 {a : Option Nat} {l1 : Option VV} {v0 : VV} {S : MM} : rn xX9_takeSign (1, [some (.inr (.inl a)), l1], [v0], S) = rn xX9_takeSign (2, [some (.inr (.inl a)), l1], [.inr (.inl a), v0], S) := rn_step dX9_takeSign_1 rfl rfl
theorem eX9_takeSign_2 {l0 l1 : Option VV} {v1 : VV} {S : MM} : rn xX9_takeSign (2, [l0, l1], [vR 593, v1], S) = rn xX9_takeSign (5, [l0, l1], [vI (S 593 13), v1], S) := q_getI dX9_takeSign_2 rfl ⟨⟨by decide, by decide⟩, by decide⟩ kd593
theorem eX9_takeSign_5 {a : Int} {l0 l1 : Option VV} {v1 : VV} (h : -2147483648 ≤ a ∧ a ≤ 2147483647) {S : MM} : rn xX9_takeSign (5, [l0, l1], [vI a, v1], S) = if a = 0 then rn xX9_takeSign (8, [l0, l1], [v1], S) else rn xX9_takeSign (16, [l0, l1], [v1], S) := q_if_ne dX9_takeSign_5 (by decide) rfl h
theorem eX9_takeSign_8 {a : Option Nat} {l1 : Option VV} {v0 : VV} {S : MM} : rn xX9_takeSign (8, [some (.inr (.inl a)), l1], [v0], S) = rn xX9_takeSign (9, [some (.inr (.inl a)), l1], [.inr (.inl a), v0], S) := rn_step dX9_takeSign_8 rfl rfl
theorem eX9_takeSign_9 {l0 l1 : Option VV} {v1 : VV} {S : MM} : rn xX9_takeSign (9, [l0, l1], [vR 593, v1], S) = (fX9_next [vR 593] S).bind (fun q => rn xX9_takeSign (12, [l0, l1], q.1.toList ++ [v1], q.2)) := q_callV (n := 0) (as := []) (rest := [v1]) dX9_takeSign_9 rfl rfl rfl rfl kd593
theorem eX9_takeSign_12 {a : Int} {l0 : Option VV} {v0 v1 : VV} {S : MM} : rn xX9_takeSign (12, [l0, some (vI a)], [v0, v1], S) = rn xX9_takeSign (13, [l0, some (vI a)], [vI a, v0, v1], S) := rn_step dX9_takeSign_12 rfl rfl
theorem eX9_takeSign_13 {a b : Int} {l0 l1 : Option VV} {v2 : VV} (h : -2147483648 ≤ a ∧ a ≤ 2147483647) (h1 : -2147483648 ≤ b ∧ b ≤ 2147483647) {S : MM} : rn xX9_takeSign (13, [l0, l1], [vI b, vI a, v2], S) = if a = b then rn xX9_takeSign (20, [l0, l1], [v2], S) else rn xX9_takeSign (16, [l0, l1], [v2], S) := q_icmp_eq dX9_takeSign_13 (by decide) rfl h h1
theorem eX9_takeSign_16 {l0 l1 : Option VV} {v0 : VV} {S : MM} : rn xX9_takeSign (16, [l0, l1], [v0], S) = rn xX9_takeSign (17, [l0, l1], [vI 1, v0], S) := rn_step dX9_takeSign_16 rfl rfl
theorem eX9_takeSign_17 {l0 l1 : Option VV} {v0 v1 : VV} {S : MM} : rn xX9_takeSign (17, [l0, l1], [v0, v1], S) = rn xX9_takeSign (21, [l0, l1], [v0, v1], S) := rn_step dX9_takeSign_17 rfl rfl
theorem eX9_takeSign_20 {l0 l1 : Option VV} {v0 : VV} {S : MM} : rn xX9_takeSign (20, [l0, l1], [v0], S) = rn xX9_takeSign (21, [l0, l1], [vI 0, v0], S) := rn_step dX9_takeSign_20 rfl rfl
theorem eX9_takeSign_21 {z : Int} {l0 l1 : Option VV} (hz : z = 0 ∨ z = 1) {S : MM} : rn xX9_takeSign (21, [l0, l1], [vI z, vR 593], S) = rn xX9_takeSign (24, [l0, l1], [], updM S 593 13 z) := q_put dX9_takeSign_21 rfl ⟨by decide, by decide⟩ (fit1 hz) kd593
theorem eX9_takeSign_24 {a : Option Nat} {l1 : Option VV} {S : MM} : rn xX9_takeSign (24, [some (.inr (.inl a)), l1], [], S) = rn xX9_takeSign (25, [some (.inr (.inl a)), l1], [.inr (.inl a)], S) := rn_step dX9_takeSign_24 rfl rfl
theorem eX9_takeSign_25 {a : Option Nat} {l0 l1 : Option VV} {S : MM} : rn xX9_takeSign (25, [l0, l1], [.inr (.inl a)], S) = rn xX9_takeSign (26, [l0, l1], [.inr (.inl a), .inr (.inl a)], S) := rn_step dX9_takeSign_25 rfl rfl
theorem eX9_takeSign_26 {l0 l1 : Option VV} {v1 : VV} {S : MM} : rn xX9_takeSign (26, [l0, l1], [vR 593, v1], S) = rn xX9_takeSign (29, [l0, l1], [vI (S 593 12), v1], S) := q_getI dX9_takeSign_26 rfl ⟨⟨by decide, by decide⟩, by decide⟩ kd593
theorem eX9_takeSign_29 {a : Option Nat} {l1 : Option VV} {v0 v1 : VV} {S : MM} : rn xX9_takeSign (29, [some (.inr (.inl a)), l1], [v0, v1], S) = rn xX9_takeSign (30, [some (.inr (.inl a)), l1], [.inr (.inl a), v0, v1], S) := rn_step dX9_takeSign_29 rfl rfl
theorem eX9_takeSign_30 {l0 l1 : Option VV} {v1 v2 : VV} {S : MM} : rn xX9_takeSign (30, [l0, l1], [vR 593, v1, v2], S) = rn xX9_takeSign (33, [l0, l1], [vI (S 593 13), v1, v2], S) := q_getI dX9_takeSign_30 rfl ⟨⟨by decide, by decide⟩, by decide⟩ kd593
theorem eX9_takeSign_33 {a : Int} {l0 l1 : Option VV} {v1 v2 : VV} (h : -2147483648 ≤ a ∧ a ≤ 2147483647) {S : MM} : rn xX9_takeSign (33, [l0, l1], [vI a, v1, v2], S) = if a = 0 then rn xX9_takeSign (40, [l0, l1], [v1, v2], S) else rn xX9_takeSign (36, [l0, l1], [v1, v2], S) := q_if_eq dX9_takeSign_33 (by decide) rfl h
theorem eX9_takeSign_36 {l0 l1 : Option VV} {v0 v1 : VV} {S : MM} : rn xX9_takeSign (36, [l0, l1], [v0, v1], S) = rn xX9_takeSign (37, [l0, l1], [vI 0, v0, v1], S) := rn_step dX9_takeSign_36 rfl rfl
theorem eX9_takeSign_37 {l0 l1 : Option VV} {v0 v1 v2 : VV} {S : MM} : rn xX9_takeSign (37, [l0, l1], [v0, v1, v2], S) = rn xX9_takeSign (41, [l0, l1], [v0, v1, v2], S) := rn_step dX9_takeSign_37 rfl rfl
theorem eX9_takeSign_40 {l0 l1 : Option VV} {v0 v1 : VV} {S : MM} : rn xX9_takeSign (40, [l0, l1], [v0, v1], S) = rn xX9_takeSign (41, [l0, l1], [vI 1, v0, v1], S) := rn_step dX9_takeSign_40 rfl rfl
theorem eX9_takeSign_41 {a b : Int} {l0 l1 : Option VV} {v2 : VV} {S : MM} : rn xX9_takeSign (41, [l0, l1], [vI b, vI a, v2], S) = rn xX9_takeSign (42, [l0, l1], [vI (a + b), v2], S) := rn_step dX9_takeSign_41 rfl rfl
theorem eX9_takeSign_42 {z : Int} {l0 l1 : Option VV} {S : MM} : rn xX9_takeSign (42, [l0, l1], [vI z, vR 593], S) = rn xX9_takeSign (45, [l0, l1], [], updM S 593 12 z) := q_put dX9_takeSign_42 rfl ⟨by decide, by decide⟩ rfl kd593
theorem eX9_takeSign_45 {l0 l1 : Option VV} {S : MM} : rn xX9_takeSign (45, [l0, l1], [], S) = some (none, S) := q_retV dX9_takeSign_45 rfl
noncomputable def qlX9_takesIf : List CE := [(0, 208, 9, 1, fX9_next)]
noncomputable def xX9_takesIf : XX := (cX9_takesIf, fcF fcl9, mcF qlX9_takesIf, 2)
noncomputable def fX9_takesIf : FN := fnX xX9_takesIf 3
set_option maxRecDepth 100000 in
theorem cwX9_takesIf : Cond.code yX9_takesIf cX9_takesIf 3 (some .boolean) ∈ lw_g := lw_gm 1211 (by decide +kernel) (by decide +kernel)
set_option maxRecDepth 100000 in
theorem conX9_takesIf : Con yX9_takesIf cX9_takesIf 3 (some .boolean) { frames := 1, cells := 0, slots := 0, locals := 20 } fX9_takesIf := con_of (X := xX9_takesIf) (own := "LeapStonesModel") (ql := qlX9_takesIf) (by decide) rfl FOK9 rfl (List.forall_mem_cons.mpr ⟨call_V conX9_next cwX9_next (lw_gl _ [1200, 1202, 62, 84] (by decide +kernel) (by decide +kernel)) (by decide) rfl ⟨by decide, by decide, by decide +kernel⟩ ⟨rfl, rfl⟩ ⟨by decide, by decide⟩ ⟨Nat.le_refl _, Nat.le_refl _⟩, fun _ h => absurd h List.not_mem_nil⟩) (Or.inr (Or.inr (Or.inl ⟨rfl, rfl⟩)))
theorem uX9_takesIf {i : Nat} {a0 : Int} {S : MM} : fX9_takesIf [vR i, vI a0] S = rn xX9_takesIf (0, [some (vR i), some (vI a0), none], [], S) := rfl
theorem dX9_takesIf_0 : decode cX9_takesIf 0 = .ok (.aload_n 0, 1) := by decide +kernel
theorem dX9_takesIf_1 : decode cX9_takesIf 1 = .ok (.getfield 204, 3) := by decide +kernel
theorem dX9_takesIf_4 : decode cX9_takesIf 4 = .ok (.ifCond .ne 15, 3) := by decide +kernel
theorem dX9_takesIf_7 : decode cX9_takesIf 7 = .ok (.aload_n 0, 1) := by decide +kernel
theorem dX9_takesIf_8 : decode cX9_takesIf 8 = .ok (.invokevirtual 208, 3) := by decide +kernel
theorem dX9_takesIf_11 : decode cX9_takesIf 11 = .ok (.iload_n 1, 1) := by decide +kernel
theorem dX9_takesIf_12 : decode cX9_takesIf 12 = .ok (.if_icmp .ne 7, 3) := by decide +kernel
theorem dX9_takesIf_15 : decode cX9_takesIf 15 = .ok (.iconst 1, 1) := by decide +kernel
theorem dX9_takesIf_16 : decode cX9_takesIf 16 = .ok (.goto 4, 3) := by decide +kernel
theorem dX9_takesIf_19 : decode cX9_takesIf 19 = .ok (.iconst 0, 1) := by decide +kernel
theorem dX9_takesIf_20 : decode cX9_takesIf 20 = .ok (.istore_n 2, 1) := by decide +kernel
theorem dX9_takesIf_21 : decode cX9_takesIf 21 = .ok (.aload_n 0, 1) := by decide +kernel
theorem dX9_takesIf_22 : decode cX9_takesIf 22 = .ok (.dup, 1) := by decide +kernel
theorem dX9_takesIf_23 : decode cX9_takesIf 23 = .ok (.getfield 201, 3) := by decide +kernel
theorem dX9_takesIf_26 : decode cX9_takesIf 26 = .ok (.iload_n 2, 1) := by decide +kernel
theorem dX9_takesIf_27 : decode cX9_takesIf 27 = .ok (.ifCond .eq 7, 3) := by decide +kernel
theorem dX9_takesIf_30 : decode cX9_takesIf 30 = .ok (.iconst 1, 1) := by decide +kernel
theorem dX9_takesIf_31 : decode cX9_takesIf 31 = .ok (.goto 4, 3) := by decide +kernel
theorem dX9_takesIf_34 : decode cX9_takesIf 34 = .ok (.iconst 0, 1) := by decide +kernel
theorem dX9_takesIf_35 : decode cX9_takesIf 35 = .ok (.iadd, 1) := by decide +kernel
theorem dX9_takesIf_36 : decode cX9_takesIf 36 = .ok (.putfield 201, 3) := by decide +kernel
theorem dX9_takesIf_39 : decode cX9_takesIf 39 = .ok (.iload_n 2, 1) := by decide +kernel
theorem dX9_takesIf_40 : decode cX9_takesIf 40 = .ok (.ireturn, 1) := by decide +kernel
theorem eX9_takesIf_0 {a : Option Nat} {l1 l2 : Option VV} {S : MM} : rn xX9_takesIf (0, [some (.inr (.inl a)), l1, l2], [], S) = rn xX9_takesIf (1, [some (.inr (.inl a)), l1, l2], [.inr (.inl a)], S) := rn_step dX9_takesIf_0 rfl rfl
theorem eX9_takesIf_1 {l0 l1 l2 : Option VV} {S : MM} : rn xX9_takesIf (1, [l0, l1, l2], [vR 593], S) = rn xX9_takesIf (4, [l0, l1, l2], [vI (S 593 13)], S) := q_getI dX9_takesIf_1 rfl ⟨⟨by decide, by decide⟩, by decide⟩ kd593
theorem eX9_takesIf_4 {a : Int} {l0 l1 l2 : Option VV} (h : -2147483648 ≤ a ∧ a ≤ 2147483647) {S : MM} : rn xX9_takesIf (4, [l0, l1, l2], [vI a], S) = if a = 0 then rn xX9_takesIf (7, [l0, l1, l2], [], S) else rn xX9_takesIf (19, [l0, l1, l2], [], S) := q_if_ne dX9_takesIf_4 (by decide) rfl h
theorem eX9_takesIf_7 {a : Option Nat} {l1 l2 : Option VV} {S : MM} : rn xX9_takesIf (7, [some (.inr (.inl a)), l1, l2], [], S) = rn xX9_takesIf (8, [some (.inr (.inl a)), l1, l2], [.inr (.inl a)], S) := rn_step dX9_takesIf_7 rfl rfl
theorem eX9_takesIf_8 {l0 l1 l2 : Option VV} {S : MM} : rn xX9_takesIf (8, [l0, l1, l2], [vR 593], S) = (fX9_next [vR 593] S).bind (fun q => rn xX9_takesIf (11, [l0, l1, l2], q.1.toList ++ [], q.2)) := q_callV (n := 0) (as := []) (rest := []) dX9_takesIf_8 rfl rfl rfl rfl kd593
theorem eX9_takesIf_11 {a : Int} {l0 l2 : Option VV} {v0 : VV} {S : MM} : rn xX9_takesIf (11, [l0, some (vI a), l2], [v0], S) = rn xX9_takesIf (12, [l0, some (vI a), l2], [vI a, v0], S) := rn_step dX9_takesIf_11 rfl rfl
theorem eX9_takesIf_12 {a b : Int} {l0 l1 l2 : Option VV} (h : -2147483648 ≤ a ∧ a ≤ 2147483647) (h1 : -2147483648 ≤ b ∧ b ≤ 2147483647) {S : MM} : rn xX9_takesIf (12, [l0, l1, l2], [vI b, vI a], S) = if a = b then rn xX9_takesIf (15, [l0, l1, l2], [], S) else rn xX9_takesIf (19, [l0, l1, l2], [], S) := q_icmp_ne dX9_takesIf_12 (by decide) rfl h h1
theorem eX9_takesIf_15 {l0 l1 l2 : Option VV} {S : MM} : rn xX9_takesIf (15, [l0, l1, l2], [], S) = rn xX9_takesIf (16, [l0, l1, l2], [vI 1], S) := rn_step dX9_takesIf_15 rfl rfl
theorem eX9_takesIf_16 {l0 l1 l2 : Option VV} {v0 : VV} {S : MM} : rn xX9_takesIf (16, [l0, l1, l2], [v0], S) = rn xX9_takesIf (20, [l0, l1, l2], [v0], S) := rn_step dX9_takesIf_16 rfl rfl
theorem eX9_takesIf_19 {l0 l1 l2 : Option VV} {S : MM} : rn xX9_takesIf (19, [l0, l1, l2], [], S) = rn xX9_takesIf (20, [l0, l1, l2], [vI 0], S) := rn_step dX9_takesIf_19 rfl rfl
theorem eX9_takesIf_20 {a : Int} {w : Int} {l0 l2 : Option VV} {S : MM} : rn xX9_takesIf (20, [l0, some (vI w), l2], [vI a], S) = rn xX9_takesIf (21, [l0, some (vI w), some (vI a)], [], S) := rn_step dX9_takesIf_20 rfl rfl
theorem eX9_takesIf_21 {a : Option Nat} {l1 l2 : Option VV} {S : MM} : rn xX9_takesIf (21, [some (.inr (.inl a)), l1, l2], [], S) = rn xX9_takesIf (22, [some (.inr (.inl a)), l1, l2], [.inr (.inl a)], S) := rn_step dX9_takesIf_21 rfl rfl
theorem eX9_takesIf_22 {a : Option Nat} {l0 l1 l2 : Option VV} {S : MM} : rn xX9_takesIf (22, [l0, l1, l2], [.inr (.inl a)], S) = rn xX9_takesIf (23, [l0, l1, l2], [.inr (.inl a), .inr (.inl a)], S) := rn_step dX9_takesIf_22 rfl rfl
theorem eX9_takesIf_23 {l0 l1 l2 : Option VV} {v1 : VV} {S : MM} : rn xX9_takesIf (23, [l0, l1, l2], [vR 593, v1], S) = rn xX9_takesIf (26, [l0, l1, l2], [vI (S 593 12), v1], S) := q_getI dX9_takesIf_23 rfl ⟨⟨by decide, by decide⟩, by decide⟩ kd593
theorem eX9_takesIf_26 {a : Int} {l0 l1 : Option VV} {v0 v1 : VV} {S : MM} : rn xX9_takesIf (26, [l0, l1, some (vI a)], [v0, v1], S) = rn xX9_takesIf (27, [l0, l1, some (vI a)], [vI a, v0, v1], S) := rn_step dX9_takesIf_26 rfl rfl
theorem eX9_takesIf_27 {a : Int} {l0 l1 l2 : Option VV} {v1 v2 : VV} (h : -2147483648 ≤ a ∧ a ≤ 2147483647) {S : MM} : rn xX9_takesIf (27, [l0, l1, l2], [vI a, v1, v2], S) = if a = 0 then rn xX9_takesIf (34, [l0, l1, l2], [v1, v2], S) else rn xX9_takesIf (30, [l0, l1, l2], [v1, v2], S) := q_if_eq dX9_takesIf_27 (by decide) rfl h
theorem eX9_takesIf_30 {l0 l1 l2 : Option VV} {v0 v1 : VV} {S : MM} : rn xX9_takesIf (30, [l0, l1, l2], [v0, v1], S) = rn xX9_takesIf (31, [l0, l1, l2], [vI 1, v0, v1], S) := rn_step dX9_takesIf_30 rfl rfl
theorem eX9_takesIf_31 {l0 l1 l2 : Option VV} {v0 v1 v2 : VV} {S : MM} : rn xX9_takesIf (31, [l0, l1, l2], [v0, v1, v2], S) = rn xX9_takesIf (35, [l0, l1, l2], [v0, v1, v2], S) := rn_step dX9_takesIf_31 rfl rfl
theorem eX9_takesIf_34 {l0 l1 l2 : Option VV} {v0 v1 : VV} {S : MM} : rn xX9_takesIf (34, [l0, l1, l2], [v0, v1], S) = rn xX9_takesIf (35, [l0, l1, l2], [vI 0, v0, v1], S) := rn_step dX9_takesIf_34 rfl rfl
theorem eX9_takesIf_35 {a b : Int} {l0 l1 l2 : Option VV} {v2 : VV} {S : MM} : rn xX9_takesIf (35, [l0, l1, l2], [vI b, vI a, v2], S) = rn xX9_takesIf (36, [l0, l1, l2], [vI (a + b), v2], S) := rn_step dX9_takesIf_35 rfl rfl
theorem eX9_takesIf_36 {z : Int} {l0 l1 l2 : Option VV} {S : MM} : rn xX9_takesIf (36, [l0, l1, l2], [vI z, vR 593], S) = rn xX9_takesIf (39, [l0, l1, l2], [], updM S 593 12 z) := q_put dX9_takesIf_36 rfl ⟨by decide, by decide⟩ rfl kd593
theorem eX9_takesIf_39 {a : Int} {l0 l1 : Option VV} {S : MM} : rn xX9_takesIf (39, [l0, l1, some (vI a)], [], S) = rn xX9_takesIf (40, [l0, l1, some (vI a)], [vI a], S) := rn_step dX9_takesIf_39 rfl rfl
theorem eX9_takesIf_40 {z : Int} {l0 l1 l2 : Option VV} (hz : z = 0 ∨ z = 1) {S : MM} : rn xX9_takesIf (40, [l0, l1, l2], [vI z], S) = some (some (vI z), S) := q_retZ dX9_takesIf_40 rfl hz

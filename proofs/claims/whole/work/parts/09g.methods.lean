noncomputable def qlX9_makeLeap : List CE := [(0, 103, 9, 2, fX9_placeInTurn), (0, 53, 9, 2, fX9_inTurn), (0, 57, 9, 2, fX9_stands), (0, 106, 9, 2, fX9_looksOf), (0, 70, 9, 3, fX9_firstFrom), (0, 73, 9, 1, fX9_lookRound)]
noncomputable def xX9_makeLeap : XX := (cX9_makeLeap, fcF fcl9, mcF qlX9_makeLeap, 1)
noncomputable def fX9_makeLeap : FN := fnX xX9_makeLeap 5
set_option maxRecDepth 100000 in
theorem cwX9_makeLeap : Cond.code yX9_makeLeap cX9_makeLeap 5 (some .int) ∈ lw_g := lw_gm 1002 (by decide +kernel) (by decide +kernel)
set_option maxRecDepth 100000 in
theorem conX9_makeLeap : Con yX9_makeLeap cX9_makeLeap 5 (some .int) { frames := 4, cells := 0, slots := 0, locals := 92 } fX9_makeLeap := con_of (X := xX9_makeLeap) (own := "LeapStonesModel") (ql := qlX9_makeLeap) (by decide) rfl FOK9 rfl (List.forall_mem_cons.mpr ⟨call_V conX9_placeInTurn cwX9_placeInTurn (lw_gl _ [1003, 1005, 33, 84] (by decide +kernel) (by decide +kernel)) (by decide) rfl ⟨by decide, by decide, by decide +kernel⟩ ⟨rfl, rfl⟩ ⟨by decide, by decide⟩ ⟨Nat.le_refl _, Nat.le_refl _⟩, List.forall_mem_cons.mpr ⟨call_V conX9_inTurn cwX9_inTurn (lw_gl _ [963, 965, 24, 84] (by decide +kernel) (by decide +kernel)) (by decide) rfl ⟨by decide, by decide, by decide +kernel⟩ ⟨rfl, rfl⟩ ⟨by decide, by decide⟩ ⟨Nat.le_refl _, Nat.le_refl _⟩, List.forall_mem_cons.mpr ⟨call_V conX9_stands cwX9_stands (lw_gl _ [975, 977, 27, 84] (by decide +kernel) (by decide +kernel)) (by decide) rfl ⟨by decide, by decide, by decide +kernel⟩ ⟨rfl, rfl⟩ ⟨by decide, by decide⟩ ⟨Nat.le_refl _, Nat.le_refl _⟩, List.forall_mem_cons.mpr ⟨call_V conX9_looksOf cwX9_looksOf (lw_gl _ [1007, 1009, 34, 84] (by decide +kernel) (by decide +kernel)) (by decide) rfl ⟨by decide, by decide, by decide +kernel⟩ ⟨rfl, rfl⟩ ⟨by decide, by decide⟩ ⟨Nat.le_refl _, Nat.le_refl _⟩, List.forall_mem_cons.mpr ⟨call_V conX9_firstFrom cwX9_firstFrom (lw_gl _ [955, 957, 22, 84] (by decide +kernel) (by decide +kernel)) (by decide) rfl ⟨by decide, by decide, by decide +kernel⟩ ⟨rfl, rfl⟩ ⟨by decide, by decide⟩ ⟨Nat.le_refl _, Nat.le_refl _⟩, List.forall_mem_cons.mpr ⟨call_V conX9_lookRound cwX9_lookRound (lw_gl _ [967, 969, 25, 84] (by decide +kernel) (by decide +kernel)) (by decide) rfl ⟨by decide, by decide, by decide +kernel⟩ ⟨rfl, rfl⟩ ⟨by decide, by decide⟩ ⟨Nat.le_refl _, Nat.le_refl _⟩, fun _ h => absurd h List.not_mem_nil⟩⟩⟩⟩⟩⟩) (Or.inr (Or.inl ⟨rfl, rfl⟩))
theorem uX9_makeLeap {i : Nat} {S : MM} : fX9_makeLeap [vR i] S = rn xX9_makeLeap (0, [some (vR i), none, none, none, none], [], S) := rfl
theorem dX9_makeLeap_0 : decode cX9_makeLeap 0 = .ok (.aload_n 0, 1) := by decide +kernel
theorem dX9_makeLeap_1 : decode cX9_makeLeap 1 = .ok (.aload_n 0, 1) := by decide +kernel
theorem dX9_makeLeap_2 : decode cX9_makeLeap 2 = .ok (.getfield 7, 3) := by decide +kernel
theorem dX9_makeLeap_5 : decode cX9_makeLeap 5 = .ok (.bipush 6, 2) := by decide +kernel
theorem dX9_makeLeap_7 : decode cX9_makeLeap 7 = .ok (.iaload, 1) := by decide +kernel
theorem dX9_makeLeap_8 : decode cX9_makeLeap 8 = .ok (.invokevirtual 103, 3) := by decide +kernel
theorem dX9_makeLeap_11 : decode cX9_makeLeap 11 = .ok (.istore_n 1, 1) := by decide +kernel
theorem dX9_makeLeap_12 : decode cX9_makeLeap 12 = .ok (.aload_n 0, 1) := by decide +kernel
theorem dX9_makeLeap_13 : decode cX9_makeLeap 13 = .ok (.aload_n 0, 1) := by decide +kernel
theorem dX9_makeLeap_14 : decode cX9_makeLeap 14 = .ok (.iload_n 1, 1) := by decide +kernel
theorem dX9_makeLeap_15 : decode cX9_makeLeap 15 = .ok (.invokevirtual 53, 3) := by decide +kernel
theorem dX9_makeLeap_18 : decode cX9_makeLeap 18 = .ok (.invokevirtual 57, 3) := by decide +kernel
theorem dX9_makeLeap_21 : decode cX9_makeLeap 21 = .ok (.aload_n 0, 1) := by decide +kernel
theorem dX9_makeLeap_22 : decode cX9_makeLeap 22 = .ok (.getfield 7, 3) := by decide +kernel
theorem dX9_makeLeap_25 : decode cX9_makeLeap 25 = .ok (.iconst 5, 1) := by decide +kernel
theorem dX9_makeLeap_26 : decode cX9_makeLeap 26 = .ok (.iaload, 1) := by decide +kernel
theorem dX9_makeLeap_27 : decode cX9_makeLeap 27 = .ok (.if_icmp .lt 12, 3) := by decide +kernel
theorem dX9_makeLeap_30 : decode cX9_makeLeap 30 = .ok (.iload_n 1, 1) := by decide +kernel
theorem dX9_makeLeap_31 : decode cX9_makeLeap 31 = .ok (.iconst 1, 1) := by decide +kernel
theorem dX9_makeLeap_32 : decode cX9_makeLeap 32 = .ok (.iadd, 1) := by decide +kernel
theorem dX9_makeLeap_33 : decode cX9_makeLeap 33 = .ok (.iconst 3, 1) := by decide +kernel
theorem dX9_makeLeap_34 : decode cX9_makeLeap 34 = .ok (.irem, 1) := by decide +kernel
theorem dX9_makeLeap_35 : decode cX9_makeLeap 35 = .ok (.istore_n 1, 1) := by decide +kernel
theorem dX9_makeLeap_36 : decode cX9_makeLeap 36 = .ok (.goto (-24), 3) := by decide +kernel
theorem dX9_makeLeap_39 : decode cX9_makeLeap 39 = .ok (.aload_n 0, 1) := by decide +kernel
theorem dX9_makeLeap_40 : decode cX9_makeLeap 40 = .ok (.iload_n 1, 1) := by decide +kernel
theorem dX9_makeLeap_41 : decode cX9_makeLeap 41 = .ok (.invokevirtual 53, 3) := by decide +kernel
theorem dX9_makeLeap_44 : decode cX9_makeLeap 44 = .ok (.istore_n 2, 1) := by decide +kernel
theorem dX9_makeLeap_45 : decode cX9_makeLeap 45 = .ok (.aload_n 0, 1) := by decide +kernel
theorem dX9_makeLeap_46 : decode cX9_makeLeap 46 = .ok (.getfield 7, 3) := by decide +kernel
theorem dX9_makeLeap_49 : decode cX9_makeLeap 49 = .ok (.bipush 11, 2) := by decide +kernel
theorem dX9_makeLeap_51 : decode cX9_makeLeap 51 = .ok (.iload_n 2, 1) := by decide +kernel
theorem dX9_makeLeap_52 : decode cX9_makeLeap 52 = .ok (.iadd, 1) := by decide +kernel
theorem dX9_makeLeap_53 : decode cX9_makeLeap 53 = .ok (.dup2, 1) := by decide +kernel
theorem dX9_makeLeap_54 : decode cX9_makeLeap 54 = .ok (.iaload, 1) := by decide +kernel
theorem dX9_makeLeap_55 : decode cX9_makeLeap 55 = .ok (.aload_n 0, 1) := by decide +kernel
theorem dX9_makeLeap_56 : decode cX9_makeLeap 56 = .ok (.iload_n 2, 1) := by decide +kernel
theorem dX9_makeLeap_57 : decode cX9_makeLeap 57 = .ok (.invokevirtual 106, 3) := by decide +kernel
theorem dX9_makeLeap_60 : decode cX9_makeLeap 60 = .ok (.iadd, 1) := by decide +kernel
theorem dX9_makeLeap_61 : decode cX9_makeLeap 61 = .ok (.iastore, 1) := by decide +kernel
theorem dX9_makeLeap_62 : decode cX9_makeLeap 62 = .ok (.aload_n 0, 1) := by decide +kernel
theorem dX9_makeLeap_63 : decode cX9_makeLeap 63 = .ok (.getfield 7, 3) := by decide +kernel
theorem dX9_makeLeap_66 : decode cX9_makeLeap 66 = .ok (.bipush 8, 2) := by decide +kernel
theorem dX9_makeLeap_68 : decode cX9_makeLeap 68 = .ok (.iload_n 2, 1) := by decide +kernel
theorem dX9_makeLeap_69 : decode cX9_makeLeap 69 = .ok (.iadd, 1) := by decide +kernel
theorem dX9_makeLeap_70 : decode cX9_makeLeap 70 = .ok (.dup2, 1) := by decide +kernel
theorem dX9_makeLeap_71 : decode cX9_makeLeap 71 = .ok (.iaload, 1) := by decide +kernel
theorem dX9_makeLeap_72 : decode cX9_makeLeap 72 = .ok (.iconst 1, 1) := by decide +kernel
theorem dX9_makeLeap_73 : decode cX9_makeLeap 73 = .ok (.iadd, 1) := by decide +kernel
theorem dX9_makeLeap_74 : decode cX9_makeLeap 74 = .ok (.iastore, 1) := by decide +kernel
theorem dX9_makeLeap_75 : decode cX9_makeLeap 75 = .ok (.aload_n 0, 1) := by decide +kernel
theorem dX9_makeLeap_76 : decode cX9_makeLeap 76 = .ok (.iload_n 2, 1) := by decide +kernel
theorem dX9_makeLeap_77 : decode cX9_makeLeap 77 = .ok (.invokevirtual 57, 3) := by decide +kernel
theorem dX9_makeLeap_80 : decode cX9_makeLeap 80 = .ok (.istore_n 3, 1) := by decide +kernel
theorem dX9_makeLeap_81 : decode cX9_makeLeap 81 = .ok (.aload_n 0, 1) := by decide +kernel
theorem dX9_makeLeap_82 : decode cX9_makeLeap 82 = .ok (.iload_n 2, 1) := by decide +kernel
theorem dX9_makeLeap_83 : decode cX9_makeLeap 83 = .ok (.aload_n 0, 1) := by decide +kernel
theorem dX9_makeLeap_84 : decode cX9_makeLeap 84 = .ok (.getfield 7, 3) := by decide +kernel
theorem dX9_makeLeap_87 : decode cX9_makeLeap 87 = .ok (.iconst 5, 1) := by decide +kernel
theorem dX9_makeLeap_88 : decode cX9_makeLeap 88 = .ok (.iaload, 1) := by decide +kernel
theorem dX9_makeLeap_89 : decode cX9_makeLeap 89 = .ok (.invokevirtual 70, 3) := by decide +kernel
theorem dX9_makeLeap_92 : decode cX9_makeLeap 92 = .ok (.istore 4, 2) := by decide +kernel
theorem dX9_makeLeap_94 : decode cX9_makeLeap 94 = .ok (.aload_n 0, 1) := by decide +kernel
theorem dX9_makeLeap_95 : decode cX9_makeLeap 95 = .ok (.getfield 7, 3) := by decide +kernel
theorem dX9_makeLeap_98 : decode cX9_makeLeap 98 = .ok (.bipush 20, 2) := by decide +kernel
theorem dX9_makeLeap_100 : decode cX9_makeLeap 100 = .ok (.iload_n 2, 1) := by decide +kernel
theorem dX9_makeLeap_101 : decode cX9_makeLeap 101 = .ok (.iadd, 1) := by decide +kernel
theorem dX9_makeLeap_102 : decode cX9_makeLeap 102 = .ok (.iload 4, 2) := by decide +kernel
theorem dX9_makeLeap_104 : decode cX9_makeLeap 104 = .ok (.iastore, 1) := by decide +kernel
theorem dX9_makeLeap_105 : decode cX9_makeLeap 105 = .ok (.iload 4, 2) := by decide +kernel
theorem dX9_makeLeap_107 : decode cX9_makeLeap 107 = .ok (.sipush 300, 3) := by decide +kernel
theorem dX9_makeLeap_110 : decode cX9_makeLeap 110 = .ok (.if_icmp .ge 32, 3) := by decide +kernel
theorem dX9_makeLeap_113 : decode cX9_makeLeap 113 = .ok (.iload 4, 2) := by decide +kernel
theorem dX9_makeLeap_115 : decode cX9_makeLeap 115 = .ok (.iload_n 3, 1) := by decide +kernel
theorem dX9_makeLeap_116 : decode cX9_makeLeap 116 = .ok (.isub, 1) := by decide +kernel
theorem dX9_makeLeap_117 : decode cX9_makeLeap 117 = .ok (.aload_n 0, 1) := by decide +kernel
theorem dX9_makeLeap_118 : decode cX9_makeLeap 118 = .ok (.getfield 7, 3) := by decide +kernel
theorem dX9_makeLeap_121 : decode cX9_makeLeap 121 = .ok (.bipush 17, 2) := by decide +kernel
theorem dX9_makeLeap_123 : decode cX9_makeLeap 123 = .ok (.iload_n 2, 1) := by decide +kernel
theorem dX9_makeLeap_124 : decode cX9_makeLeap 124 = .ok (.iadd, 1) := by decide +kernel
theorem dX9_makeLeap_125 : decode cX9_makeLeap 125 = .ok (.iaload, 1) := by decide +kernel
theorem dX9_makeLeap_126 : decode cX9_makeLeap 126 = .ok (.if_icmp .le 16, 3) := by decide +kernel
theorem dX9_makeLeap_129 : decode cX9_makeLeap 129 = .ok (.aload_n 0, 1) := by decide +kernel
theorem dX9_makeLeap_130 : decode cX9_makeLeap 130 = .ok (.getfield 7, 3) := by decide +kernel
theorem dX9_makeLeap_133 : decode cX9_makeLeap 133 = .ok (.bipush 17, 2) := by decide +kernel
theorem dX9_makeLeap_135 : decode cX9_makeLeap 135 = .ok (.iload_n 2, 1) := by decide +kernel
theorem dX9_makeLeap_136 : decode cX9_makeLeap 136 = .ok (.iadd, 1) := by decide +kernel
theorem dX9_makeLeap_137 : decode cX9_makeLeap 137 = .ok (.iload 4, 2) := by decide +kernel
theorem dX9_makeLeap_139 : decode cX9_makeLeap 139 = .ok (.iload_n 3, 1) := by decide +kernel
theorem dX9_makeLeap_140 : decode cX9_makeLeap 140 = .ok (.isub, 1) := by decide +kernel
theorem dX9_makeLeap_141 : decode cX9_makeLeap 141 = .ok (.iastore, 1) := by decide +kernel
theorem dX9_makeLeap_142 : decode cX9_makeLeap 142 = .ok (.aload_n 0, 1) := by decide +kernel
theorem dX9_makeLeap_143 : decode cX9_makeLeap 143 = .ok (.getfield 7, 3) := by decide +kernel
theorem dX9_makeLeap_146 : decode cX9_makeLeap 146 = .ok (.bipush 6, 2) := by decide +kernel
theorem dX9_makeLeap_148 : decode cX9_makeLeap 148 = .ok (.aload_n 0, 1) := by decide +kernel
theorem dX9_makeLeap_149 : decode cX9_makeLeap 149 = .ok (.iload_n 1, 1) := by decide +kernel
theorem dX9_makeLeap_150 : decode cX9_makeLeap 150 = .ok (.iconst 1, 1) := by decide +kernel
theorem dX9_makeLeap_151 : decode cX9_makeLeap 151 = .ok (.iadd, 1) := by decide +kernel
theorem dX9_makeLeap_152 : decode cX9_makeLeap 152 = .ok (.iconst 3, 1) := by decide +kernel
theorem dX9_makeLeap_153 : decode cX9_makeLeap 153 = .ok (.irem, 1) := by decide +kernel
theorem dX9_makeLeap_154 : decode cX9_makeLeap 154 = .ok (.invokevirtual 53, 3) := by decide +kernel
theorem dX9_makeLeap_157 : decode cX9_makeLeap 157 = .ok (.iastore, 1) := by decide +kernel
theorem dX9_makeLeap_158 : decode cX9_makeLeap 158 = .ok (.aload_n 0, 1) := by decide +kernel
theorem dX9_makeLeap_159 : decode cX9_makeLeap 159 = .ok (.invokevirtual 73, 3) := by decide +kernel
theorem dX9_makeLeap_162 : decode cX9_makeLeap 162 = .ok (.iload_n 2, 1) := by decide +kernel
theorem dX9_makeLeap_163 : decode cX9_makeLeap 163 = .ok (.ireturn, 1) := by decide +kernel
theorem eX9_makeLeap_0 {a : Option Nat} {l1 l2 l3 l4 : Option VV} {S : MM} : rn xX9_makeLeap (0, [some (.inr (.inl a)), l1, l2, l3, l4], [], S) = rn xX9_makeLeap (1, [some (.inr (.inl a)), l1, l2, l3, l4], [.inr (.inl a)], S) := rn_step dX9_makeLeap_0 rfl rfl
theorem eX9_makeLeap_1 {a : Option Nat} {l1 l2 l3 l4 : Option VV} {v0 : VV} {S : MM} : rn xX9_makeLeap (1, [some (.inr (.inl a)), l1, l2, l3, l4], [v0], S) = rn xX9_makeLeap (2, [some (.inr (.inl a)), l1, l2, l3, l4], [.inr (.inl a), v0], S) := rn_step dX9_makeLeap_1 rfl rfl
theorem eX9_makeLeap_2 {l0 l1 l2 l3 l4 : Option VV} {v1 : VV} {S : MM} : rn xX9_makeLeap (2, [l0, l1, l2, l3, l4], [vR 593, v1], S) = rn xX9_makeLeap (5, [l0, l1, l2, l3, l4], [vR 594, v1], S) := q_getR dX9_makeLeap_2 rfl ⟨⟨by decide, by decide⟩, by decide⟩ (fun _ => by decide +kernel) kd593
theorem eX9_makeLeap_5 {l0 l1 l2 l3 l4 : Option VV} {v0 v1 : VV} {S : MM} : rn xX9_makeLeap (5, [l0, l1, l2, l3, l4], [v0, v1], S) = rn xX9_makeLeap (7, [l0, l1, l2, l3, l4], [vI 6, v0, v1], S) := rn_step dX9_makeLeap_5 rfl rfl
theorem eX9_makeLeap_7 {i : Nat} {j : Int} {l0 l1 l2 l3 l4 : Option VV} {v2 : VV} (h : kd i = 10) (h0 : 0 ≤ j) (h1 : j < alen i) {S : MM} : rn xX9_makeLeap (7, [l0, l1, l2, l3, l4], [vI j, vR i, v2], S) = rn xX9_makeLeap (8, [l0, l1, l2, l3, l4], [vI (S i j.toNat), v2], S) := q_iald dX9_makeLeap_7 h h0 h1
theorem eX9_makeLeap_7x {j : Int} {l0 l1 l2 l3 l4 : Option VV} {v2 : VV} {S : MM} (h0 : 0 ≤ j) (h1 : j < S 604 0) : rn xX9_makeLeap (7, [l0, l1, l2, l3, l4], [vI j, vR 602, v2], S) = rn xX9_makeLeap (8, [l0, l1, l2, l3, l4], [vI (S 602 j.toNat), v2], S) := q_ialdX dX9_makeLeap_7 h0 h1
theorem eX9_makeLeap_7y {j : Int} {l0 l1 l2 l3 l4 : Option VV} {v2 : VV} {S : MM} (h0 : 0 ≤ j) (h1 : j < S 604 1) : rn xX9_makeLeap (7, [l0, l1, l2, l3, l4], [vI j, vR 603, v2], S) = rn xX9_makeLeap (8, [l0, l1, l2, l3, l4], [vI (S 603 j.toNat), v2], S) := q_ialdY dX9_makeLeap_7 h0 h1
theorem eX9_makeLeap_8 {a0 : Int} {l0 l1 l2 l3 l4 : Option VV} {S : MM} : rn xX9_makeLeap (8, [l0, l1, l2, l3, l4], [vI a0, vR 593], S) = (fX9_placeInTurn [vR 593, vI a0] S).bind (fun q => rn xX9_makeLeap (11, [l0, l1, l2, l3, l4], q.1.toList ++ [], q.2)) := q_callV (n := 1) (as := [vI a0]) (rest := []) dX9_makeLeap_8 rfl rfl rfl rfl kd593
theorem eX9_makeLeap_11 {a : Int} {w : Option Nat} {l1 l2 l3 l4 : Option VV} {S : MM} : rn xX9_makeLeap (11, [some (.inr (.inl w)), l1, l2, l3, l4], [vI a], S) = rn xX9_makeLeap (12, [some (.inr (.inl w)), some (vI a), l2, l3, l4], [], S) := rn_step dX9_makeLeap_11 rfl rfl
theorem eX9_makeLeap_12 {a : Option Nat} {l1 l2 l3 l4 : Option VV} {S : MM} : rn xX9_makeLeap (12, [some (.inr (.inl a)), l1, l2, l3, l4], [], S) = rn xX9_makeLeap (13, [some (.inr (.inl a)), l1, l2, l3, l4], [.inr (.inl a)], S) := rn_step dX9_makeLeap_12 rfl rfl
theorem eX9_makeLeap_13 {a : Option Nat} {l1 l2 l3 l4 : Option VV} {v0 : VV} {S : MM} : rn xX9_makeLeap (13, [some (.inr (.inl a)), l1, l2, l3, l4], [v0], S) = rn xX9_makeLeap (14, [some (.inr (.inl a)), l1, l2, l3, l4], [.inr (.inl a), v0], S) := rn_step dX9_makeLeap_13 rfl rfl
theorem eX9_makeLeap_14 {a : Int} {l0 l2 l3 l4 : Option VV} {v0 v1 : VV} {S : MM} : rn xX9_makeLeap (14, [l0, some (vI a), l2, l3, l4], [v0, v1], S) = rn xX9_makeLeap (15, [l0, some (vI a), l2, l3, l4], [vI a, v0, v1], S) := rn_step dX9_makeLeap_14 rfl rfl
theorem eX9_makeLeap_15 {a0 : Int} {l0 l1 l2 l3 l4 : Option VV} {v2 : VV} {S : MM} : rn xX9_makeLeap (15, [l0, l1, l2, l3, l4], [vI a0, vR 593, v2], S) = (fX9_inTurn [vR 593, vI a0] S).bind (fun q => rn xX9_makeLeap (18, [l0, l1, l2, l3, l4], q.1.toList ++ [v2], q.2)) := q_callV (n := 1) (as := [vI a0]) (rest := [v2]) dX9_makeLeap_15 rfl rfl rfl rfl kd593
theorem eX9_makeLeap_18 {a0 : Int} {l0 l1 l2 l3 l4 : Option VV} {S : MM} : rn xX9_makeLeap (18, [l0, l1, l2, l3, l4], [vI a0, vR 593], S) = (fX9_stands [vR 593, vI a0] S).bind (fun q => rn xX9_makeLeap (21, [l0, l1, l2, l3, l4], q.1.toList ++ [], q.2)) := q_callV (n := 1) (as := [vI a0]) (rest := []) dX9_makeLeap_18 rfl rfl rfl rfl kd593
theorem eX9_makeLeap_21 {a : Option Nat} {l1 l2 l3 l4 : Option VV} {v0 : VV} {S : MM} : rn xX9_makeLeap (21, [some (.inr (.inl a)), l1, l2, l3, l4], [v0], S) = rn xX9_makeLeap (22, [some (.inr (.inl a)), l1, l2, l3, l4], [.inr (.inl a), v0], S) := rn_step dX9_makeLeap_21 rfl rfl
theorem eX9_makeLeap_22 {l0 l1 l2 l3 l4 : Option VV} {v1 : VV} {S : MM} : rn xX9_makeLeap (22, [l0, l1, l2, l3, l4], [vR 593, v1], S) = rn xX9_makeLeap (25, [l0, l1, l2, l3, l4], [vR 594, v1], S) := q_getR dX9_makeLeap_22 rfl ⟨⟨by decide, by decide⟩, by decide⟩ (fun _ => by decide +kernel) kd593
theorem eX9_makeLeap_25 {l0 l1 l2 l3 l4 : Option VV} {v0 v1 : VV} {S : MM} : rn xX9_makeLeap (25, [l0, l1, l2, l3, l4], [v0, v1], S) = rn xX9_makeLeap (26, [l0, l1, l2, l3, l4], [vI 5, v0, v1], S) := rn_step dX9_makeLeap_25 rfl rfl
theorem eX9_makeLeap_26 {i : Nat} {j : Int} {l0 l1 l2 l3 l4 : Option VV} {v2 : VV} (h : kd i = 10) (h0 : 0 ≤ j) (h1 : j < alen i) {S : MM} : rn xX9_makeLeap (26, [l0, l1, l2, l3, l4], [vI j, vR i, v2], S) = rn xX9_makeLeap (27, [l0, l1, l2, l3, l4], [vI (S i j.toNat), v2], S) := q_iald dX9_makeLeap_26 h h0 h1
theorem eX9_makeLeap_26x {j : Int} {l0 l1 l2 l3 l4 : Option VV} {v2 : VV} {S : MM} (h0 : 0 ≤ j) (h1 : j < S 604 0) : rn xX9_makeLeap (26, [l0, l1, l2, l3, l4], [vI j, vR 602, v2], S) = rn xX9_makeLeap (27, [l0, l1, l2, l3, l4], [vI (S 602 j.toNat), v2], S) := q_ialdX dX9_makeLeap_26 h0 h1
theorem eX9_makeLeap_26y {j : Int} {l0 l1 l2 l3 l4 : Option VV} {v2 : VV} {S : MM} (h0 : 0 ≤ j) (h1 : j < S 604 1) : rn xX9_makeLeap (26, [l0, l1, l2, l3, l4], [vI j, vR 603, v2], S) = rn xX9_makeLeap (27, [l0, l1, l2, l3, l4], [vI (S 603 j.toNat), v2], S) := q_ialdY dX9_makeLeap_26 h0 h1
theorem eX9_makeLeap_27 {a b : Int} {l0 l1 l2 l3 l4 : Option VV} (h : -2147483648 ≤ a ∧ a ≤ 2147483647) (h1 : -2147483648 ≤ b ∧ b ≤ 2147483647) {S : MM} : rn xX9_makeLeap (27, [l0, l1, l2, l3, l4], [vI b, vI a], S) = if a < b then rn xX9_makeLeap (39, [l0, l1, l2, l3, l4], [], S) else rn xX9_makeLeap (30, [l0, l1, l2, l3, l4], [], S) := q_icmp_lt dX9_makeLeap_27 (by decide) rfl h h1
theorem eX9_makeLeap_30 {a : Int} {l0 l2 l3 l4 : Option VV} {S : MM} : rn xX9_makeLeap (30, [l0, some (vI a), l2, l3, l4], [], S) = rn xX9_makeLeap (31, [l0, some (vI a), l2, l3, l4], [vI a], S) := rn_step dX9_makeLeap_30 rfl rfl
theorem eX9_makeLeap_31 {l0 l1 l2 l3 l4 : Option VV} {v0 : VV} {S : MM} : rn xX9_makeLeap (31, [l0, l1, l2, l3, l4], [v0], S) = rn xX9_makeLeap (32, [l0, l1, l2, l3, l4], [vI 1, v0], S) := rn_step dX9_makeLeap_31 rfl rfl
theorem eX9_makeLeap_32 {a b : Int} {l0 l1 l2 l3 l4 : Option VV} {S : MM} : rn xX9_makeLeap (32, [l0, l1, l2, l3, l4], [vI b, vI a], S) = rn xX9_makeLeap (33, [l0, l1, l2, l3, l4], [vI (a + b)], S) := rn_step dX9_makeLeap_32 rfl rfl
theorem eX9_makeLeap_33 {l0 l1 l2 l3 l4 : Option VV} {v0 : VV} {S : MM} : rn xX9_makeLeap (33, [l0, l1, l2, l3, l4], [v0], S) = rn xX9_makeLeap (34, [l0, l1, l2, l3, l4], [vI 3, v0], S) := rn_step dX9_makeLeap_33 rfl rfl
theorem eX9_makeLeap_34 {a : Int} {l0 l1 l2 l3 l4 : Option VV} (h0 : 0 ≤ a) (h1 : a ≤ 2147483647) {S : MM} : rn xX9_makeLeap (34, [l0, l1, l2, l3, l4], [vI 3, vI a], S) = rn xX9_makeLeap (35, [l0, l1, l2, l3, l4], [vI (a % 3)], S) := q_irem dX9_makeLeap_34 ⟨by decide, by decide⟩ h0 h1
theorem eX9_makeLeap_35 {a : Int} {w : Option Nat} {l1 l2 l3 l4 : Option VV} {S : MM} : rn xX9_makeLeap (35, [some (.inr (.inl w)), l1, l2, l3, l4], [vI a], S) = rn xX9_makeLeap (36, [some (.inr (.inl w)), some (vI a), l2, l3, l4], [], S) := rn_step dX9_makeLeap_35 rfl rfl
theorem eX9_makeLeap_36 {l0 l1 l2 l3 l4 : Option VV} {S : MM} : rn xX9_makeLeap (36, [l0, l1, l2, l3, l4], [], S) = rn xX9_makeLeap (12, [l0, l1, l2, l3, l4], [], S) := rn_step dX9_makeLeap_36 rfl rfl
theorem eX9_makeLeap_39 {a : Option Nat} {l1 l2 l3 l4 : Option VV} {S : MM} : rn xX9_makeLeap (39, [some (.inr (.inl a)), l1, l2, l3, l4], [], S) = rn xX9_makeLeap (40, [some (.inr (.inl a)), l1, l2, l3, l4], [.inr (.inl a)], S) := rn_step dX9_makeLeap_39 rfl rfl
theorem eX9_makeLeap_40 {a : Int} {l0 l2 l3 l4 : Option VV} {v0 : VV} {S : MM} : rn xX9_makeLeap (40, [l0, some (vI a), l2, l3, l4], [v0], S) = rn xX9_makeLeap (41, [l0, some (vI a), l2, l3, l4], [vI a, v0], S) := rn_step dX9_makeLeap_40 rfl rfl
theorem eX9_makeLeap_41 {a0 : Int} {l0 l1 l2 l3 l4 : Option VV} {S : MM} : rn xX9_makeLeap (41, [l0, l1, l2, l3, l4], [vI a0, vR 593], S) = (fX9_inTurn [vR 593, vI a0] S).bind (fun q => rn xX9_makeLeap (44, [l0, l1, l2, l3, l4], q.1.toList ++ [], q.2)) := q_callV (n := 1) (as := [vI a0]) (rest := []) dX9_makeLeap_41 rfl rfl rfl rfl kd593
theorem eX9_makeLeap_44 {a : Int} {w : Int} {l0 l2 l3 l4 : Option VV} {S : MM} : rn xX9_makeLeap (44, [l0, some (vI w), l2, l3, l4], [vI a], S) = rn xX9_makeLeap (45, [l0, some (vI w), some (vI a), l3, l4], [], S) := rn_step dX9_makeLeap_44 rfl rfl
theorem eX9_makeLeap_45 {a : Option Nat} {l1 l2 l3 l4 : Option VV} {S : MM} : rn xX9_makeLeap (45, [some (.inr (.inl a)), l1, l2, l3, l4], [], S) = rn xX9_makeLeap (46, [some (.inr (.inl a)), l1, l2, l3, l4], [.inr (.inl a)], S) := rn_step dX9_makeLeap_45 rfl rfl
theorem eX9_makeLeap_46 {l0 l1 l2 l3 l4 : Option VV} {S : MM} : rn xX9_makeLeap (46, [l0, l1, l2, l3, l4], [vR 593], S) = rn xX9_makeLeap (49, [l0, l1, l2, l3, l4], [vR 594], S) := q_getR dX9_makeLeap_46 rfl ⟨⟨by decide, by decide⟩, by decide⟩ (fun _ => by decide +kernel) kd593
theorem eX9_makeLeap_49 {l0 l1 l2 l3 l4 : Option VV} {v0 : VV} {S : MM} : rn xX9_makeLeap (49, [l0, l1, l2, l3, l4], [v0], S) = rn xX9_makeLeap (51, [l0, l1, l2, l3, l4], [vI 11, v0], S) := rn_step dX9_makeLeap_49 rfl rfl
theorem eX9_makeLeap_51 {a : Int} {l0 l1 l3 l4 : Option VV} {v0 v1 : VV} {S : MM} : rn xX9_makeLeap (51, [l0, l1, some (vI a), l3, l4], [v0, v1], S) = rn xX9_makeLeap (52, [l0, l1, some (vI a), l3, l4], [vI a, v0, v1], S) := rn_step dX9_makeLeap_51 rfl rfl
theorem eX9_makeLeap_52 {a b : Int} {l0 l1 l2 l3 l4 : Option VV} {v2 : VV} {S : MM} : rn xX9_makeLeap (52, [l0, l1, l2, l3, l4], [vI b, vI a, v2], S) = rn xX9_makeLeap (53, [l0, l1, l2, l3, l4], [vI (a + b), v2], S) := rn_step dX9_makeLeap_52 rfl rfl
theorem eX9_makeLeap_53 {a : Int} {b : Option Nat} {l0 l1 l2 l3 l4 : Option VV} {S : MM} : rn xX9_makeLeap (53, [l0, l1, l2, l3, l4], [vI a, .inr (.inl b)], S) = rn xX9_makeLeap (54, [l0, l1, l2, l3, l4], [vI a, .inr (.inl b), vI a, .inr (.inl b)], S) := rn_step dX9_makeLeap_53 rfl rfl
theorem eX9_makeLeap_54 {i : Nat} {j : Int} {l0 l1 l2 l3 l4 : Option VV} {v2 v3 : VV} (h : kd i = 10) (h0 : 0 ≤ j) (h1 : j < alen i) {S : MM} : rn xX9_makeLeap (54, [l0, l1, l2, l3, l4], [vI j, vR i, v2, v3], S) = rn xX9_makeLeap (55, [l0, l1, l2, l3, l4], [vI (S i j.toNat), v2, v3], S) := q_iald dX9_makeLeap_54 h h0 h1
theorem eX9_makeLeap_54x {j : Int} {l0 l1 l2 l3 l4 : Option VV} {v2 v3 : VV} {S : MM} (h0 : 0 ≤ j) (h1 : j < S 604 0) : rn xX9_makeLeap (54, [l0, l1, l2, l3, l4], [vI j, vR 602, v2, v3], S) = rn xX9_makeLeap (55, [l0, l1, l2, l3, l4], [vI (S 602 j.toNat), v2, v3], S) := q_ialdX dX9_makeLeap_54 h0 h1
theorem eX9_makeLeap_54y {j : Int} {l0 l1 l2 l3 l4 : Option VV} {v2 v3 : VV} {S : MM} (h0 : 0 ≤ j) (h1 : j < S 604 1) : rn xX9_makeLeap (54, [l0, l1, l2, l3, l4], [vI j, vR 603, v2, v3], S) = rn xX9_makeLeap (55, [l0, l1, l2, l3, l4], [vI (S 603 j.toNat), v2, v3], S) := q_ialdY dX9_makeLeap_54 h0 h1
theorem eX9_makeLeap_55 {a : Option Nat} {l1 l2 l3 l4 : Option VV} {v0 v1 v2 : VV} {S : MM} : rn xX9_makeLeap (55, [some (.inr (.inl a)), l1, l2, l3, l4], [v0, v1, v2], S) = rn xX9_makeLeap (56, [some (.inr (.inl a)), l1, l2, l3, l4], [.inr (.inl a), v0, v1, v2], S) := rn_step dX9_makeLeap_55 rfl rfl
theorem eX9_makeLeap_56 {a : Int} {l0 l1 l3 l4 : Option VV} {v0 v1 v2 v3 : VV} {S : MM} : rn xX9_makeLeap (56, [l0, l1, some (vI a), l3, l4], [v0, v1, v2, v3], S) = rn xX9_makeLeap (57, [l0, l1, some (vI a), l3, l4], [vI a, v0, v1, v2, v3], S) := rn_step dX9_makeLeap_56 rfl rfl
theorem eX9_makeLeap_57 {a0 : Int} {l0 l1 l2 l3 l4 : Option VV} {v2 v3 v4 : VV} {S : MM} : rn xX9_makeLeap (57, [l0, l1, l2, l3, l4], [vI a0, vR 593, v2, v3, v4], S) = (fX9_looksOf [vR 593, vI a0] S).bind (fun q => rn xX9_makeLeap (60, [l0, l1, l2, l3, l4], q.1.toList ++ [v2, v3, v4], q.2)) := q_callV (n := 1) (as := [vI a0]) (rest := [v2, v3, v4]) dX9_makeLeap_57 rfl rfl rfl rfl kd593
theorem eX9_makeLeap_60 {a b : Int} {l0 l1 l2 l3 l4 : Option VV} {v2 v3 : VV} {S : MM} : rn xX9_makeLeap (60, [l0, l1, l2, l3, l4], [vI b, vI a, v2, v3], S) = rn xX9_makeLeap (61, [l0, l1, l2, l3, l4], [vI (a + b), v2, v3], S) := rn_step dX9_makeLeap_60 rfl rfl
theorem eX9_makeLeap_61 {i : Nat} {j z : Int} {l0 l1 l2 l3 l4 : Option VV} (h : kd i = 10) (h0 : 0 ≤ j) (h1 : j < alen i) {S : MM} : rn xX9_makeLeap (61, [l0, l1, l2, l3, l4], [vI z, vI j, vR i], S) = rn xX9_makeLeap (62, [l0, l1, l2, l3, l4], [], updM S i j.toNat z) := q_iast dX9_makeLeap_61 h h0 h1
theorem eX9_makeLeap_62 {a : Option Nat} {l1 l2 l3 l4 : Option VV} {S : MM} : rn xX9_makeLeap (62, [some (.inr (.inl a)), l1, l2, l3, l4], [], S) = rn xX9_makeLeap (63, [some (.inr (.inl a)), l1, l2, l3, l4], [.inr (.inl a)], S) := rn_step dX9_makeLeap_62 rfl rfl
theorem eX9_makeLeap_63 {l0 l1 l2 l3 l4 : Option VV} {S : MM} : rn xX9_makeLeap (63, [l0, l1, l2, l3, l4], [vR 593], S) = rn xX9_makeLeap (66, [l0, l1, l2, l3, l4], [vR 594], S) := q_getR dX9_makeLeap_63 rfl ⟨⟨by decide, by decide⟩, by decide⟩ (fun _ => by decide +kernel) kd593
theorem eX9_makeLeap_66 {l0 l1 l2 l3 l4 : Option VV} {v0 : VV} {S : MM} : rn xX9_makeLeap (66, [l0, l1, l2, l3, l4], [v0], S) = rn xX9_makeLeap (68, [l0, l1, l2, l3, l4], [vI 8, v0], S) := rn_step dX9_makeLeap_66 rfl rfl
theorem eX9_makeLeap_68 {a : Int} {l0 l1 l3 l4 : Option VV} {v0 v1 : VV} {S : MM} : rn xX9_makeLeap (68, [l0, l1, some (vI a), l3, l4], [v0, v1], S) = rn xX9_makeLeap (69, [l0, l1, some (vI a), l3, l4], [vI a, v0, v1], S) := rn_step dX9_makeLeap_68 rfl rfl
theorem eX9_makeLeap_69 {a b : Int} {l0 l1 l2 l3 l4 : Option VV} {v2 : VV} {S : MM} : rn xX9_makeLeap (69, [l0, l1, l2, l3, l4], [vI b, vI a, v2], S) = rn xX9_makeLeap (70, [l0, l1, l2, l3, l4], [vI (a + b), v2], S) := rn_step dX9_makeLeap_69 rfl rfl
theorem eX9_makeLeap_70 {a : Int} {b : Option Nat} {l0 l1 l2 l3 l4 : Option VV} {S : MM} : rn xX9_makeLeap (70, [l0, l1, l2, l3, l4], [vI a, .inr (.inl b)], S) = rn xX9_makeLeap (71, [l0, l1, l2, l3, l4], [vI a, .inr (.inl b), vI a, .inr (.inl b)], S) := rn_step dX9_makeLeap_70 rfl rfl
theorem eX9_makeLeap_71 {i : Nat} {j : Int} {l0 l1 l2 l3 l4 : Option VV} {v2 v3 : VV} (h : kd i = 10) (h0 : 0 ≤ j) (h1 : j < alen i) {S : MM} : rn xX9_makeLeap (71, [l0, l1, l2, l3, l4], [vI j, vR i, v2, v3], S) = rn xX9_makeLeap (72, [l0, l1, l2, l3, l4], [vI (S i j.toNat), v2, v3], S) := q_iald dX9_makeLeap_71 h h0 h1
theorem eX9_makeLeap_71x {j : Int} {l0 l1 l2 l3 l4 : Option VV} {v2 v3 : VV} {S : MM} (h0 : 0 ≤ j) (h1 : j < S 604 0) : rn xX9_makeLeap (71, [l0, l1, l2, l3, l4], [vI j, vR 602, v2, v3], S) = rn xX9_makeLeap (72, [l0, l1, l2, l3, l4], [vI (S 602 j.toNat), v2, v3], S) := q_ialdX dX9_makeLeap_71 h0 h1
theorem eX9_makeLeap_71y {j : Int} {l0 l1 l2 l3 l4 : Option VV} {v2 v3 : VV} {S : MM} (h0 : 0 ≤ j) (h1 : j < S 604 1) : rn xX9_makeLeap (71, [l0, l1, l2, l3, l4], [vI j, vR 603, v2, v3], S) = rn xX9_makeLeap (72, [l0, l1, l2, l3, l4], [vI (S 603 j.toNat), v2, v3], S) := q_ialdY dX9_makeLeap_71 h0 h1
theorem eX9_makeLeap_72 {l0 l1 l2 l3 l4 : Option VV} {v0 v1 v2 : VV} {S : MM} : rn xX9_makeLeap (72, [l0, l1, l2, l3, l4], [v0, v1, v2], S) = rn xX9_makeLeap (73, [l0, l1, l2, l3, l4], [vI 1, v0, v1, v2], S) := rn_step dX9_makeLeap_72 rfl rfl
theorem eX9_makeLeap_73 {a b : Int} {l0 l1 l2 l3 l4 : Option VV} {v2 v3 : VV} {S : MM} : rn xX9_makeLeap (73, [l0, l1, l2, l3, l4], [vI b, vI a, v2, v3], S) = rn xX9_makeLeap (74, [l0, l1, l2, l3, l4], [vI (a + b), v2, v3], S) := rn_step dX9_makeLeap_73 rfl rfl
theorem eX9_makeLeap_74 {i : Nat} {j z : Int} {l0 l1 l2 l3 l4 : Option VV} (h : kd i = 10) (h0 : 0 ≤ j) (h1 : j < alen i) {S : MM} : rn xX9_makeLeap (74, [l0, l1, l2, l3, l4], [vI z, vI j, vR i], S) = rn xX9_makeLeap (75, [l0, l1, l2, l3, l4], [], updM S i j.toNat z) := q_iast dX9_makeLeap_74 h h0 h1
theorem eX9_makeLeap_75 {a : Option Nat} {l1 l2 l3 l4 : Option VV} {S : MM} : rn xX9_makeLeap (75, [some (.inr (.inl a)), l1, l2, l3, l4], [], S) = rn xX9_makeLeap (76, [some (.inr (.inl a)), l1, l2, l3, l4], [.inr (.inl a)], S) := rn_step dX9_makeLeap_75 rfl rfl
theorem eX9_makeLeap_76 {a : Int} {l0 l1 l3 l4 : Option VV} {v0 : VV} {S : MM} : rn xX9_makeLeap (76, [l0, l1, some (vI a), l3, l4], [v0], S) = rn xX9_makeLeap (77, [l0, l1, some (vI a), l3, l4], [vI a, v0], S) := rn_step dX9_makeLeap_76 rfl rfl
theorem eX9_makeLeap_77 {a0 : Int} {l0 l1 l2 l3 l4 : Option VV} {S : MM} : rn xX9_makeLeap (77, [l0, l1, l2, l3, l4], [vI a0, vR 593], S) = (fX9_stands [vR 593, vI a0] S).bind (fun q => rn xX9_makeLeap (80, [l0, l1, l2, l3, l4], q.1.toList ++ [], q.2)) := q_callV (n := 1) (as := [vI a0]) (rest := []) dX9_makeLeap_77 rfl rfl rfl rfl kd593
theorem eX9_makeLeap_80 {a : Int} {w : Int} {l0 l1 l3 l4 : Option VV} {S : MM} : rn xX9_makeLeap (80, [l0, l1, some (vI w), l3, l4], [vI a], S) = rn xX9_makeLeap (81, [l0, l1, some (vI w), some (vI a), l4], [], S) := rn_step dX9_makeLeap_80 rfl rfl
theorem eX9_makeLeap_81 {a : Option Nat} {l1 l2 l3 l4 : Option VV} {S : MM} : rn xX9_makeLeap (81, [some (.inr (.inl a)), l1, l2, l3, l4], [], S) = rn xX9_makeLeap (82, [some (.inr (.inl a)), l1, l2, l3, l4], [.inr (.inl a)], S) := rn_step dX9_makeLeap_81 rfl rfl
theorem eX9_makeLeap_82 {a : Int} {l0 l1 l3 l4 : Option VV} {v0 : VV} {S : MM} : rn xX9_makeLeap (82, [l0, l1, some (vI a), l3, l4], [v0], S) = rn xX9_makeLeap (83, [l0, l1, some (vI a), l3, l4], [vI a, v0], S) := rn_step dX9_makeLeap_82 rfl rfl
theorem eX9_makeLeap_83 {a : Option Nat} {l1 l2 l3 l4 : Option VV} {v0 v1 : VV} {S : MM} : rn xX9_makeLeap (83, [some (.inr (.inl a)), l1, l2, l3, l4], [v0, v1], S) = rn xX9_makeLeap (84, [some (.inr (.inl a)), l1, l2, l3, l4], [.inr (.inl a), v0, v1], S) := rn_step dX9_makeLeap_83 rfl rfl
theorem eX9_makeLeap_84 {l0 l1 l2 l3 l4 : Option VV} {v1 v2 : VV} {S : MM} : rn xX9_makeLeap (84, [l0, l1, l2, l3, l4], [vR 593, v1, v2], S) = rn xX9_makeLeap (87, [l0, l1, l2, l3, l4], [vR 594, v1, v2], S) := q_getR dX9_makeLeap_84 rfl ⟨⟨by decide, by decide⟩, by decide⟩ (fun _ => by decide +kernel) kd593
theorem eX9_makeLeap_87 {l0 l1 l2 l3 l4 : Option VV} {v0 v1 v2 : VV} {S : MM} : rn xX9_makeLeap (87, [l0, l1, l2, l3, l4], [v0, v1, v2], S) = rn xX9_makeLeap (88, [l0, l1, l2, l3, l4], [vI 5, v0, v1, v2], S) := rn_step dX9_makeLeap_87 rfl rfl
theorem eX9_makeLeap_88 {i : Nat} {j : Int} {l0 l1 l2 l3 l4 : Option VV} {v2 v3 : VV} (h : kd i = 10) (h0 : 0 ≤ j) (h1 : j < alen i) {S : MM} : rn xX9_makeLeap (88, [l0, l1, l2, l3, l4], [vI j, vR i, v2, v3], S) = rn xX9_makeLeap (89, [l0, l1, l2, l3, l4], [vI (S i j.toNat), v2, v3], S) := q_iald dX9_makeLeap_88 h h0 h1
theorem eX9_makeLeap_88x {j : Int} {l0 l1 l2 l3 l4 : Option VV} {v2 v3 : VV} {S : MM} (h0 : 0 ≤ j) (h1 : j < S 604 0) : rn xX9_makeLeap (88, [l0, l1, l2, l3, l4], [vI j, vR 602, v2, v3], S) = rn xX9_makeLeap (89, [l0, l1, l2, l3, l4], [vI (S 602 j.toNat), v2, v3], S) := q_ialdX dX9_makeLeap_88 h0 h1
theorem eX9_makeLeap_88y {j : Int} {l0 l1 l2 l3 l4 : Option VV} {v2 v3 : VV} {S : MM} (h0 : 0 ≤ j) (h1 : j < S 604 1) : rn xX9_makeLeap (88, [l0, l1, l2, l3, l4], [vI j, vR 603, v2, v3], S) = rn xX9_makeLeap (89, [l0, l1, l2, l3, l4], [vI (S 603 j.toNat), v2, v3], S) := q_ialdY dX9_makeLeap_88 h0 h1
theorem eX9_makeLeap_89 {a0 : Int} {a1 : Int} {l0 l1 l2 l3 l4 : Option VV} {S : MM} : rn xX9_makeLeap (89, [l0, l1, l2, l3, l4], [vI a1, vI a0, vR 593], S) = (fX9_firstFrom [vR 593, vI a0, vI a1] S).bind (fun q => rn xX9_makeLeap (92, [l0, l1, l2, l3, l4], q.1.toList ++ [], q.2)) := q_callV (n := 2) (as := [vI a0, vI a1]) (rest := []) dX9_makeLeap_89 rfl rfl rfl rfl kd593
theorem eX9_makeLeap_92 {a : Int} {w : Int} {l0 l1 l2 l4 : Option VV} {S : MM} : rn xX9_makeLeap (92, [l0, l1, l2, some (vI w), l4], [vI a], S) = rn xX9_makeLeap (94, [l0, l1, l2, some (vI w), some (vI a)], [], S) := rn_step dX9_makeLeap_92 rfl rfl
theorem eX9_makeLeap_94 {a : Option Nat} {l1 l2 l3 l4 : Option VV} {S : MM} : rn xX9_makeLeap (94, [some (.inr (.inl a)), l1, l2, l3, l4], [], S) = rn xX9_makeLeap (95, [some (.inr (.inl a)), l1, l2, l3, l4], [.inr (.inl a)], S) := rn_step dX9_makeLeap_94 rfl rfl
theorem eX9_makeLeap_95 {l0 l1 l2 l3 l4 : Option VV} {S : MM} : rn xX9_makeLeap (95, [l0, l1, l2, l3, l4], [vR 593], S) = rn xX9_makeLeap (98, [l0, l1, l2, l3, l4], [vR 594], S) := q_getR dX9_makeLeap_95 rfl ⟨⟨by decide, by decide⟩, by decide⟩ (fun _ => by decide +kernel) kd593
theorem eX9_makeLeap_98 {l0 l1 l2 l3 l4 : Option VV} {v0 : VV} {S : MM} : rn xX9_makeLeap (98, [l0, l1, l2, l3, l4], [v0], S) = rn xX9_makeLeap (100, [l0, l1, l2, l3, l4], [vI 20, v0], S) := rn_step dX9_makeLeap_98 rfl rfl
theorem eX9_makeLeap_100 {a : Int} {l0 l1 l3 l4 : Option VV} {v0 v1 : VV} {S : MM} : rn xX9_makeLeap (100, [l0, l1, some (vI a), l3, l4], [v0, v1], S) = rn xX9_makeLeap (101, [l0, l1, some (vI a), l3, l4], [vI a, v0, v1], S) := rn_step dX9_makeLeap_100 rfl rfl
theorem eX9_makeLeap_101 {a b : Int} {l0 l1 l2 l3 l4 : Option VV} {v2 : VV} {S : MM} : rn xX9_makeLeap (101, [l0, l1, l2, l3, l4], [vI b, vI a, v2], S) = rn xX9_makeLeap (102, [l0, l1, l2, l3, l4], [vI (a + b), v2], S) := rn_step dX9_makeLeap_101 rfl rfl
theorem eX9_makeLeap_102 {a : Int} {l0 l1 l2 l3 : Option VV} {v0 v1 : VV} {S : MM} : rn xX9_makeLeap (102, [l0, l1, l2, l3, some (vI a)], [v0, v1], S) = rn xX9_makeLeap (104, [l0, l1, l2, l3, some (vI a)], [vI a, v0, v1], S) := rn_step dX9_makeLeap_102 rfl rfl
theorem eX9_makeLeap_104 {i : Nat} {j z : Int} {l0 l1 l2 l3 l4 : Option VV} (h : kd i = 10) (h0 : 0 ≤ j) (h1 : j < alen i) {S : MM} : rn xX9_makeLeap (104, [l0, l1, l2, l3, l4], [vI z, vI j, vR i], S) = rn xX9_makeLeap (105, [l0, l1, l2, l3, l4], [], updM S i j.toNat z) := q_iast dX9_makeLeap_104 h h0 h1
theorem eX9_makeLeap_105 {a : Int} {l0 l1 l2 l3 : Option VV} {S : MM} : rn xX9_makeLeap (105, [l0, l1, l2, l3, some (vI a)], [], S) = rn xX9_makeLeap (107, [l0, l1, l2, l3, some (vI a)], [vI a], S) := rn_step dX9_makeLeap_105 rfl rfl
theorem eX9_makeLeap_107 {l0 l1 l2 l3 l4 : Option VV} {v0 : VV} {S : MM} : rn xX9_makeLeap (107, [l0, l1, l2, l3, l4], [v0], S) = rn xX9_makeLeap (110, [l0, l1, l2, l3, l4], [vI 300, v0], S) := rn_step dX9_makeLeap_107 rfl rfl
theorem eX9_makeLeap_110 {a b : Int} {l0 l1 l2 l3 l4 : Option VV} (h : -2147483648 ≤ a ∧ a ≤ 2147483647) (h1 : -2147483648 ≤ b ∧ b ≤ 2147483647) {S : MM} : rn xX9_makeLeap (110, [l0, l1, l2, l3, l4], [vI b, vI a], S) = if a < b then rn xX9_makeLeap (113, [l0, l1, l2, l3, l4], [], S) else rn xX9_makeLeap (142, [l0, l1, l2, l3, l4], [], S) := q_icmp_ge dX9_makeLeap_110 (by decide) rfl h h1
theorem eX9_makeLeap_113 {a : Int} {l0 l1 l2 l3 : Option VV} {S : MM} : rn xX9_makeLeap (113, [l0, l1, l2, l3, some (vI a)], [], S) = rn xX9_makeLeap (115, [l0, l1, l2, l3, some (vI a)], [vI a], S) := rn_step dX9_makeLeap_113 rfl rfl
theorem eX9_makeLeap_115 {a : Int} {l0 l1 l2 l4 : Option VV} {v0 : VV} {S : MM} : rn xX9_makeLeap (115, [l0, l1, l2, some (vI a), l4], [v0], S) = rn xX9_makeLeap (116, [l0, l1, l2, some (vI a), l4], [vI a, v0], S) := rn_step dX9_makeLeap_115 rfl rfl
theorem eX9_makeLeap_116 {a b : Int} {l0 l1 l2 l3 l4 : Option VV} {S : MM} : rn xX9_makeLeap (116, [l0, l1, l2, l3, l4], [vI b, vI a], S) = rn xX9_makeLeap (117, [l0, l1, l2, l3, l4], [vI (a - b)], S) := rn_step dX9_makeLeap_116 rfl rfl
theorem eX9_makeLeap_117 {a : Option Nat} {l1 l2 l3 l4 : Option VV} {v0 : VV} {S : MM} : rn xX9_makeLeap (117, [some (.inr (.inl a)), l1, l2, l3, l4], [v0], S) = rn xX9_makeLeap (118, [some (.inr (.inl a)), l1, l2, l3, l4], [.inr (.inl a), v0], S) := rn_step dX9_makeLeap_117 rfl rfl
theorem eX9_makeLeap_118 {l0 l1 l2 l3 l4 : Option VV} {v1 : VV} {S : MM} : rn xX9_makeLeap (118, [l0, l1, l2, l3, l4], [vR 593, v1], S) = rn xX9_makeLeap (121, [l0, l1, l2, l3, l4], [vR 594, v1], S) := q_getR dX9_makeLeap_118 rfl ⟨⟨by decide, by decide⟩, by decide⟩ (fun _ => by decide +kernel) kd593
theorem eX9_makeLeap_121 {l0 l1 l2 l3 l4 : Option VV} {v0 v1 : VV} {S : MM} : rn xX9_makeLeap (121, [l0, l1, l2, l3, l4], [v0, v1], S) = rn xX9_makeLeap (123, [l0, l1, l2, l3, l4], [vI 17, v0, v1], S) := rn_step dX9_makeLeap_121 rfl rfl
theorem eX9_makeLeap_123 {a : Int} {l0 l1 l3 l4 : Option VV} {v0 v1 v2 : VV} {S : MM} : rn xX9_makeLeap (123, [l0, l1, some (vI a), l3, l4], [v0, v1, v2], S) = rn xX9_makeLeap (124, [l0, l1, some (vI a), l3, l4], [vI a, v0, v1, v2], S) := rn_step dX9_makeLeap_123 rfl rfl
theorem eX9_makeLeap_124 {a b : Int} {l0 l1 l2 l3 l4 : Option VV} {v2 v3 : VV} {S : MM} : rn xX9_makeLeap (124, [l0, l1, l2, l3, l4], [vI b, vI a, v2, v3], S) = rn xX9_makeLeap (125, [l0, l1, l2, l3, l4], [vI (a + b), v2, v3], S) := rn_step dX9_makeLeap_124 rfl rfl
theorem eX9_makeLeap_125 {i : Nat} {j : Int} {l0 l1 l2 l3 l4 : Option VV} {v2 : VV} (h : kd i = 10) (h0 : 0 ≤ j) (h1 : j < alen i) {S : MM} : rn xX9_makeLeap (125, [l0, l1, l2, l3, l4], [vI j, vR i, v2], S) = rn xX9_makeLeap (126, [l0, l1, l2, l3, l4], [vI (S i j.toNat), v2], S) := q_iald dX9_makeLeap_125 h h0 h1
theorem eX9_makeLeap_125x {j : Int} {l0 l1 l2 l3 l4 : Option VV} {v2 : VV} {S : MM} (h0 : 0 ≤ j) (h1 : j < S 604 0) : rn xX9_makeLeap (125, [l0, l1, l2, l3, l4], [vI j, vR 602, v2], S) = rn xX9_makeLeap (126, [l0, l1, l2, l3, l4], [vI (S 602 j.toNat), v2], S) := q_ialdX dX9_makeLeap_125 h0 h1
theorem eX9_makeLeap_125y {j : Int} {l0 l1 l2 l3 l4 : Option VV} {v2 : VV} {S : MM} (h0 : 0 ≤ j) (h1 : j < S 604 1) : rn xX9_makeLeap (125, [l0, l1, l2, l3, l4], [vI j, vR 603, v2], S) = rn xX9_makeLeap (126, [l0, l1, l2, l3, l4], [vI (S 603 j.toNat), v2], S) := q_ialdY dX9_makeLeap_125 h0 h1
theorem eX9_makeLeap_126 {a b : Int} {l0 l1 l2 l3 l4 : Option VV} (h : -2147483648 ≤ a ∧ a ≤ 2147483647) (h1 : -2147483648 ≤ b ∧ b ≤ 2147483647) {S : MM} : rn xX9_makeLeap (126, [l0, l1, l2, l3, l4], [vI b, vI a], S) = if b < a then rn xX9_makeLeap (129, [l0, l1, l2, l3, l4], [], S) else rn xX9_makeLeap (142, [l0, l1, l2, l3, l4], [], S) := q_icmp_le dX9_makeLeap_126 (by decide) rfl h h1
theorem eX9_makeLeap_129 {a : Option Nat} {l1 l2 l3 l4 : Option VV} {S : MM} : rn xX9_makeLeap (129, [some (.inr (.inl a)), l1, l2, l3, l4], [], S) = rn xX9_makeLeap (130, [some (.inr (.inl a)), l1, l2, l3, l4], [.inr (.inl a)], S) := rn_step dX9_makeLeap_129 rfl rfl
theorem eX9_makeLeap_130 {l0 l1 l2 l3 l4 : Option VV} {S : MM} : rn xX9_makeLeap (130, [l0, l1, l2, l3, l4], [vR 593], S) = rn xX9_makeLeap (133, [l0, l1, l2, l3, l4], [vR 594], S) := q_getR dX9_makeLeap_130 rfl ⟨⟨by decide, by decide⟩, by decide⟩ (fun _ => by decide +kernel) kd593
theorem eX9_makeLeap_133 {l0 l1 l2 l3 l4 : Option VV} {v0 : VV} {S : MM} : rn xX9_makeLeap (133, [l0, l1, l2, l3, l4], [v0], S) = rn xX9_makeLeap (135, [l0, l1, l2, l3, l4], [vI 17, v0], S) := rn_step dX9_makeLeap_133 rfl rfl
theorem eX9_makeLeap_135 {a : Int} {l0 l1 l3 l4 : Option VV} {v0 v1 : VV} {S : MM} : rn xX9_makeLeap (135, [l0, l1, some (vI a), l3, l4], [v0, v1], S) = rn xX9_makeLeap (136, [l0, l1, some (vI a), l3, l4], [vI a, v0, v1], S) := rn_step dX9_makeLeap_135 rfl rfl
theorem eX9_makeLeap_136 {a b : Int} {l0 l1 l2 l3 l4 : Option VV} {v2 : VV} {S : MM} : rn xX9_makeLeap (136, [l0, l1, l2, l3, l4], [vI b, vI a, v2], S) = rn xX9_makeLeap (137, [l0, l1, l2, l3, l4], [vI (a + b), v2], S) := rn_step dX9_makeLeap_136 rfl rfl
theorem eX9_makeLeap_137 {a : Int} {l0 l1 l2 l3 : Option VV} {v0 v1 : VV} {S : MM} : rn xX9_makeLeap (137, [l0, l1, l2, l3, some (vI a)], [v0, v1], S) = rn xX9_makeLeap (139, [l0, l1, l2, l3, some (vI a)], [vI a, v0, v1], S) := rn_step dX9_makeLeap_137 rfl rfl
theorem eX9_makeLeap_139 {a : Int} {l0 l1 l2 l4 : Option VV} {v0 v1 v2 : VV} {S : MM} : rn xX9_makeLeap (139, [l0, l1, l2, some (vI a), l4], [v0, v1, v2], S) = rn xX9_makeLeap (140, [l0, l1, l2, some (vI a), l4], [vI a, v0, v1, v2], S) := rn_step dX9_makeLeap_139 rfl rfl
theorem eX9_makeLeap_140 {a b : Int} {l0 l1 l2 l3 l4 : Option VV} {v2 v3 : VV} {S : MM} : rn xX9_makeLeap (140, [l0, l1, l2, l3, l4], [vI b, vI a, v2, v3], S) = rn xX9_makeLeap (141, [l0, l1, l2, l3, l4], [vI (a - b), v2, v3], S) := rn_step dX9_makeLeap_140 rfl rfl
theorem eX9_makeLeap_141 {i : Nat} {j z : Int} {l0 l1 l2 l3 l4 : Option VV} (h : kd i = 10) (h0 : 0 ≤ j) (h1 : j < alen i) {S : MM} : rn xX9_makeLeap (141, [l0, l1, l2, l3, l4], [vI z, vI j, vR i], S) = rn xX9_makeLeap (142, [l0, l1, l2, l3, l4], [], updM S i j.toNat z) := q_iast dX9_makeLeap_141 h h0 h1
theorem eX9_makeLeap_142 {a : Option Nat} {l1 l2 l3 l4 : Option VV} {S : MM} : rn xX9_makeLeap (142, [some (.inr (.inl a)), l1, l2, l3, l4], [], S) = rn xX9_makeLeap (143, [some (.inr (.inl a)), l1, l2, l3, l4], [.inr (.inl a)], S) := rn_step dX9_makeLeap_142 rfl rfl
theorem eX9_makeLeap_143 {l0 l1 l2 l3 l4 : Option VV} {S : MM} : rn xX9_makeLeap (143, [l0, l1, l2, l3, l4], [vR 593], S) = rn xX9_makeLeap (146, [l0, l1, l2, l3, l4], [vR 594], S) := q_getR dX9_makeLeap_143 rfl ⟨⟨by decide, by decide⟩, by decide⟩ (fun _ => by decide +kernel) kd593
theorem eX9_makeLeap_146 {l0 l1 l2 l3 l4 : Option VV} {v0 : VV} {S : MM} : rn xX9_makeLeap (146, [l0, l1, l2, l3, l4], [v0], S) = rn xX9_makeLeap (148, [l0, l1, l2, l3, l4], [vI 6, v0], S) := rn_step dX9_makeLeap_146 rfl rfl
theorem eX9_makeLeap_148 {a : Option Nat} {l1 l2 l3 l4 : Option VV} {v0 v1 : VV} {S : MM} : rn xX9_makeLeap (148, [some (.inr (.inl a)), l1, l2, l3, l4], [v0, v1], S) = rn xX9_makeLeap (149, [some (.inr (.inl a)), l1, l2, l3, l4], [.inr (.inl a), v0, v1], S) := rn_step dX9_makeLeap_148 rfl rfl
theorem eX9_makeLeap_149 {a : Int} {l0 l2 l3 l4 : Option VV} {v0 v1 v2 : VV} {S : MM} : rn xX9_makeLeap (149, [l0, some (vI a), l2, l3, l4], [v0, v1, v2], S) = rn xX9_makeLeap (150, [l0, some (vI a), l2, l3, l4], [vI a, v0, v1, v2], S) := rn_step dX9_makeLeap_149 rfl rfl
theorem eX9_makeLeap_150 {l0 l1 l2 l3 l4 : Option VV} {v0 v1 v2 v3 : VV} {S : MM} : rn xX9_makeLeap (150, [l0, l1, l2, l3, l4], [v0, v1, v2, v3], S) = rn xX9_makeLeap (151, [l0, l1, l2, l3, l4], [vI 1, v0, v1, v2, v3], S) := rn_step dX9_makeLeap_150 rfl rfl
theorem eX9_makeLeap_151 {a b : Int} {l0 l1 l2 l3 l4 : Option VV} {v2 v3 v4 : VV} {S : MM} : rn xX9_makeLeap (151, [l0, l1, l2, l3, l4], [vI b, vI a, v2, v3, v4], S) = rn xX9_makeLeap (152, [l0, l1, l2, l3, l4], [vI (a + b), v2, v3, v4], S) := rn_step dX9_makeLeap_151 rfl rfl
theorem eX9_makeLeap_152 {l0 l1 l2 l3 l4 : Option VV} {v0 v1 v2 v3 : VV} {S : MM} : rn xX9_makeLeap (152, [l0, l1, l2, l3, l4], [v0, v1, v2, v3], S) = rn xX9_makeLeap (153, [l0, l1, l2, l3, l4], [vI 3, v0, v1, v2, v3], S) := rn_step dX9_makeLeap_152 rfl rfl
theorem eX9_makeLeap_153 {a : Int} {l0 l1 l2 l3 l4 : Option VV} {v2 v3 v4 : VV} (h0 : 0 ≤ a) (h1 : a ≤ 2147483647) {S : MM} : rn xX9_makeLeap (153, [l0, l1, l2, l3, l4], [vI 3, vI a, v2, v3, v4], S) = rn xX9_makeLeap (154, [l0, l1, l2, l3, l4], [vI (a % 3), v2, v3, v4], S) := q_irem dX9_makeLeap_153 ⟨by decide, by decide⟩ h0 h1
theorem eX9_makeLeap_154 {a0 : Int} {l0 l1 l2 l3 l4 : Option VV} {v2 v3 : VV} {S : MM} : rn xX9_makeLeap (154, [l0, l1, l2, l3, l4], [vI a0, vR 593, v2, v3], S) = (fX9_inTurn [vR 593, vI a0] S).bind (fun q => rn xX9_makeLeap (157, [l0, l1, l2, l3, l4], q.1.toList ++ [v2, v3], q.2)) := q_callV (n := 1) (as := [vI a0]) (rest := [v2, v3]) dX9_makeLeap_154 rfl rfl rfl rfl kd593
theorem eX9_makeLeap_157 {i : Nat} {j z : Int} {l0 l1 l2 l3 l4 : Option VV} (h : kd i = 10) (h0 : 0 ≤ j) (h1 : j < alen i) {S : MM} : rn xX9_makeLeap (157, [l0, l1, l2, l3, l4], [vI z, vI j, vR i], S) = rn xX9_makeLeap (158, [l0, l1, l2, l3, l4], [], updM S i j.toNat z) := q_iast dX9_makeLeap_157 h h0 h1
theorem eX9_makeLeap_158 {a : Option Nat} {l1 l2 l3 l4 : Option VV} {S : MM} : rn xX9_makeLeap (158, [some (.inr (.inl a)), l1, l2, l3, l4], [], S) = rn xX9_makeLeap (159, [some (.inr (.inl a)), l1, l2, l3, l4], [.inr (.inl a)], S) := rn_step dX9_makeLeap_158 rfl rfl
theorem eX9_makeLeap_159 {l0 l1 l2 l3 l4 : Option VV} {S : MM} : rn xX9_makeLeap (159, [l0, l1, l2, l3, l4], [vR 593], S) = (fX9_lookRound [vR 593] S).bind (fun q => rn xX9_makeLeap (162, [l0, l1, l2, l3, l4], q.1.toList ++ [], q.2)) := q_callV (n := 0) (as := []) (rest := []) dX9_makeLeap_159 rfl rfl rfl rfl kd593
theorem eX9_makeLeap_162 {a : Int} {l0 l1 l3 l4 : Option VV} {S : MM} : rn xX9_makeLeap (162, [l0, l1, some (vI a), l3, l4], [], S) = rn xX9_makeLeap (163, [l0, l1, some (vI a), l3, l4], [vI a], S) := rn_step dX9_makeLeap_162 rfl rfl
theorem eX9_makeLeap_163 {z : Int} {l0 l1 l2 l3 l4 : Option VV} {S : MM} : rn xX9_makeLeap (163, [l0, l1, l2, l3, l4], [vI z], S) = some (some (vI z), S) := q_retI dX9_makeLeap_163 rfl
noncomputable def qlX9_tryLeap : List CE := [(0, 109, 9, 2, fX9_keepIf), (0, 113, 9, 1, fX9_makeLeap)]
noncomputable def xX9_tryLeap : XX := (cX9_tryLeap, fcF fcl9, mcF qlX9_tryLeap, 1)
noncomputable def fX9_tryLeap : FN := fnX xX9_tryLeap 2
set_option maxRecDepth 100000 in
theorem cwX9_tryLeap : Cond.code yX9_tryLeap cX9_tryLeap 2 (some .int) ∈ lw_g := lw_gm 994 (by decide +kernel) (by decide +kernel)
set_option maxRecDepth 100000 in
theorem conX9_tryLeap : Con yX9_tryLeap cX9_tryLeap 2 (some .int) { frames := 5, cells := 0, slots := 0, locals := 116 } fX9_tryLeap := con_of (X := xX9_tryLeap) (own := "LeapStonesModel") (ql := qlX9_tryLeap) (by decide) rfl FOK9 rfl (List.forall_mem_cons.mpr ⟨call_V conX9_keepIf cwX9_keepIf (lw_gl _ [995, 997, 31, 84] (by decide +kernel) (by decide +kernel)) (by decide) rfl ⟨by decide, by decide, by decide +kernel⟩ ⟨rfl, rfl⟩ ⟨by decide, by decide⟩ ⟨Nat.le_refl _, Nat.le_refl _⟩, List.forall_mem_cons.mpr ⟨call_V conX9_makeLeap cwX9_makeLeap (lw_gl _ [999, 1001, 32, 84] (by decide +kernel) (by decide +kernel)) (by decide) rfl ⟨by decide, by decide, by decide +kernel⟩ ⟨rfl, rfl⟩ ⟨by decide, by decide⟩ ⟨Nat.le_refl _, Nat.le_refl _⟩, fun _ h => absurd h List.not_mem_nil⟩⟩) (Or.inr (Or.inl ⟨rfl, rfl⟩))
theorem uX9_tryLeap {i : Nat} {a0 : Int} {S : MM} : fX9_tryLeap [vR i, vI a0] S = rn xX9_tryLeap (0, [some (vR i), some (vI a0)], [], S) := rfl
theorem dX9_tryLeap_0 : decode cX9_tryLeap 0 = .ok (.aload_n 0, 1) := by decide +kernel
theorem dX9_tryLeap_1 : decode cX9_tryLeap 1 = .ok (.getfield 7, 3) := by decide +kernel
theorem dX9_tryLeap_4 : decode cX9_tryLeap 4 = .ok (.iconst 4, 1) := by decide +kernel
theorem dX9_tryLeap_5 : decode cX9_tryLeap 5 = .ok (.iaload, 1) := by decide +kernel
theorem dX9_tryLeap_6 : decode cX9_tryLeap 6 = .ok (.iconst 1, 1) := by decide +kernel
theorem dX9_tryLeap_7 : decode cX9_tryLeap 7 = .ok (.if_icmp .eq 6, 3) := by decide +kernel
theorem dX9_tryLeap_10 : decode cX9_tryLeap 10 = .ok (.bipush (-5), 2) := by decide +kernel
theorem dX9_tryLeap_12 : decode cX9_tryLeap 12 = .ok (.ireturn, 1) := by decide +kernel
theorem dX9_tryLeap_13 : decode cX9_tryLeap 13 = .ok (.aload_n 0, 1) := by decide +kernel
theorem dX9_tryLeap_14 : decode cX9_tryLeap 14 = .ok (.iload_n 1, 1) := by decide +kernel
theorem dX9_tryLeap_15 : decode cX9_tryLeap 15 = .ok (.invokevirtual 109, 3) := by decide +kernel
theorem dX9_tryLeap_18 : decode cX9_tryLeap 18 = .ok (.aload_n 0, 1) := by decide +kernel
theorem dX9_tryLeap_19 : decode cX9_tryLeap 19 = .ok (.invokevirtual 113, 3) := by decide +kernel
theorem dX9_tryLeap_22 : decode cX9_tryLeap 22 = .ok (.ireturn, 1) := by decide +kernel
theorem eX9_tryLeap_0 {a : Option Nat} {l1 : Option VV} {S : MM} : rn xX9_tryLeap (0, [some (.inr (.inl a)), l1], [], S) = rn xX9_tryLeap (1, [some (.inr (.inl a)), l1], [.inr (.inl a)], S) := rn_step dX9_tryLeap_0 rfl rfl
theorem eX9_tryLeap_1 {l0 l1 : Option VV} {S : MM} : rn xX9_tryLeap (1, [l0, l1], [vR 593], S) = rn xX9_tryLeap (4, [l0, l1], [vR 594], S) := q_getR dX9_tryLeap_1 rfl ⟨⟨by decide, by decide⟩, by decide⟩ (fun _ => by decide +kernel) kd593
theorem eX9_tryLeap_4 {l0 l1 : Option VV} {v0 : VV} {S : MM} : rn xX9_tryLeap (4, [l0, l1], [v0], S) = rn xX9_tryLeap (5, [l0, l1], [vI 4, v0], S) := rn_step dX9_tryLeap_4 rfl rfl
theorem eX9_tryLeap_5 {i : Nat} {j : Int} {l0 l1 : Option VV} (h : kd i = 10) (h0 : 0 ≤ j) (h1 : j < alen i) {S : MM} : rn xX9_tryLeap (5, [l0, l1], [vI j, vR i], S) = rn xX9_tryLeap (6, [l0, l1], [vI (S i j.toNat)], S) := q_iald dX9_tryLeap_5 h h0 h1
theorem eX9_tryLeap_5x {j : Int} {l0 l1 : Option VV} {S : MM} (h0 : 0 ≤ j) (h1 : j < S 604 0) : rn xX9_tryLeap (5, [l0, l1], [vI j, vR 602], S) = rn xX9_tryLeap (6, [l0, l1], [vI (S 602 j.toNat)], S) := q_ialdX dX9_tryLeap_5 h0 h1
theorem eX9_tryLeap_5y {j : Int} {l0 l1 : Option VV} {S : MM} (h0 : 0 ≤ j) (h1 : j < S 604 1) : rn xX9_tryLeap (5, [l0, l1], [vI j, vR 603], S) = rn xX9_tryLeap (6, [l0, l1], [vI (S 603 j.toNat)], S) := q_ialdY dX9_tryLeap_5 h0 h1
theorem eX9_tryLeap_6 {l0 l1 : Option VV} {v0 : VV} {S : MM} : rn xX9_tryLeap (6, [l0, l1], [v0], S) = rn xX9_tryLeap (7, [l0, l1], [vI 1, v0], S) := rn_step dX9_tryLeap_6 rfl rfl
theorem eX9_tryLeap_7 {a b : Int} {l0 l1 : Option VV} (h : -2147483648 ≤ a ∧ a ≤ 2147483647) (h1 : -2147483648 ≤ b ∧ b ≤ 2147483647) {S : MM} : rn xX9_tryLeap (7, [l0, l1], [vI b, vI a], S) = if a = b then rn xX9_tryLeap (13, [l0, l1], [], S) else rn xX9_tryLeap (10, [l0, l1], [], S) := q_icmp_eq dX9_tryLeap_7 (by decide) rfl h h1
theorem eX9_tryLeap_10 {l0 l1 : Option VV} {S : MM} : rn xX9_tryLeap (10, [l0, l1], [], S) = rn xX9_tryLeap (12, [l0, l1], [vI (-5)], S) := rn_step dX9_tryLeap_10 rfl rfl
theorem eX9_tryLeap_12 {z : Int} {l0 l1 : Option VV} {S : MM} : rn xX9_tryLeap (12, [l0, l1], [vI z], S) = some (some (vI z), S) := q_retI dX9_tryLeap_12 rfl
theorem eX9_tryLeap_13 {a : Option Nat} {l1 : Option VV} {S : MM} : rn xX9_tryLeap (13, [some (.inr (.inl a)), l1], [], S) = rn xX9_tryLeap (14, [some (.inr (.inl a)), l1], [.inr (.inl a)], S) := rn_step dX9_tryLeap_13 rfl rfl
theorem eX9_tryLeap_14 {a : Int} {l0 : Option VV} {v0 : VV} {S : MM} : rn xX9_tryLeap (14, [l0, some (vI a)], [v0], S) = rn xX9_tryLeap (15, [l0, some (vI a)], [vI a, v0], S) := rn_step dX9_tryLeap_14 rfl rfl
theorem eX9_tryLeap_15 {a0 : Int} {l0 l1 : Option VV} {S : MM} : rn xX9_tryLeap (15, [l0, l1], [vI a0, vR 593], S) = (fX9_keepIf [vR 593, vI a0] S).bind (fun q => rn xX9_tryLeap (18, [l0, l1], q.1.toList ++ [], q.2)) := q_callV (n := 1) (as := [vI a0]) (rest := []) dX9_tryLeap_15 rfl rfl rfl rfl kd593
theorem eX9_tryLeap_18 {a : Option Nat} {l1 : Option VV} {S : MM} : rn xX9_tryLeap (18, [some (.inr (.inl a)), l1], [], S) = rn xX9_tryLeap (19, [some (.inr (.inl a)), l1], [.inr (.inl a)], S) := rn_step dX9_tryLeap_18 rfl rfl
theorem eX9_tryLeap_19 {l0 l1 : Option VV} {S : MM} : rn xX9_tryLeap (19, [l0, l1], [vR 593], S) = (fX9_makeLeap [vR 593] S).bind (fun q => rn xX9_tryLeap (22, [l0, l1], q.1.toList ++ [], q.2)) := q_callV (n := 0) (as := []) (rest := []) dX9_tryLeap_19 rfl rfl rfl rfl kd593
theorem eX9_tryLeap_22 {z : Int} {l0 l1 : Option VV} {S : MM} : rn xX9_tryLeap (22, [l0, l1], [vI z], S) = some (some (vI z), S) := q_retI dX9_tryLeap_22 rfl
noncomputable def qlX9_leap : List CE := [(0, 116, 9, 2, fX9_tryLeap)]
noncomputable def xX9_leap : XX := (cX9_leap, fcF fcl9, mcF qlX9_leap, 1)
noncomputable def fX9_leap : FN := fnX xX9_leap 1
set_option maxRecDepth 100000 in
theorem cwX9_leap : Cond.code yX9_leap cX9_leap 1 (some .int) ∈ lw_g := lw_gm 990 (by decide +kernel) (by decide +kernel)
set_option maxRecDepth 100000 in
theorem conX9_leap : Con yX9_leap cX9_leap 1 (some .int) { frames := 6, cells := 0, slots := 0, locals := 137 } fX9_leap := con_of (X := xX9_leap) (own := "LeapStonesModel") (ql := qlX9_leap) (by decide) rfl FOK9 rfl (List.forall_mem_cons.mpr ⟨call_V conX9_tryLeap cwX9_tryLeap (lw_gl _ [991, 993, 30, 84] (by decide +kernel) (by decide +kernel)) (by decide) rfl ⟨by decide, by decide, by decide +kernel⟩ ⟨rfl, rfl⟩ ⟨by decide, by decide⟩ ⟨Nat.le_refl _, Nat.le_refl _⟩, fun _ h => absurd h List.not_mem_nil⟩) (Or.inr (Or.inl ⟨rfl, rfl⟩))
theorem uX9_leap {i : Nat} {S : MM} : fX9_leap [vR i] S = rn xX9_leap (0, [some (vR i)], [], S) := rfl
theorem dX9_leap_0 : decode cX9_leap 0 = .ok (.aload_n 0, 1) := by decide +kernel
theorem dX9_leap_1 : decode cX9_leap 1 = .ok (.iconst 1, 1) := by decide +kernel
theorem dX9_leap_2 : decode cX9_leap 2 = .ok (.invokevirtual 116, 3) := by decide +kernel
theorem dX9_leap_5 : decode cX9_leap 5 = .ok (.ireturn, 1) := by decide +kernel
theorem eX9_leap_0 {a : Option Nat} {S : MM} : rn xX9_leap (0, [some (.inr (.inl a))], [], S) = rn xX9_leap (1, [some (.inr (.inl a))], [.inr (.inl a)], S) := rn_step dX9_leap_0 rfl rfl
theorem eX9_leap_1 {l0 : Option VV} {v0 : VV} {S : MM} : rn xX9_leap (1, [l0], [v0], S) = rn xX9_leap (2, [l0], [vI 1, v0], S) := rn_step dX9_leap_1 rfl rfl
theorem eX9_leap_2 {a0 : Int} {l0 : Option VV} {S : MM} : rn xX9_leap (2, [l0], [vI a0, vR 593], S) = (fX9_tryLeap [vR 593, vI a0] S).bind (fun q => rn xX9_leap (5, [l0], q.1.toList ++ [], q.2)) := q_callV (n := 1) (as := [vI a0]) (rest := []) dX9_leap_2 rfl rfl rfl rfl kd593
theorem eX9_leap_5 {z : Int} {l0 : Option VV} {S : MM} : rn xX9_leap (5, [l0], [vI z], S) = some (some (vI z), S) := q_retI dX9_leap_5 rfl
noncomputable def qlX9_leapOn : List CE := [(0, 113, 9, 1, fX9_makeLeap)]
noncomputable def xX9_leapOn : XX := (cX9_leapOn, fcF fcl9, mcF qlX9_leapOn, 1)
noncomputable def fX9_leapOn : FN := fnX xX9_leapOn 2
set_option maxRecDepth 100000 in
theorem cwX9_leapOn : Cond.code yX9_leapOn cX9_leapOn 2 (some .int) ∈ lw_g := lw_gm 1038 (by decide +kernel) (by decide +kernel)
set_option maxRecDepth 100000 in
theorem conX9_leapOn : Con yX9_leapOn cX9_leapOn 2 (some .int) { frames := 5, cells := 0, slots := 0, locals := 116 } fX9_leapOn := con_of (X := xX9_leapOn) (own := "LeapStonesModel") (ql := qlX9_leapOn) (by decide) rfl FOK9 rfl (List.forall_mem_cons.mpr ⟨call_V conX9_makeLeap cwX9_makeLeap (lw_gl _ [999, 1001, 32, 84] (by decide +kernel) (by decide +kernel)) (by decide) rfl ⟨by decide, by decide, by decide +kernel⟩ ⟨rfl, rfl⟩ ⟨by decide, by decide⟩ ⟨Nat.le_refl _, Nat.le_refl _⟩, fun _ h => absurd h List.not_mem_nil⟩) (Or.inr (Or.inl ⟨rfl, rfl⟩))
theorem uX9_leapOn {i : Nat} {S : MM} : fX9_leapOn [vR i] S = rn xX9_leapOn (0, [some (vR i), none], [], S) := rfl
theorem dX9_leapOn_0 : decode cX9_leapOn 0 = .ok (.iconst 0, 1) := by decide +kernel
theorem dX9_leapOn_1 : decode cX9_leapOn 1 = .ok (.istore_n 1, 1) := by decide +kernel
theorem dX9_leapOn_2 : decode cX9_leapOn 2 = .ok (.aload_n 0, 1) := by decide +kernel
theorem dX9_leapOn_3 : decode cX9_leapOn 3 = .ok (.getfield 7, 3) := by decide +kernel
theorem dX9_leapOn_6 : decode cX9_leapOn 6 = .ok (.iconst 4, 1) := by decide +kernel
theorem dX9_leapOn_7 : decode cX9_leapOn 7 = .ok (.iaload, 1) := by decide +kernel
theorem dX9_leapOn_8 : decode cX9_leapOn 8 = .ok (.iconst 1, 1) := by decide +kernel
theorem dX9_leapOn_9 : decode cX9_leapOn 9 = .ok (.if_icmp .ne 14, 3) := by decide +kernel
theorem dX9_leapOn_12 : decode cX9_leapOn 12 = .ok (.aload_n 0, 1) := by decide +kernel
theorem dX9_leapOn_13 : decode cX9_leapOn 13 = .ok (.invokevirtual 113, 3) := by decide +kernel
theorem dX9_leapOn_16 : decode cX9_leapOn 16 = .ok (.pop, 1) := by decide +kernel
theorem dX9_leapOn_17 : decode cX9_leapOn 17 = .ok (.iinc 1 1, 3) := by decide +kernel
theorem dX9_leapOn_20 : decode cX9_leapOn 20 = .ok (.goto (-18), 3) := by decide +kernel
theorem dX9_leapOn_23 : decode cX9_leapOn 23 = .ok (.iload_n 1, 1) := by decide +kernel
theorem dX9_leapOn_24 : decode cX9_leapOn 24 = .ok (.ireturn, 1) := by decide +kernel
theorem eX9_leapOn_0 {l0 l1 : Option VV} {S : MM} : rn xX9_leapOn (0, [l0, l1], [], S) = rn xX9_leapOn (1, [l0, l1], [vI 0], S) := rn_step dX9_leapOn_0 rfl rfl
theorem eX9_leapOn_1 {a : Int} {w : Option Nat} {l1 : Option VV} {S : MM} : rn xX9_leapOn (1, [some (.inr (.inl w)), l1], [vI a], S) = rn xX9_leapOn (2, [some (.inr (.inl w)), some (vI a)], [], S) := rn_step dX9_leapOn_1 rfl rfl
theorem eX9_leapOn_2 {a : Option Nat} {l1 : Option VV} {S : MM} : rn xX9_leapOn (2, [some (.inr (.inl a)), l1], [], S) = rn xX9_leapOn (3, [some (.inr (.inl a)), l1], [.inr (.inl a)], S) := rn_step dX9_leapOn_2 rfl rfl
theorem eX9_leapOn_3 {l0 l1 : Option VV} {S : MM} : rn xX9_leapOn (3, [l0, l1], [vR 593], S) = rn xX9_leapOn (6, [l0, l1], [vR 594], S) := q_getR dX9_leapOn_3 rfl ⟨⟨by decide, by decide⟩, by decide⟩ (fun _ => by decide +kernel) kd593
theorem eX9_leapOn_6 {l0 l1 : Option VV} {v0 : VV} {S : MM} : rn xX9_leapOn (6, [l0, l1], [v0], S) = rn xX9_leapOn (7, [l0, l1], [vI 4, v0], S) := rn_step dX9_leapOn_6 rfl rfl
theorem eX9_leapOn_7 {i : Nat} {j : Int} {l0 l1 : Option VV} (h : kd i = 10) (h0 : 0 ≤ j) (h1 : j < alen i) {S : MM} : rn xX9_leapOn (7, [l0, l1], [vI j, vR i], S) = rn xX9_leapOn (8, [l0, l1], [vI (S i j.toNat)], S) := q_iald dX9_leapOn_7 h h0 h1
theorem eX9_leapOn_7x {j : Int} {l0 l1 : Option VV} {S : MM} (h0 : 0 ≤ j) (h1 : j < S 604 0) : rn xX9_leapOn (7, [l0, l1], [vI j, vR 602], S) = rn xX9_leapOn (8, [l0, l1], [vI (S 602 j.toNat)], S) := q_ialdX dX9_leapOn_7 h0 h1
theorem eX9_leapOn_7y {j : Int} {l0 l1 : Option VV} {S : MM} (h0 : 0 ≤ j) (h1 : j < S 604 1) : rn xX9_leapOn (7, [l0, l1], [vI j, vR 603], S) = rn xX9_leapOn (8, [l0, l1], [vI (S 603 j.toNat)], S) := q_ialdY dX9_leapOn_7 h0 h1
theorem eX9_leapOn_8 {l0 l1 : Option VV} {v0 : VV} {S : MM} : rn xX9_leapOn (8, [l0, l1], [v0], S) = rn xX9_leapOn (9, [l0, l1], [vI 1, v0], S) := rn_step dX9_leapOn_8 rfl rfl
theorem eX9_leapOn_9 {a b : Int} {l0 l1 : Option VV} (h : -2147483648 ≤ a ∧ a ≤ 2147483647) (h1 : -2147483648 ≤ b ∧ b ≤ 2147483647) {S : MM} : rn xX9_leapOn (9, [l0, l1], [vI b, vI a], S) = if a = b then rn xX9_leapOn (12, [l0, l1], [], S) else rn xX9_leapOn (23, [l0, l1], [], S) := q_icmp_ne dX9_leapOn_9 (by decide) rfl h h1
theorem eX9_leapOn_12 {a : Option Nat} {l1 : Option VV} {S : MM} : rn xX9_leapOn (12, [some (.inr (.inl a)), l1], [], S) = rn xX9_leapOn (13, [some (.inr (.inl a)), l1], [.inr (.inl a)], S) := rn_step dX9_leapOn_12 rfl rfl
theorem eX9_leapOn_13 {l0 l1 : Option VV} {S : MM} : rn xX9_leapOn (13, [l0, l1], [vR 593], S) = (fX9_makeLeap [vR 593] S).bind (fun q => rn xX9_leapOn (16, [l0, l1], q.1.toList ++ [], q.2)) := q_callV (n := 0) (as := []) (rest := []) dX9_leapOn_13 rfl rfl rfl rfl kd593
theorem eX9_leapOn_16 {a : Int} {l0 l1 : Option VV} {S : MM} : rn xX9_leapOn (16, [l0, l1], [vI a], S) = rn xX9_leapOn (17, [l0, l1], [], S) := rn_step dX9_leapOn_16 rfl rfl
theorem eX9_leapOn_17 {a : Int} {w : Option Nat} {S : MM} : rn xX9_leapOn (17, [some (.inr (.inl w)), some (vI a)], [], S) = rn xX9_leapOn (20, [some (.inr (.inl w)), some (vI (a + 1))], [], S) := rn_step dX9_leapOn_17 rfl rfl
theorem eX9_leapOn_20 {l0 l1 : Option VV} {S : MM} : rn xX9_leapOn (20, [l0, l1], [], S) = rn xX9_leapOn (2, [l0, l1], [], S) := rn_step dX9_leapOn_20 rfl rfl
theorem eX9_leapOn_23 {a : Int} {l0 : Option VV} {S : MM} : rn xX9_leapOn (23, [l0, some (vI a)], [], S) = rn xX9_leapOn (24, [l0, some (vI a)], [vI a], S) := rn_step dX9_leapOn_23 rfl rfl
theorem eX9_leapOn_24 {z : Int} {l0 l1 : Option VV} {S : MM} : rn xX9_leapOn (24, [l0, l1], [vI z], S) = some (some (vI z), S) := q_retI dX9_leapOn_24 rfl
noncomputable def qlX9_run : List CE := [(0, 50, 9, 1, fX9_keep), (0, 120, 9, 1, fX9_leapOn)]
noncomputable def xX9_run : XX := (cX9_run, fcF fcl9, mcF qlX9_run, 1)
noncomputable def fX9_run : FN := fnX xX9_run 1
set_option maxRecDepth 100000 in
theorem cwX9_run : Cond.code yX9_run cX9_run 1 (some .int) ∈ lw_g := lw_gm 1034 (by decide +kernel) (by decide +kernel)
set_option maxRecDepth 100000 in
theorem conX9_run : Con yX9_run cX9_run 1 (some .int) { frames := 6, cells := 0, slots := 0, locals := 137 } fX9_run := con_of (X := xX9_run) (own := "LeapStonesModel") (ql := qlX9_run) (by decide) rfl FOK9 rfl (List.forall_mem_cons.mpr ⟨call_V conX9_keep cwX9_keep (lw_gl _ [947, 949, 20, 84] (by decide +kernel) (by decide +kernel)) (by decide) rfl ⟨by decide, by decide, by decide +kernel⟩ ⟨rfl, rfl⟩ ⟨by decide, by decide⟩ ⟨Nat.le_refl _, Nat.le_refl _⟩, List.forall_mem_cons.mpr ⟨call_V conX9_leapOn cwX9_leapOn (lw_gl _ [1035, 1037, 40, 84] (by decide +kernel) (by decide +kernel)) (by decide) rfl ⟨by decide, by decide, by decide +kernel⟩ ⟨rfl, rfl⟩ ⟨by decide, by decide⟩ ⟨Nat.le_refl _, Nat.le_refl _⟩, fun _ h => absurd h List.not_mem_nil⟩⟩) (Or.inr (Or.inl ⟨rfl, rfl⟩))
theorem uX9_run {i : Nat} {S : MM} : fX9_run [vR i] S = rn xX9_run (0, [some (vR i)], [], S) := rfl
theorem dX9_run_0 : decode cX9_run 0 = .ok (.aload_n 0, 1) := by decide +kernel
theorem dX9_run_1 : decode cX9_run 1 = .ok (.getfield 7, 3) := by decide +kernel
theorem dX9_run_4 : decode cX9_run 4 = .ok (.iconst 4, 1) := by decide +kernel
theorem dX9_run_5 : decode cX9_run 5 = .ok (.iaload, 1) := by decide +kernel
theorem dX9_run_6 : decode cX9_run 6 = .ok (.iconst 1, 1) := by decide +kernel
theorem dX9_run_7 : decode cX9_run 7 = .ok (.if_icmp .eq 6, 3) := by decide +kernel
theorem dX9_run_10 : decode cX9_run 10 = .ok (.bipush (-5), 2) := by decide +kernel
theorem dX9_run_12 : decode cX9_run 12 = .ok (.ireturn, 1) := by decide +kernel
theorem dX9_run_13 : decode cX9_run 13 = .ok (.aload_n 0, 1) := by decide +kernel
theorem dX9_run_14 : decode cX9_run 14 = .ok (.invokevirtual 50, 3) := by decide +kernel
theorem dX9_run_17 : decode cX9_run 17 = .ok (.aload_n 0, 1) := by decide +kernel
theorem dX9_run_18 : decode cX9_run 18 = .ok (.invokevirtual 120, 3) := by decide +kernel
theorem dX9_run_21 : decode cX9_run 21 = .ok (.ireturn, 1) := by decide +kernel
theorem eX9_run_0 {a : Option Nat} {S : MM} : rn xX9_run (0, [some (.inr (.inl a))], [], S) = rn xX9_run (1, [some (.inr (.inl a))], [.inr (.inl a)], S) := rn_step dX9_run_0 rfl rfl
theorem eX9_run_1 {l0 : Option VV} {S : MM} : rn xX9_run (1, [l0], [vR 593], S) = rn xX9_run (4, [l0], [vR 594], S) := q_getR dX9_run_1 rfl ⟨⟨by decide, by decide⟩, by decide⟩ (fun _ => by decide +kernel) kd593
theorem eX9_run_4 {l0 : Option VV} {v0 : VV} {S : MM} : rn xX9_run (4, [l0], [v0], S) = rn xX9_run (5, [l0], [vI 4, v0], S) := rn_step dX9_run_4 rfl rfl
theorem eX9_run_5 {i : Nat} {j : Int} {l0 : Option VV} (h : kd i = 10) (h0 : 0 ≤ j) (h1 : j < alen i) {S : MM} : rn xX9_run (5, [l0], [vI j, vR i], S) = rn xX9_run (6, [l0], [vI (S i j.toNat)], S) := q_iald dX9_run_5 h h0 h1
theorem eX9_run_5x {j : Int} {l0 : Option VV} {S : MM} (h0 : 0 ≤ j) (h1 : j < S 604 0) : rn xX9_run (5, [l0], [vI j, vR 602], S) = rn xX9_run (6, [l0], [vI (S 602 j.toNat)], S) := q_ialdX dX9_run_5 h0 h1
theorem eX9_run_5y {j : Int} {l0 : Option VV} {S : MM} (h0 : 0 ≤ j) (h1 : j < S 604 1) : rn xX9_run (5, [l0], [vI j, vR 603], S) = rn xX9_run (6, [l0], [vI (S 603 j.toNat)], S) := q_ialdY dX9_run_5 h0 h1
theorem eX9_run_6 {l0 : Option VV} {v0 : VV} {S : MM} : rn xX9_run (6, [l0], [v0], S) = rn xX9_run (7, [l0], [vI 1, v0], S) := rn_step dX9_run_6 rfl rfl
theorem eX9_run_7 {a b : Int} {l0 : Option VV} (h : -2147483648 ≤ a ∧ a ≤ 2147483647) (h1 : -2147483648 ≤ b ∧ b ≤ 2147483647) {S : MM} : rn xX9_run (7, [l0], [vI b, vI a], S) = if a = b then rn xX9_run (13, [l0], [], S) else rn xX9_run (10, [l0], [], S) := q_icmp_eq dX9_run_7 (by decide) rfl h h1
theorem eX9_run_10 {l0 : Option VV} {S : MM} : rn xX9_run (10, [l0], [], S) = rn xX9_run (12, [l0], [vI (-5)], S) := rn_step dX9_run_10 rfl rfl
theorem eX9_run_12 {z : Int} {l0 : Option VV} {S : MM} : rn xX9_run (12, [l0], [vI z], S) = some (some (vI z), S) := q_retI dX9_run_12 rfl
theorem eX9_run_13 {a : Option Nat} {S : MM} : rn xX9_run (13, [some (.inr (.inl a))], [], S) = rn xX9_run (14, [some (.inr (.inl a))], [.inr (.inl a)], S) := rn_step dX9_run_13 rfl rfl
theorem eX9_run_14 {l0 : Option VV} {S : MM} : rn xX9_run (14, [l0], [vR 593], S) = (fX9_keep [vR 593] S).bind (fun q => rn xX9_run (17, [l0], q.1.toList ++ [], q.2)) := q_callV (n := 0) (as := []) (rest := []) dX9_run_14 rfl rfl rfl rfl kd593
theorem eX9_run_17 {a : Option Nat} {S : MM} : rn xX9_run (17, [some (.inr (.inl a))], [], S) = rn xX9_run (18, [some (.inr (.inl a))], [.inr (.inl a)], S) := rn_step dX9_run_17 rfl rfl
theorem eX9_run_18 {l0 : Option VV} {S : MM} : rn xX9_run (18, [l0], [vR 593], S) = (fX9_leapOn [vR 593] S).bind (fun q => rn xX9_run (21, [l0], q.1.toList ++ [], q.2)) := q_callV (n := 0) (as := []) (rest := []) dX9_run_18 rfl rfl rfl rfl kd593
theorem eX9_run_21 {z : Int} {l0 : Option VV} {S : MM} : rn xX9_run (21, [l0], [vI z], S) = some (some (vI z), S) := q_retI dX9_run_21 rfl
noncomputable def qlX9_set : List CE := [(1, 35, 0, 3, fX9_in), (0, 50, 9, 1, fX9_keep), (0, 60, 9, 1, fX9_overIfSo)]
noncomputable def xX9_set : XX := (cX9_set, fcF fcl9, mcF qlX9_set, 1)
noncomputable def fX9_set : FN := fnX xX9_set 5
set_option maxRecDepth 100000 in
theorem cwX9_set : Cond.code yX9_set cX9_set 5 (some .int) ∈ lw_g := lw_gm 1042 (by decide +kernel) (by decide +kernel)
set_option maxRecDepth 100000 in
theorem conX9_set : Con yX9_set cX9_set 5 (some .int) { frames := 2, cells := 0, slots := 0, locals := 42 } fX9_set := con_of (X := xX9_set) (own := "LeapStonesModel") (ql := qlX9_set) (by decide) rfl FOK9 rfl (List.forall_mem_cons.mpr ⟨call_S conX9_in cwX9_in (lw_gl _ [1043, 1044, 84] (by decide +kernel) (by decide +kernel)) ⟨by decide, by decide, by decide +kernel⟩ ⟨rfl, rfl⟩ ⟨by decide, by decide⟩ ⟨Nat.le_refl _, Nat.le_refl _⟩, List.forall_mem_cons.mpr ⟨call_V conX9_keep cwX9_keep (lw_gl _ [947, 949, 20, 84] (by decide +kernel) (by decide +kernel)) (by decide) rfl ⟨by decide, by decide, by decide +kernel⟩ ⟨rfl, rfl⟩ ⟨by decide, by decide⟩ ⟨Nat.le_refl _, Nat.le_refl _⟩, List.forall_mem_cons.mpr ⟨call_V conX9_overIfSo cwX9_overIfSo (lw_gl _ [971, 973, 26, 84] (by decide +kernel) (by decide +kernel)) (by decide) rfl ⟨by decide, by decide, by decide +kernel⟩ ⟨rfl, rfl⟩ ⟨by decide, by decide⟩ ⟨Nat.le_refl _, Nat.le_refl _⟩, fun _ h => absurd h List.not_mem_nil⟩⟩⟩) (Or.inr (Or.inl ⟨rfl, rfl⟩))
theorem uX9_set {i : Nat} {a0 : Int} {a1 : Int} {S : MM} : fX9_set [vR i, vI a0, vI a1] S = rn xX9_set (0, [some (vR i), some (vI a0), some (vI a1), none, none], [], S) := rfl
theorem dX9_set_0 : decode cX9_set 0 = .ok (.iload_n 1, 1) := by decide +kernel
theorem dX9_set_1 : decode cX9_set 1 = .ok (.iconst 2, 1) := by decide +kernel
theorem dX9_set_2 : decode cX9_set 2 = .ok (.if_icmp .ne 7, 3) := by decide +kernel
theorem dX9_set_5 : decode cX9_set 5 = .ok (.iconst 2, 1) := by decide +kernel
theorem dX9_set_6 : decode cX9_set 6 = .ok (.goto 15, 3) := by decide +kernel
theorem dX9_set_9 : decode cX9_set 9 = .ok (.iload_n 1, 1) := by decide +kernel
theorem dX9_set_10 : decode cX9_set 10 = .ok (.iconst 3, 1) := by decide +kernel
theorem dX9_set_11 : decode cX9_set 11 = .ok (.if_icmp .ne 7, 3) := by decide +kernel
theorem dX9_set_14 : decode cX9_set 14 = .ok (.iconst 5, 1) := by decide +kernel
theorem dX9_set_15 : decode cX9_set 15 = .ok (.goto 6, 3) := by decide +kernel
theorem dX9_set_18 : decode cX9_set 18 = .ok (.sipush 299, 3) := by decide +kernel
theorem dX9_set_21 : decode cX9_set 21 = .ok (.istore_n 3, 1) := by decide +kernel
theorem dX9_set_22 : decode cX9_set 22 = .ok (.iload_n 1, 1) := by decide +kernel
theorem dX9_set_23 : decode cX9_set 23 = .ok (.iconst 0, 1) := by decide +kernel
theorem dX9_set_24 : decode cX9_set 24 = .ok (.iconst 3, 1) := by decide +kernel
theorem dX9_set_25 : decode cX9_set 25 = .ok (.invokestatic 35, 3) := by decide +kernel
theorem dX9_set_28 : decode cX9_set 28 = .ok (.ifCond .eq 12, 3) := by decide +kernel
theorem dX9_set_31 : decode cX9_set 31 = .ok (.iload_n 2, 1) := by decide +kernel
theorem dX9_set_32 : decode cX9_set 32 = .ok (.iconst 0, 1) := by decide +kernel
theorem dX9_set_33 : decode cX9_set 33 = .ok (.iload_n 3, 1) := by decide +kernel
theorem dX9_set_34 : decode cX9_set 34 = .ok (.invokestatic 35, 3) := by decide +kernel
theorem dX9_set_37 : decode cX9_set 37 = .ok (.ifCond .ne 6, 3) := by decide +kernel
theorem dX9_set_40 : decode cX9_set 40 = .ok (.bipush (-2), 2) := by decide +kernel
theorem dX9_set_42 : decode cX9_set 42 = .ok (.ireturn, 1) := by decide +kernel
theorem dX9_set_43 : decode cX9_set 43 = .ok (.aload_n 0, 1) := by decide +kernel
theorem dX9_set_44 : decode cX9_set 44 = .ok (.invokevirtual 50, 3) := by decide +kernel
theorem dX9_set_47 : decode cX9_set 47 = .ok (.aload_n 0, 1) := by decide +kernel
theorem dX9_set_48 : decode cX9_set 48 = .ok (.getfield 7, 3) := by decide +kernel
theorem dX9_set_51 : decode cX9_set 51 = .ok (.iload_n 1, 1) := by decide +kernel
theorem dX9_set_52 : decode cX9_set 52 = .ok (.iaload, 1) := by decide +kernel
theorem dX9_set_53 : decode cX9_set 53 = .ok (.istore 4, 2) := by decide +kernel
theorem dX9_set_55 : decode cX9_set 55 = .ok (.aload_n 0, 1) := by decide +kernel
theorem dX9_set_56 : decode cX9_set 56 = .ok (.getfield 7, 3) := by decide +kernel
theorem dX9_set_59 : decode cX9_set 59 = .ok (.iload_n 1, 1) := by decide +kernel
theorem dX9_set_60 : decode cX9_set 60 = .ok (.iload_n 2, 1) := by decide +kernel
theorem dX9_set_61 : decode cX9_set 61 = .ok (.iastore, 1) := by decide +kernel
theorem dX9_set_62 : decode cX9_set 62 = .ok (.aload_n 0, 1) := by decide +kernel
theorem dX9_set_63 : decode cX9_set 63 = .ok (.invokevirtual 60, 3) := by decide +kernel
theorem dX9_set_66 : decode cX9_set 66 = .ok (.iload 4, 2) := by decide +kernel
theorem dX9_set_68 : decode cX9_set 68 = .ok (.ireturn, 1) := by decide +kernel
theorem eX9_set_0 {a : Int} {l0 l2 l3 l4 : Option VV} {S : MM} : rn xX9_set (0, [l0, some (vI a), l2, l3, l4], [], S) = rn xX9_set (1, [l0, some (vI a), l2, l3, l4], [vI a], S) := rn_step dX9_set_0 rfl rfl
theorem eX9_set_1 {l0 l1 l2 l3 l4 : Option VV} {v0 : VV} {S : MM} : rn xX9_set (1, [l0, l1, l2, l3, l4], [v0], S) = rn xX9_set (2, [l0, l1, l2, l3, l4], [vI 2, v0], S) := rn_step dX9_set_1 rfl rfl
theorem eX9_set_2 {a b : Int} {l0 l1 l2 l3 l4 : Option VV} (h : -2147483648 ≤ a ∧ a ≤ 2147483647) (h1 : -2147483648 ≤ b ∧ b ≤ 2147483647) {S : MM} : rn xX9_set (2, [l0, l1, l2, l3, l4], [vI b, vI a], S) = if a = b then rn xX9_set (5, [l0, l1, l2, l3, l4], [], S) else rn xX9_set (9, [l0, l1, l2, l3, l4], [], S) := q_icmp_ne dX9_set_2 (by decide) rfl h h1
theorem eX9_set_5 {l0 l1 l2 l3 l4 : Option VV} {S : MM} : rn xX9_set (5, [l0, l1, l2, l3, l4], [], S) = rn xX9_set (6, [l0, l1, l2, l3, l4], [vI 2], S) := rn_step dX9_set_5 rfl rfl
theorem eX9_set_6 {l0 l1 l2 l3 l4 : Option VV} {v0 : VV} {S : MM} : rn xX9_set (6, [l0, l1, l2, l3, l4], [v0], S) = rn xX9_set (21, [l0, l1, l2, l3, l4], [v0], S) := rn_step dX9_set_6 rfl rfl
theorem eX9_set_9 {a : Int} {l0 l2 l3 l4 : Option VV} {S : MM} : rn xX9_set (9, [l0, some (vI a), l2, l3, l4], [], S) = rn xX9_set (10, [l0, some (vI a), l2, l3, l4], [vI a], S) := rn_step dX9_set_9 rfl rfl
theorem eX9_set_10 {l0 l1 l2 l3 l4 : Option VV} {v0 : VV} {S : MM} : rn xX9_set (10, [l0, l1, l2, l3, l4], [v0], S) = rn xX9_set (11, [l0, l1, l2, l3, l4], [vI 3, v0], S) := rn_step dX9_set_10 rfl rfl
theorem eX9_set_11 {a b : Int} {l0 l1 l2 l3 l4 : Option VV} (h : -2147483648 ≤ a ∧ a ≤ 2147483647) (h1 : -2147483648 ≤ b ∧ b ≤ 2147483647) {S : MM} : rn xX9_set (11, [l0, l1, l2, l3, l4], [vI b, vI a], S) = if a = b then rn xX9_set (14, [l0, l1, l2, l3, l4], [], S) else rn xX9_set (18, [l0, l1, l2, l3, l4], [], S) := q_icmp_ne dX9_set_11 (by decide) rfl h h1
theorem eX9_set_14 {l0 l1 l2 l3 l4 : Option VV} {S : MM} : rn xX9_set (14, [l0, l1, l2, l3, l4], [], S) = rn xX9_set (15, [l0, l1, l2, l3, l4], [vI 5], S) := rn_step dX9_set_14 rfl rfl
theorem eX9_set_15 {l0 l1 l2 l3 l4 : Option VV} {v0 : VV} {S : MM} : rn xX9_set (15, [l0, l1, l2, l3, l4], [v0], S) = rn xX9_set (21, [l0, l1, l2, l3, l4], [v0], S) := rn_step dX9_set_15 rfl rfl
theorem eX9_set_18 {l0 l1 l2 l3 l4 : Option VV} {S : MM} : rn xX9_set (18, [l0, l1, l2, l3, l4], [], S) = rn xX9_set (21, [l0, l1, l2, l3, l4], [vI 299], S) := rn_step dX9_set_18 rfl rfl
theorem eX9_set_21 {a : Int} {w : Int} {l0 l1 l3 l4 : Option VV} {S : MM} : rn xX9_set (21, [l0, l1, some (vI w), l3, l4], [vI a], S) = rn xX9_set (22, [l0, l1, some (vI w), some (vI a), l4], [], S) := rn_step dX9_set_21 rfl rfl
theorem eX9_set_22 {a : Int} {l0 l2 l3 l4 : Option VV} {S : MM} : rn xX9_set (22, [l0, some (vI a), l2, l3, l4], [], S) = rn xX9_set (23, [l0, some (vI a), l2, l3, l4], [vI a], S) := rn_step dX9_set_22 rfl rfl
theorem eX9_set_23 {l0 l1 l2 l3 l4 : Option VV} {v0 : VV} {S : MM} : rn xX9_set (23, [l0, l1, l2, l3, l4], [v0], S) = rn xX9_set (24, [l0, l1, l2, l3, l4], [vI 0, v0], S) := rn_step dX9_set_23 rfl rfl
theorem eX9_set_24 {l0 l1 l2 l3 l4 : Option VV} {v0 v1 : VV} {S : MM} : rn xX9_set (24, [l0, l1, l2, l3, l4], [v0, v1], S) = rn xX9_set (25, [l0, l1, l2, l3, l4], [vI 3, v0, v1], S) := rn_step dX9_set_24 rfl rfl
theorem eX9_set_25 {a0 : Int} {a1 : Int} {a2 : Int} {l0 l1 l2 l3 l4 : Option VV} {S : MM} : rn xX9_set (25, [l0, l1, l2, l3, l4], [vI a2, vI a1, vI a0], S) = (fX9_in [vI a0, vI a1, vI a2] S).bind (fun q => rn xX9_set (28, [l0, l1, l2, l3, l4], q.1.toList ++ [], q.2)) := q_callS (n := 3) (as := [vI a0, vI a1, vI a2]) (rest := []) dX9_set_25 rfl rfl rfl rfl
theorem eX9_set_28 {a : Int} {l0 l1 l2 l3 l4 : Option VV} (h : -2147483648 ≤ a ∧ a ≤ 2147483647) {S : MM} : rn xX9_set (28, [l0, l1, l2, l3, l4], [vI a], S) = if a = 0 then rn xX9_set (40, [l0, l1, l2, l3, l4], [], S) else rn xX9_set (31, [l0, l1, l2, l3, l4], [], S) := q_if_eq dX9_set_28 (by decide) rfl h
theorem eX9_set_31 {a : Int} {l0 l1 l3 l4 : Option VV} {S : MM} : rn xX9_set (31, [l0, l1, some (vI a), l3, l4], [], S) = rn xX9_set (32, [l0, l1, some (vI a), l3, l4], [vI a], S) := rn_step dX9_set_31 rfl rfl
theorem eX9_set_32 {l0 l1 l2 l3 l4 : Option VV} {v0 : VV} {S : MM} : rn xX9_set (32, [l0, l1, l2, l3, l4], [v0], S) = rn xX9_set (33, [l0, l1, l2, l3, l4], [vI 0, v0], S) := rn_step dX9_set_32 rfl rfl
theorem eX9_set_33 {a : Int} {l0 l1 l2 l4 : Option VV} {v0 v1 : VV} {S : MM} : rn xX9_set (33, [l0, l1, l2, some (vI a), l4], [v0, v1], S) = rn xX9_set (34, [l0, l1, l2, some (vI a), l4], [vI a, v0, v1], S) := rn_step dX9_set_33 rfl rfl
theorem eX9_set_34 {a0 : Int} {a1 : Int} {a2 : Int} {l0 l1 l2 l3 l4 : Option VV} {S : MM} : rn xX9_set (34, [l0, l1, l2, l3, l4], [vI a2, vI a1, vI a0], S) = (fX9_in [vI a0, vI a1, vI a2] S).bind (fun q => rn xX9_set (37, [l0, l1, l2, l3, l4], q.1.toList ++ [], q.2)) := q_callS (n := 3) (as := [vI a0, vI a1, vI a2]) (rest := []) dX9_set_34 rfl rfl rfl rfl
theorem eX9_set_37 {a : Int} {l0 l1 l2 l3 l4 : Option VV} (h : -2147483648 ≤ a ∧ a ≤ 2147483647) {S : MM} : rn xX9_set (37, [l0, l1, l2, l3, l4], [vI a], S) = if a = 0 then rn xX9_set (40, [l0, l1, l2, l3, l4], [], S) else rn xX9_set (43, [l0, l1, l2, l3, l4], [], S) := q_if_ne dX9_set_37 (by decide) rfl h
theorem eX9_set_40 {l0 l1 l2 l3 l4 : Option VV} {S : MM} : rn xX9_set (40, [l0, l1, l2, l3, l4], [], S) = rn xX9_set (42, [l0, l1, l2, l3, l4], [vI (-2)], S) := rn_step dX9_set_40 rfl rfl
theorem eX9_set_42 {z : Int} {l0 l1 l2 l3 l4 : Option VV} {S : MM} : rn xX9_set (42, [l0, l1, l2, l3, l4], [vI z], S) = some (some (vI z), S) := q_retI dX9_set_42 rfl
theorem eX9_set_43 {a : Option Nat} {l1 l2 l3 l4 : Option VV} {S : MM} : rn xX9_set (43, [some (.inr (.inl a)), l1, l2, l3, l4], [], S) = rn xX9_set (44, [some (.inr (.inl a)), l1, l2, l3, l4], [.inr (.inl a)], S) := rn_step dX9_set_43 rfl rfl
theorem eX9_set_44 {l0 l1 l2 l3 l4 : Option VV} {S : MM} : rn xX9_set (44, [l0, l1, l2, l3, l4], [vR 593], S) = (fX9_keep [vR 593] S).bind (fun q => rn xX9_set (47, [l0, l1, l2, l3, l4], q.1.toList ++ [], q.2)) := q_callV (n := 0) (as := []) (rest := []) dX9_set_44 rfl rfl rfl rfl kd593
theorem eX9_set_47 {a : Option Nat} {l1 l2 l3 l4 : Option VV} {S : MM} : rn xX9_set (47, [some (.inr (.inl a)), l1, l2, l3, l4], [], S) = rn xX9_set (48, [some (.inr (.inl a)), l1, l2, l3, l4], [.inr (.inl a)], S) := rn_step dX9_set_47 rfl rfl
theorem eX9_set_48 {l0 l1 l2 l3 l4 : Option VV} {S : MM} : rn xX9_set (48, [l0, l1, l2, l3, l4], [vR 593], S) = rn xX9_set (51, [l0, l1, l2, l3, l4], [vR 594], S) := q_getR dX9_set_48 rfl ⟨⟨by decide, by decide⟩, by decide⟩ (fun _ => by decide +kernel) kd593
theorem eX9_set_51 {a : Int} {l0 l2 l3 l4 : Option VV} {v0 : VV} {S : MM} : rn xX9_set (51, [l0, some (vI a), l2, l3, l4], [v0], S) = rn xX9_set (52, [l0, some (vI a), l2, l3, l4], [vI a, v0], S) := rn_step dX9_set_51 rfl rfl
theorem eX9_set_52 {i : Nat} {j : Int} {l0 l1 l2 l3 l4 : Option VV} (h : kd i = 10) (h0 : 0 ≤ j) (h1 : j < alen i) {S : MM} : rn xX9_set (52, [l0, l1, l2, l3, l4], [vI j, vR i], S) = rn xX9_set (53, [l0, l1, l2, l3, l4], [vI (S i j.toNat)], S) := q_iald dX9_set_52 h h0 h1
theorem eX9_set_52x {j : Int} {l0 l1 l2 l3 l4 : Option VV} {S : MM} (h0 : 0 ≤ j) (h1 : j < S 604 0) : rn xX9_set (52, [l0, l1, l2, l3, l4], [vI j, vR 602], S) = rn xX9_set (53, [l0, l1, l2, l3, l4], [vI (S 602 j.toNat)], S) := q_ialdX dX9_set_52 h0 h1
theorem eX9_set_52y {j : Int} {l0 l1 l2 l3 l4 : Option VV} {S : MM} (h0 : 0 ≤ j) (h1 : j < S 604 1) : rn xX9_set (52, [l0, l1, l2, l3, l4], [vI j, vR 603], S) = rn xX9_set (53, [l0, l1, l2, l3, l4], [vI (S 603 j.toNat)], S) := q_ialdY dX9_set_52 h0 h1
theorem eX9_set_53 {a : Int} {w : Int} {l0 l1 l2 l4 : Option VV} {S : MM} : rn xX9_set (53, [l0, l1, l2, some (vI w), l4], [vI a], S) = rn xX9_set (55, [l0, l1, l2, some (vI w), some (vI a)], [], S) := rn_step dX9_set_53 rfl rfl
theorem eX9_set_55 {a : Option Nat} {l1 l2 l3 l4 : Option VV} {S : MM} : rn xX9_set (55, [some (.inr (.inl a)), l1, l2, l3, l4], [], S) = rn xX9_set (56, [some (.inr (.inl a)), l1, l2, l3, l4], [.inr (.inl a)], S) := rn_step dX9_set_55 rfl rfl
theorem eX9_set_56 {l0 l1 l2 l3 l4 : Option VV} {S : MM} : rn xX9_set (56, [l0, l1, l2, l3, l4], [vR 593], S) = rn xX9_set (59, [l0, l1, l2, l3, l4], [vR 594], S) := q_getR dX9_set_56 rfl ⟨⟨by decide, by decide⟩, by decide⟩ (fun _ => by decide +kernel) kd593
theorem eX9_set_59 {a : Int} {l0 l2 l3 l4 : Option VV} {v0 : VV} {S : MM} : rn xX9_set (59, [l0, some (vI a), l2, l3, l4], [v0], S) = rn xX9_set (60, [l0, some (vI a), l2, l3, l4], [vI a, v0], S) := rn_step dX9_set_59 rfl rfl
theorem eX9_set_60 {a : Int} {l0 l1 l3 l4 : Option VV} {v0 v1 : VV} {S : MM} : rn xX9_set (60, [l0, l1, some (vI a), l3, l4], [v0, v1], S) = rn xX9_set (61, [l0, l1, some (vI a), l3, l4], [vI a, v0, v1], S) := rn_step dX9_set_60 rfl rfl
theorem eX9_set_61 {i : Nat} {j z : Int} {l0 l1 l2 l3 l4 : Option VV} (h : kd i = 10) (h0 : 0 ≤ j) (h1 : j < alen i) {S : MM} : rn xX9_set (61, [l0, l1, l2, l3, l4], [vI z, vI j, vR i], S) = rn xX9_set (62, [l0, l1, l2, l3, l4], [], updM S i j.toNat z) := q_iast dX9_set_61 h h0 h1
theorem eX9_set_62 {a : Option Nat} {l1 l2 l3 l4 : Option VV} {S : MM} : rn xX9_set (62, [some (.inr (.inl a)), l1, l2, l3, l4], [], S) = rn xX9_set (63, [some (.inr (.inl a)), l1, l2, l3, l4], [.inr (.inl a)], S) := rn_step dX9_set_62 rfl rfl
theorem eX9_set_63 {l0 l1 l2 l3 l4 : Option VV} {S : MM} : rn xX9_set (63, [l0, l1, l2, l3, l4], [vR 593], S) = (fX9_overIfSo [vR 593] S).bind (fun q => rn xX9_set (66, [l0, l1, l2, l3, l4], q.1.toList ++ [], q.2)) := q_callV (n := 0) (as := []) (rest := []) dX9_set_63 rfl rfl rfl rfl kd593
theorem eX9_set_66 {a : Int} {l0 l1 l2 l3 : Option VV} {S : MM} : rn xX9_set (66, [l0, l1, l2, l3, some (vI a)], [], S) = rn xX9_set (68, [l0, l1, l2, l3, some (vI a)], [vI a], S) := rn_step dX9_set_66 rfl rfl
theorem eX9_set_68 {z : Int} {l0 l1 l2 l3 l4 : Option VV} {S : MM} : rn xX9_set (68, [l0, l1, l2, l3, l4], [vI z], S) = some (some (vI z), S) := q_retI dX9_set_68 rfl
noncomputable def qlX9_tryStone : List CE := [(1, 123, 0, 1, fX9_isWalker), (1, 126, 0, 1, fX9_isKey), (1, 35, 0, 3, fX9_in), (0, 39, 9, 3, fX9_repeats), (0, 129, 9, 2, fX9_stonesOf)]
noncomputable def xX9_tryStone : XX := (cX9_tryStone, fcF fcl9, mcF qlX9_tryStone, 1)
noncomputable def fX9_tryStone : FN := fnX xX9_tryStone 4
set_option maxRecDepth 100000 in
theorem cwX9_tryStone : Cond.code yX9_tryStone cX9_tryStone 4 (some .int) ∈ lw_g := lw_gm 1053 (by decide +kernel) (by decide +kernel)
set_option maxRecDepth 100000 in
theorem conX9_tryStone : Con yX9_tryStone cX9_tryStone 4 (some .int) { frames := 2, cells := 0, slots := 0, locals := 45 } fX9_tryStone := con_of (X := xX9_tryStone) (own := "LeapStonesModel") (ql := qlX9_tryStone) (by decide) rfl FOK9 rfl (List.forall_mem_cons.mpr ⟨call_S conX9_isWalker cwX9_isWalker (lw_gl _ [1054, 1055, 84] (by decide +kernel) (by decide +kernel)) ⟨by decide, by decide, by decide +kernel⟩ ⟨rfl, rfl⟩ ⟨by decide, by decide⟩ ⟨Nat.le_refl _, Nat.le_refl _⟩, List.forall_mem_cons.mpr ⟨call_S conX9_isKey cwX9_isKey (lw_gl _ [1057, 1058, 84] (by decide +kernel) (by decide +kernel)) ⟨by decide, by decide, by decide +kernel⟩ ⟨rfl, rfl⟩ ⟨by decide, by decide⟩ ⟨Nat.le_refl _, Nat.le_refl _⟩, List.forall_mem_cons.mpr ⟨call_S conX9_in cwX9_in (lw_gl _ [1043, 1044, 84] (by decide +kernel) (by decide +kernel)) ⟨by decide, by decide, by decide +kernel⟩ ⟨rfl, rfl⟩ ⟨by decide, by decide⟩ ⟨Nat.le_refl _, Nat.le_refl _⟩, List.forall_mem_cons.mpr ⟨call_V conX9_repeats cwX9_repeats (lw_gl _ [959, 961, 23, 84] (by decide +kernel) (by decide +kernel)) (by decide) rfl ⟨by decide, by decide, by decide +kernel⟩ ⟨rfl, rfl⟩ ⟨by decide, by decide⟩ ⟨Nat.le_refl _, Nat.le_refl _⟩, List.forall_mem_cons.mpr ⟨call_V conX9_stonesOf cwX9_stonesOf (lw_gl _ [1060, 1062, 42, 84] (by decide +kernel) (by decide +kernel)) (by decide) rfl ⟨by decide, by decide, by decide +kernel⟩ ⟨rfl, rfl⟩ ⟨by decide, by decide⟩ ⟨Nat.le_refl _, Nat.le_refl _⟩, fun _ h => absurd h List.not_mem_nil⟩⟩⟩⟩⟩) (Or.inr (Or.inl ⟨rfl, rfl⟩))
theorem uX9_tryStone {i : Nat} {a0 : Int} {a1 : Int} {a2 : Int} {S : MM} : fX9_tryStone [vR i, vI a0, vI a1, vI a2] S = rn xX9_tryStone (0, [some (vR i), some (vI a0), some (vI a1), some (vI a2)], [], S) := rfl
theorem dX9_tryStone_0 : decode cX9_tryStone 0 = .ok (.iload_n 1, 1) := by decide +kernel
theorem dX9_tryStone_1 : decode cX9_tryStone 1 = .ok (.invokestatic 123, 3) := by decide +kernel
theorem dX9_tryStone_4 : decode cX9_tryStone 4 = .ok (.ifCond .ne 5, 3) := by decide +kernel
theorem dX9_tryStone_7 : decode cX9_tryStone 7 = .ok (.iconst (-1), 1) := by decide +kernel
theorem dX9_tryStone_8 : decode cX9_tryStone 8 = .ok (.ireturn, 1) := by decide +kernel
theorem dX9_tryStone_9 : decode cX9_tryStone 9 = .ok (.iload_n 2, 1) := by decide +kernel
theorem dX9_tryStone_10 : decode cX9_tryStone 10 = .ok (.invokestatic 126, 3) := by decide +kernel
theorem dX9_tryStone_13 : decode cX9_tryStone 13 = .ok (.ifCond .eq 13, 3) := by decide +kernel
theorem dX9_tryStone_16 : decode cX9_tryStone 16 = .ok (.iload_n 3, 1) := by decide +kernel
theorem dX9_tryStone_17 : decode cX9_tryStone 17 = .ok (.iconst 1, 1) := by decide +kernel
theorem dX9_tryStone_18 : decode cX9_tryStone 18 = .ok (.bipush 9, 2) := by decide +kernel
theorem dX9_tryStone_20 : decode cX9_tryStone 20 = .ok (.invokestatic 35, 3) := by decide +kernel
theorem dX9_tryStone_23 : decode cX9_tryStone 23 = .ok (.ifCond .ne 6, 3) := by decide +kernel
theorem dX9_tryStone_26 : decode cX9_tryStone 26 = .ok (.bipush (-2), 2) := by decide +kernel
theorem dX9_tryStone_28 : decode cX9_tryStone 28 = .ok (.ireturn, 1) := by decide +kernel
theorem dX9_tryStone_29 : decode cX9_tryStone 29 = .ok (.aload_n 0, 1) := by decide +kernel
theorem dX9_tryStone_30 : decode cX9_tryStone 30 = .ok (.iload_n 1, 1) := by decide +kernel
theorem dX9_tryStone_31 : decode cX9_tryStone 31 = .ok (.iload_n 2, 1) := by decide +kernel
theorem dX9_tryStone_32 : decode cX9_tryStone 32 = .ok (.invokevirtual 39, 3) := by decide +kernel
theorem dX9_tryStone_35 : decode cX9_tryStone 35 = .ok (.ifCond .ne 18, 3) := by decide +kernel
theorem dX9_tryStone_38 : decode cX9_tryStone 38 = .ok (.aload_n 0, 1) := by decide +kernel
theorem dX9_tryStone_39 : decode cX9_tryStone 39 = .ok (.iload_n 1, 1) := by decide +kernel
theorem dX9_tryStone_40 : decode cX9_tryStone 40 = .ok (.invokevirtual 129, 3) := by decide +kernel
theorem dX9_tryStone_43 : decode cX9_tryStone 43 = .ok (.bipush 40, 2) := by decide +kernel
theorem dX9_tryStone_45 : decode cX9_tryStone 45 = .ok (.if_icmp .ne 8, 3) := by decide +kernel
theorem dX9_tryStone_48 : decode cX9_tryStone 48 = .ok (.bipush (-4), 2) := by decide +kernel
theorem dX9_tryStone_50 : decode cX9_tryStone 50 = .ok (.goto 9, 3) := by decide +kernel
theorem dX9_tryStone_53 : decode cX9_tryStone 53 = .ok (.aload_n 0, 1) := by decide +kernel
theorem dX9_tryStone_54 : decode cX9_tryStone 54 = .ok (.iload_n 1, 1) := by decide +kernel
theorem dX9_tryStone_55 : decode cX9_tryStone 55 = .ok (.iload_n 2, 1) := by decide +kernel
theorem dX9_tryStone_56 : decode cX9_tryStone 56 = .ok (.invokevirtual 39, 3) := by decide +kernel
theorem dX9_tryStone_59 : decode cX9_tryStone 59 = .ok (.ireturn, 1) := by decide +kernel
theorem eX9_tryStone_0 {a : Int} {l0 l2 l3 : Option VV} {S : MM} : rn xX9_tryStone (0, [l0, some (vI a), l2, l3], [], S) = rn xX9_tryStone (1, [l0, some (vI a), l2, l3], [vI a], S) := rn_step dX9_tryStone_0 rfl rfl
theorem eX9_tryStone_1 {a0 : Int} {l0 l1 l2 l3 : Option VV} {S : MM} : rn xX9_tryStone (1, [l0, l1, l2, l3], [vI a0], S) = (fX9_isWalker [vI a0] S).bind (fun q => rn xX9_tryStone (4, [l0, l1, l2, l3], q.1.toList ++ [], q.2)) := q_callS (n := 1) (as := [vI a0]) (rest := []) dX9_tryStone_1 rfl rfl rfl rfl
theorem eX9_tryStone_4 {a : Int} {l0 l1 l2 l3 : Option VV} (h : -2147483648 ≤ a ∧ a ≤ 2147483647) {S : MM} : rn xX9_tryStone (4, [l0, l1, l2, l3], [vI a], S) = if a = 0 then rn xX9_tryStone (7, [l0, l1, l2, l3], [], S) else rn xX9_tryStone (9, [l0, l1, l2, l3], [], S) := q_if_ne dX9_tryStone_4 (by decide) rfl h
theorem eX9_tryStone_7 {l0 l1 l2 l3 : Option VV} {S : MM} : rn xX9_tryStone (7, [l0, l1, l2, l3], [], S) = rn xX9_tryStone (8, [l0, l1, l2, l3], [vI (-1)], S) := rn_step dX9_tryStone_7 rfl rfl
theorem eX9_tryStone_8 {z : Int} {l0 l1 l2 l3 : Option VV} {S : MM} : rn xX9_tryStone (8, [l0, l1, l2, l3], [vI z], S) = some (some (vI z), S) := q_retI dX9_tryStone_8 rfl
theorem eX9_tryStone_9 {a : Int} {l0 l1 l3 : Option VV} {S : MM} : rn xX9_tryStone (9, [l0, l1, some (vI a), l3], [], S) = rn xX9_tryStone (10, [l0, l1, some (vI a), l3], [vI a], S) := rn_step dX9_tryStone_9 rfl rfl
theorem eX9_tryStone_10 {a0 : Int} {l0 l1 l2 l3 : Option VV} {S : MM} : rn xX9_tryStone (10, [l0, l1, l2, l3], [vI a0], S) = (fX9_isKey [vI a0] S).bind (fun q => rn xX9_tryStone (13, [l0, l1, l2, l3], q.1.toList ++ [], q.2)) := q_callS (n := 1) (as := [vI a0]) (rest := []) dX9_tryStone_10 rfl rfl rfl rfl
theorem eX9_tryStone_13 {a : Int} {l0 l1 l2 l3 : Option VV} (h : -2147483648 ≤ a ∧ a ≤ 2147483647) {S : MM} : rn xX9_tryStone (13, [l0, l1, l2, l3], [vI a], S) = if a = 0 then rn xX9_tryStone (26, [l0, l1, l2, l3], [], S) else rn xX9_tryStone (16, [l0, l1, l2, l3], [], S) := q_if_eq dX9_tryStone_13 (by decide) rfl h
theorem eX9_tryStone_16 {a : Int} {l0 l1 l2 : Option VV} {S : MM} : rn xX9_tryStone (16, [l0, l1, l2, some (vI a)], [], S) = rn xX9_tryStone (17, [l0, l1, l2, some (vI a)], [vI a], S) := rn_step dX9_tryStone_16 rfl rfl
theorem eX9_tryStone_17 {l0 l1 l2 l3 : Option VV} {v0 : VV} {S : MM} : rn xX9_tryStone (17, [l0, l1, l2, l3], [v0], S) = rn xX9_tryStone (18, [l0, l1, l2, l3], [vI 1, v0], S) := rn_step dX9_tryStone_17 rfl rfl
theorem eX9_tryStone_18 {l0 l1 l2 l3 : Option VV} {v0 v1 : VV} {S : MM} : rn xX9_tryStone (18, [l0, l1, l2, l3], [v0, v1], S) = rn xX9_tryStone (20, [l0, l1, l2, l3], [vI 9, v0, v1], S) := rn_step dX9_tryStone_18 rfl rfl
theorem eX9_tryStone_20 {a0 : Int} {a1 : Int} {a2 : Int} {l0 l1 l2 l3 : Option VV} {S : MM} : rn xX9_tryStone (20, [l0, l1, l2, l3], [vI a2, vI a1, vI a0], S) = (fX9_in [vI a0, vI a1, vI a2] S).bind (fun q => rn xX9_tryStone (23, [l0, l1, l2, l3], q.1.toList ++ [], q.2)) := q_callS (n := 3) (as := [vI a0, vI a1, vI a2]) (rest := []) dX9_tryStone_20 rfl rfl rfl rfl
theorem eX9_tryStone_23 {a : Int} {l0 l1 l2 l3 : Option VV} (h : -2147483648 ≤ a ∧ a ≤ 2147483647) {S : MM} : rn xX9_tryStone (23, [l0, l1, l2, l3], [vI a], S) = if a = 0 then rn xX9_tryStone (26, [l0, l1, l2, l3], [], S) else rn xX9_tryStone (29, [l0, l1, l2, l3], [], S) := q_if_ne dX9_tryStone_23 (by decide) rfl h
theorem eX9_tryStone_26 {l0 l1 l2 l3 : Option VV} {S : MM} : rn xX9_tryStone (26, [l0, l1, l2, l3], [], S) = rn xX9_tryStone (28, [l0, l1, l2, l3], [vI (-2)], S) := rn_step dX9_tryStone_26 rfl rfl
theorem eX9_tryStone_28 {z : Int} {l0 l1 l2 l3 : Option VV} {S : MM} : rn xX9_tryStone (28, [l0, l1, l2, l3], [vI z], S) = some (some (vI z), S) := q_retI dX9_tryStone_28 rfl
theorem eX9_tryStone_29 {a : Option Nat} {l1 l2 l3 : Option VV} {S : MM} : rn xX9_tryStone (29, [some (.inr (.inl a)), l1, l2, l3], [], S) = rn xX9_tryStone (30, [some (.inr (.inl a)), l1, l2, l3], [.inr (.inl a)], S) := rn_step dX9_tryStone_29 rfl rfl
theorem eX9_tryStone_30 {a : Int} {l0 l2 l3 : Option VV} {v0 : VV} {S : MM} : rn xX9_tryStone (30, [l0, some (vI a), l2, l3], [v0], S) = rn xX9_tryStone (31, [l0, some (vI a), l2, l3], [vI a, v0], S) := rn_step dX9_tryStone_30 rfl rfl
theorem eX9_tryStone_31 {a : Int} {l0 l1 l3 : Option VV} {v0 v1 : VV} {S : MM} : rn xX9_tryStone (31, [l0, l1, some (vI a), l3], [v0, v1], S) = rn xX9_tryStone (32, [l0, l1, some (vI a), l3], [vI a, v0, v1], S) := rn_step dX9_tryStone_31 rfl rfl
theorem eX9_tryStone_32 {a0 : Int} {a1 : Int} {l0 l1 l2 l3 : Option VV} {S : MM} : rn xX9_tryStone (32, [l0, l1, l2, l3], [vI a1, vI a0, vR 593], S) = (fX9_repeats [vR 593, vI a0, vI a1] S).bind (fun q => rn xX9_tryStone (35, [l0, l1, l2, l3], q.1.toList ++ [], q.2)) := q_callV (n := 2) (as := [vI a0, vI a1]) (rest := []) dX9_tryStone_32 rfl rfl rfl rfl kd593
theorem eX9_tryStone_35 {a : Int} {l0 l1 l2 l3 : Option VV} (h : -2147483648 ≤ a ∧ a ≤ 2147483647) {S : MM} : rn xX9_tryStone (35, [l0, l1, l2, l3], [vI a], S) = if a = 0 then rn xX9_tryStone (38, [l0, l1, l2, l3], [], S) else rn xX9_tryStone (53, [l0, l1, l2, l3], [], S) := q_if_ne dX9_tryStone_35 (by decide) rfl h
theorem eX9_tryStone_38 {a : Option Nat} {l1 l2 l3 : Option VV} {S : MM} : rn xX9_tryStone (38, [some (.inr (.inl a)), l1, l2, l3], [], S) = rn xX9_tryStone (39, [some (.inr (.inl a)), l1, l2, l3], [.inr (.inl a)], S) := rn_step dX9_tryStone_38 rfl rfl
theorem eX9_tryStone_39 {a : Int} {l0 l2 l3 : Option VV} {v0 : VV} {S : MM} : rn xX9_tryStone (39, [l0, some (vI a), l2, l3], [v0], S) = rn xX9_tryStone (40, [l0, some (vI a), l2, l3], [vI a, v0], S) := rn_step dX9_tryStone_39 rfl rfl
theorem eX9_tryStone_40 {a0 : Int} {l0 l1 l2 l3 : Option VV} {S : MM} : rn xX9_tryStone (40, [l0, l1, l2, l3], [vI a0, vR 593], S) = (fX9_stonesOf [vR 593, vI a0] S).bind (fun q => rn xX9_tryStone (43, [l0, l1, l2, l3], q.1.toList ++ [], q.2)) := q_callV (n := 1) (as := [vI a0]) (rest := []) dX9_tryStone_40 rfl rfl rfl rfl kd593
theorem eX9_tryStone_43 {l0 l1 l2 l3 : Option VV} {v0 : VV} {S : MM} : rn xX9_tryStone (43, [l0, l1, l2, l3], [v0], S) = rn xX9_tryStone (45, [l0, l1, l2, l3], [vI 40, v0], S) := rn_step dX9_tryStone_43 rfl rfl
theorem eX9_tryStone_45 {a b : Int} {l0 l1 l2 l3 : Option VV} (h : -2147483648 ≤ a ∧ a ≤ 2147483647) (h1 : -2147483648 ≤ b ∧ b ≤ 2147483647) {S : MM} : rn xX9_tryStone (45, [l0, l1, l2, l3], [vI b, vI a], S) = if a = b then rn xX9_tryStone (48, [l0, l1, l2, l3], [], S) else rn xX9_tryStone (53, [l0, l1, l2, l3], [], S) := q_icmp_ne dX9_tryStone_45 (by decide) rfl h h1
theorem eX9_tryStone_48 {l0 l1 l2 l3 : Option VV} {S : MM} : rn xX9_tryStone (48, [l0, l1, l2, l3], [], S) = rn xX9_tryStone (50, [l0, l1, l2, l3], [vI (-4)], S) := rn_step dX9_tryStone_48 rfl rfl
theorem eX9_tryStone_50 {l0 l1 l2 l3 : Option VV} {v0 : VV} {S : MM} : rn xX9_tryStone (50, [l0, l1, l2, l3], [v0], S) = rn xX9_tryStone (59, [l0, l1, l2, l3], [v0], S) := rn_step dX9_tryStone_50 rfl rfl
theorem eX9_tryStone_53 {a : Option Nat} {l1 l2 l3 : Option VV} {S : MM} : rn xX9_tryStone (53, [some (.inr (.inl a)), l1, l2, l3], [], S) = rn xX9_tryStone (54, [some (.inr (.inl a)), l1, l2, l3], [.inr (.inl a)], S) := rn_step dX9_tryStone_53 rfl rfl
theorem eX9_tryStone_54 {a : Int} {l0 l2 l3 : Option VV} {v0 : VV} {S : MM} : rn xX9_tryStone (54, [l0, some (vI a), l2, l3], [v0], S) = rn xX9_tryStone (55, [l0, some (vI a), l2, l3], [vI a, v0], S) := rn_step dX9_tryStone_54 rfl rfl
theorem eX9_tryStone_55 {a : Int} {l0 l1 l3 : Option VV} {v0 v1 : VV} {S : MM} : rn xX9_tryStone (55, [l0, l1, some (vI a), l3], [v0, v1], S) = rn xX9_tryStone (56, [l0, l1, some (vI a), l3], [vI a, v0, v1], S) := rn_step dX9_tryStone_55 rfl rfl
theorem eX9_tryStone_56 {a0 : Int} {a1 : Int} {l0 l1 l2 l3 : Option VV} {S : MM} : rn xX9_tryStone (56, [l0, l1, l2, l3], [vI a1, vI a0, vR 593], S) = (fX9_repeats [vR 593, vI a0, vI a1] S).bind (fun q => rn xX9_tryStone (59, [l0, l1, l2, l3], q.1.toList ++ [], q.2)) := q_callV (n := 2) (as := [vI a0, vI a1]) (rest := []) dX9_tryStone_56 rfl rfl rfl rfl kd593
theorem eX9_tryStone_59 {z : Int} {l0 l1 l2 l3 : Option VV} {S : MM} : rn xX9_tryStone (59, [l0, l1, l2, l3], [vI z], S) = some (some (vI z), S) := q_retI dX9_tryStone_59 rfl
noncomputable def qlX9_lay : List CE := []
noncomputable def xX9_lay : XX := (cX9_lay, fcF fcl9, mcF qlX9_lay, 0)
noncomputable def fX9_lay : FN := fnX xX9_lay 4
set_option maxRecDepth 100000 in
theorem cwX9_lay : Cond.code yX9_lay cX9_lay 4 none ∈ lw_g := lw_gm 1067 (by decide +kernel) (by decide +kernel)
set_option maxRecDepth 100000 in
theorem conX9_lay : Con yX9_lay cX9_lay 4 none { frames := 0, cells := 0, slots := 0, locals := 0 } fX9_lay := con_of (X := xX9_lay) (own := "LeapStonesModel") (ql := qlX9_lay) (by decide) rfl FOK9 rfl (fun _ h => absurd h List.not_mem_nil) (Or.inl ⟨rfl, rfl⟩)
theorem uX9_lay {i : Nat} {a0 : Int} {a1 : Int} {a2 : Int} {S : MM} : fX9_lay [vR i, vI a0, vI a1, vI a2] S = rn xX9_lay (0, [some (vR i), some (vI a0), some (vI a1), some (vI a2)], [], S) := rfl
theorem dX9_lay_0 : decode cX9_lay 0 = .ok (.aload_n 0, 1) := by decide +kernel
theorem dX9_lay_1 : decode cX9_lay 1 = .ok (.getfield 7, 3) := by decide +kernel
theorem dX9_lay_4 : decode cX9_lay 4 = .ok (.bipush 25, 2) := by decide +kernel
theorem dX9_lay_6 : decode cX9_lay 6 = .ok (.sipush 300, 3) := by decide +kernel
theorem dX9_lay_9 : decode cX9_lay 9 = .ok (.iload_n 1, 1) := by decide +kernel
theorem dX9_lay_10 : decode cX9_lay 10 = .ok (.imul, 1) := by decide +kernel
theorem dX9_lay_11 : decode cX9_lay 11 = .ok (.iadd, 1) := by decide +kernel
theorem dX9_lay_12 : decode cX9_lay 12 = .ok (.iload_n 2, 1) := by decide +kernel
theorem dX9_lay_13 : decode cX9_lay 13 = .ok (.iadd, 1) := by decide +kernel
theorem dX9_lay_14 : decode cX9_lay 14 = .ok (.iload_n 3, 1) := by decide +kernel
theorem dX9_lay_15 : decode cX9_lay 15 = .ok (.iastore, 1) := by decide +kernel
theorem dX9_lay_16 : decode cX9_lay 16 = .ok (.return_, 1) := by decide +kernel
theorem eX9_lay_0 {a : Option Nat} {l1 l2 l3 : Option VV} {S : MM} : rn xX9_lay (0, [some (.inr (.inl a)), l1, l2, l3], [], S) = rn xX9_lay (1, [some (.inr (.inl a)), l1, l2, l3], [.inr (.inl a)], S) := rn_step dX9_lay_0 rfl rfl
theorem eX9_lay_1 {l0 l1 l2 l3 : Option VV} {S : MM} : rn xX9_lay (1, [l0, l1, l2, l3], [vR 593], S) = rn xX9_lay (4, [l0, l1, l2, l3], [vR 594], S) := q_getR dX9_lay_1 rfl ⟨⟨by decide, by decide⟩, by decide⟩ (fun _ => by decide +kernel) kd593
theorem eX9_lay_4 {l0 l1 l2 l3 : Option VV} {v0 : VV} {S : MM} : rn xX9_lay (4, [l0, l1, l2, l3], [v0], S) = rn xX9_lay (6, [l0, l1, l2, l3], [vI 25, v0], S) := rn_step dX9_lay_4 rfl rfl
theorem eX9_lay_6 {l0 l1 l2 l3 : Option VV} {v0 v1 : VV} {S : MM} : rn xX9_lay (6, [l0, l1, l2, l3], [v0, v1], S) = rn xX9_lay (9, [l0, l1, l2, l3], [vI 300, v0, v1], S) := rn_step dX9_lay_6 rfl rfl
theorem eX9_lay_9 {a : Int} {l0 l2 l3 : Option VV} {v0 v1 v2 : VV} {S : MM} : rn xX9_lay (9, [l0, some (vI a), l2, l3], [v0, v1, v2], S) = rn xX9_lay (10, [l0, some (vI a), l2, l3], [vI a, v0, v1, v2], S) := rn_step dX9_lay_9 rfl rfl
theorem eX9_lay_10 {a b : Int} {l0 l1 l2 l3 : Option VV} {v2 v3 : VV} {S : MM} : rn xX9_lay (10, [l0, l1, l2, l3], [vI b, vI a, v2, v3], S) = rn xX9_lay (11, [l0, l1, l2, l3], [vI (a * b), v2, v3], S) := rn_step dX9_lay_10 rfl rfl
theorem eX9_lay_11 {a b : Int} {l0 l1 l2 l3 : Option VV} {v2 : VV} {S : MM} : rn xX9_lay (11, [l0, l1, l2, l3], [vI b, vI a, v2], S) = rn xX9_lay (12, [l0, l1, l2, l3], [vI (a + b), v2], S) := rn_step dX9_lay_11 rfl rfl
theorem eX9_lay_12 {a : Int} {l0 l1 l3 : Option VV} {v0 v1 : VV} {S : MM} : rn xX9_lay (12, [l0, l1, some (vI a), l3], [v0, v1], S) = rn xX9_lay (13, [l0, l1, some (vI a), l3], [vI a, v0, v1], S) := rn_step dX9_lay_12 rfl rfl
theorem eX9_lay_13 {a b : Int} {l0 l1 l2 l3 : Option VV} {v2 : VV} {S : MM} : rn xX9_lay (13, [l0, l1, l2, l3], [vI b, vI a, v2], S) = rn xX9_lay (14, [l0, l1, l2, l3], [vI (a + b), v2], S) := rn_step dX9_lay_13 rfl rfl
theorem eX9_lay_14 {a : Int} {l0 l1 l2 : Option VV} {v0 v1 : VV} {S : MM} : rn xX9_lay (14, [l0, l1, l2, some (vI a)], [v0, v1], S) = rn xX9_lay (15, [l0, l1, l2, some (vI a)], [vI a, v0, v1], S) := rn_step dX9_lay_14 rfl rfl
theorem eX9_lay_15 {i : Nat} {j z : Int} {l0 l1 l2 l3 : Option VV} (h : kd i = 10) (h0 : 0 ≤ j) (h1 : j < alen i) {S : MM} : rn xX9_lay (15, [l0, l1, l2, l3], [vI z, vI j, vR i], S) = rn xX9_lay (16, [l0, l1, l2, l3], [], updM S i j.toNat z) := q_iast dX9_lay_15 h h0 h1
theorem eX9_lay_16 {l0 l1 l2 l3 : Option VV} {S : MM} : rn xX9_lay (16, [l0, l1, l2, l3], [], S) = some (none, S) := q_retV dX9_lay_16 rfl
noncomputable def qlX9_stone : List CE := [(0, 132, 9, 4, fX9_tryStone), (0, 50, 9, 1, fX9_keep), (0, 136, 9, 4, fX9_lay)]
noncomputable def xX9_stone : XX := (cX9_stone, fcF fcl9, mcF qlX9_stone, 1)
noncomputable def fX9_stone : FN := fnX xX9_stone 5
set_option maxRecDepth 100000 in
theorem cwX9_stone : Cond.code yX9_stone cX9_stone 5 (some .int) ∈ lw_g := lw_gm 1049 (by decide +kernel) (by decide +kernel)
set_option maxRecDepth 100000 in
theorem conX9_stone : Con yX9_stone cX9_stone 5 (some .int) { frames := 3, cells := 0, slots := 0, locals := 68 } fX9_stone := con_of (X := xX9_stone) (own := "LeapStonesModel") (ql := qlX9_stone) (by decide) rfl FOK9 rfl (List.forall_mem_cons.mpr ⟨call_V conX9_tryStone cwX9_tryStone (lw_gl _ [1050, 1052, 41, 84] (by decide +kernel) (by decide +kernel)) (by decide) rfl ⟨by decide, by decide, by decide +kernel⟩ ⟨rfl, rfl⟩ ⟨by decide, by decide⟩ ⟨Nat.le_refl _, Nat.le_refl _⟩, List.forall_mem_cons.mpr ⟨call_V conX9_keep cwX9_keep (lw_gl _ [947, 949, 20, 84] (by decide +kernel) (by decide +kernel)) (by decide) rfl ⟨by decide, by decide, by decide +kernel⟩ ⟨rfl, rfl⟩ ⟨by decide, by decide⟩ ⟨Nat.le_refl _, Nat.le_refl _⟩, List.forall_mem_cons.mpr ⟨call_V conX9_lay cwX9_lay (lw_gl _ [1064, 1066, 43, 84] (by decide +kernel) (by decide +kernel)) (by decide) rfl ⟨by decide, by decide, by decide +kernel⟩ ⟨rfl, rfl⟩ ⟨by decide, by decide⟩ ⟨Nat.le_refl _, Nat.le_refl _⟩, fun _ h => absurd h List.not_mem_nil⟩⟩⟩) (Or.inr (Or.inl ⟨rfl, rfl⟩))
theorem uX9_stone {i : Nat} {a0 : Int} {a1 : Int} {a2 : Int} {S : MM} : fX9_stone [vR i, vI a0, vI a1, vI a2] S = rn xX9_stone (0, [some (vR i), some (vI a0), some (vI a1), some (vI a2), none], [], S) := rfl
theorem dX9_stone_0 : decode cX9_stone 0 = .ok (.aload_n 0, 1) := by decide +kernel
theorem dX9_stone_1 : decode cX9_stone 1 = .ok (.iload_n 1, 1) := by decide +kernel
theorem dX9_stone_2 : decode cX9_stone 2 = .ok (.iload_n 2, 1) := by decide +kernel
theorem dX9_stone_3 : decode cX9_stone 3 = .ok (.iload_n 3, 1) := by decide +kernel
theorem dX9_stone_4 : decode cX9_stone 4 = .ok (.invokevirtual 132, 3) := by decide +kernel
theorem dX9_stone_7 : decode cX9_stone 7 = .ok (.istore 4, 2) := by decide +kernel
theorem dX9_stone_9 : decode cX9_stone 9 = .ok (.iload 4, 2) := by decide +kernel
theorem dX9_stone_11 : decode cX9_stone 11 = .ok (.ifCond .ge 6, 3) := by decide +kernel
theorem dX9_stone_14 : decode cX9_stone 14 = .ok (.iload 4, 2) := by decide +kernel
theorem dX9_stone_16 : decode cX9_stone 16 = .ok (.ireturn, 1) := by decide +kernel
theorem dX9_stone_17 : decode cX9_stone 17 = .ok (.aload_n 0, 1) := by decide +kernel
theorem dX9_stone_18 : decode cX9_stone 18 = .ok (.invokevirtual 50, 3) := by decide +kernel
theorem dX9_stone_21 : decode cX9_stone 21 = .ok (.aload_n 0, 1) := by decide +kernel
theorem dX9_stone_22 : decode cX9_stone 22 = .ok (.iload_n 1, 1) := by decide +kernel
theorem dX9_stone_23 : decode cX9_stone 23 = .ok (.iload_n 2, 1) := by decide +kernel
theorem dX9_stone_24 : decode cX9_stone 24 = .ok (.iload_n 3, 1) := by decide +kernel
theorem dX9_stone_25 : decode cX9_stone 25 = .ok (.invokevirtual 136, 3) := by decide +kernel
theorem dX9_stone_28 : decode cX9_stone 28 = .ok (.iload 4, 2) := by decide +kernel
theorem dX9_stone_30 : decode cX9_stone 30 = .ok (.ireturn, 1) := by decide +kernel
theorem eX9_stone_0 {a : Option Nat} {l1 l2 l3 l4 : Option VV} {S : MM} : rn xX9_stone (0, [some (.inr (.inl a)), l1, l2, l3, l4], [], S) = rn xX9_stone (1, [some (.inr (.inl a)), l1, l2, l3, l4], [.inr (.inl a)], S) := rn_step dX9_stone_0 rfl rfl
theorem eX9_stone_1 {a : Int} {l0 l2 l3 l4 : Option VV} {v0 : VV} {S : MM} : rn xX9_stone (1, [l0, some (vI a), l2, l3, l4], [v0], S) = rn xX9_stone (2, [l0, some (vI a), l2, l3, l4], [vI a, v0], S) := rn_step dX9_stone_1 rfl rfl
theorem eX9_stone_2 {a : Int} {l0 l1 l3 l4 : Option VV} {v0 v1 : VV} {S : MM} : rn xX9_stone (2, [l0, l1, some (vI a), l3, l4], [v0, v1], S) = rn xX9_stone (3, [l0, l1, some (vI a), l3, l4], [vI a, v0, v1], S) := rn_step dX9_stone_2 rfl rfl
theorem eX9_stone_3 {a : Int} {l0 l1 l2 l4 : Option VV} {v0 v1 v2 : VV} {S : MM} : rn xX9_stone (3, [l0, l1, l2, some (vI a), l4], [v0, v1, v2], S) = rn xX9_stone (4, [l0, l1, l2, some (vI a), l4], [vI a, v0, v1, v2], S) := rn_step dX9_stone_3 rfl rfl
theorem eX9_stone_4 {a0 : Int} {a1 : Int} {a2 : Int} {l0 l1 l2 l3 l4 : Option VV} {S : MM} : rn xX9_stone (4, [l0, l1, l2, l3, l4], [vI a2, vI a1, vI a0, vR 593], S) = (fX9_tryStone [vR 593, vI a0, vI a1, vI a2] S).bind (fun q => rn xX9_stone (7, [l0, l1, l2, l3, l4], q.1.toList ++ [], q.2)) := q_callV (n := 3) (as := [vI a0, vI a1, vI a2]) (rest := []) dX9_stone_4 rfl rfl rfl rfl kd593
theorem eX9_stone_7 {a : Int} {w : Int} {l0 l1 l2 l4 : Option VV} {S : MM} : rn xX9_stone (7, [l0, l1, l2, some (vI w), l4], [vI a], S) = rn xX9_stone (9, [l0, l1, l2, some (vI w), some (vI a)], [], S) := rn_step dX9_stone_7 rfl rfl
theorem eX9_stone_9 {a : Int} {l0 l1 l2 l3 : Option VV} {S : MM} : rn xX9_stone (9, [l0, l1, l2, l3, some (vI a)], [], S) = rn xX9_stone (11, [l0, l1, l2, l3, some (vI a)], [vI a], S) := rn_step dX9_stone_9 rfl rfl
theorem eX9_stone_11 {a : Int} {l0 l1 l2 l3 l4 : Option VV} (h : -2147483648 ≤ a ∧ a ≤ 2147483647) {S : MM} : rn xX9_stone (11, [l0, l1, l2, l3, l4], [vI a], S) = if a < 0 then rn xX9_stone (14, [l0, l1, l2, l3, l4], [], S) else rn xX9_stone (17, [l0, l1, l2, l3, l4], [], S) := q_if_ge dX9_stone_11 (by decide) rfl h
theorem eX9_stone_14 {a : Int} {l0 l1 l2 l3 : Option VV} {S : MM} : rn xX9_stone (14, [l0, l1, l2, l3, some (vI a)], [], S) = rn xX9_stone (16, [l0, l1, l2, l3, some (vI a)], [vI a], S) := rn_step dX9_stone_14 rfl rfl
theorem eX9_stone_16 {z : Int} {l0 l1 l2 l3 l4 : Option VV} {S : MM} : rn xX9_stone (16, [l0, l1, l2, l3, l4], [vI z], S) = some (some (vI z), S) := q_retI dX9_stone_16 rfl
theorem eX9_stone_17 {a : Option Nat} {l1 l2 l3 l4 : Option VV} {S : MM} : rn xX9_stone (17, [some (.inr (.inl a)), l1, l2, l3, l4], [], S) = rn xX9_stone (18, [some (.inr (.inl a)), l1, l2, l3, l4], [.inr (.inl a)], S) := rn_step dX9_stone_17 rfl rfl
theorem eX9_stone_18 {l0 l1 l2 l3 l4 : Option VV} {S : MM} : rn xX9_stone (18, [l0, l1, l2, l3, l4], [vR 593], S) = (fX9_keep [vR 593] S).bind (fun q => rn xX9_stone (21, [l0, l1, l2, l3, l4], q.1.toList ++ [], q.2)) := q_callV (n := 0) (as := []) (rest := []) dX9_stone_18 rfl rfl rfl rfl kd593
theorem eX9_stone_21 {a : Option Nat} {l1 l2 l3 l4 : Option VV} {S : MM} : rn xX9_stone (21, [some (.inr (.inl a)), l1, l2, l3, l4], [], S) = rn xX9_stone (22, [some (.inr (.inl a)), l1, l2, l3, l4], [.inr (.inl a)], S) := rn_step dX9_stone_21 rfl rfl
theorem eX9_stone_22 {a : Int} {l0 l2 l3 l4 : Option VV} {v0 : VV} {S : MM} : rn xX9_stone (22, [l0, some (vI a), l2, l3, l4], [v0], S) = rn xX9_stone (23, [l0, some (vI a), l2, l3, l4], [vI a, v0], S) := rn_step dX9_stone_22 rfl rfl
theorem eX9_stone_23 {a : Int} {l0 l1 l3 l4 : Option VV} {v0 v1 : VV} {S : MM} : rn xX9_stone (23, [l0, l1, some (vI a), l3, l4], [v0, v1], S) = rn xX9_stone (24, [l0, l1, some (vI a), l3, l4], [vI a, v0, v1], S) := rn_step dX9_stone_23 rfl rfl
theorem eX9_stone_24 {a : Int} {l0 l1 l2 l4 : Option VV} {v0 v1 v2 : VV} {S : MM} : rn xX9_stone (24, [l0, l1, l2, some (vI a), l4], [v0, v1, v2], S) = rn xX9_stone (25, [l0, l1, l2, some (vI a), l4], [vI a, v0, v1, v2], S) := rn_step dX9_stone_24 rfl rfl
theorem eX9_stone_25 {a0 : Int} {a1 : Int} {a2 : Int} {l0 l1 l2 l3 l4 : Option VV} {S : MM} : rn xX9_stone (25, [l0, l1, l2, l3, l4], [vI a2, vI a1, vI a0, vR 593], S) = (fX9_lay [vR 593, vI a0, vI a1, vI a2] S).bind (fun q => rn xX9_stone (28, [l0, l1, l2, l3, l4], q.1.toList ++ [], q.2)) := q_callV (n := 3) (as := [vI a0, vI a1, vI a2]) (rest := []) dX9_stone_25 rfl rfl rfl rfl kd593
theorem eX9_stone_28 {a : Int} {l0 l1 l2 l3 : Option VV} {S : MM} : rn xX9_stone (28, [l0, l1, l2, l3, some (vI a)], [], S) = rn xX9_stone (30, [l0, l1, l2, l3, some (vI a)], [vI a], S) := rn_step dX9_stone_28 rfl rfl
theorem eX9_stone_30 {z : Int} {l0 l1 l2 l3 l4 : Option VV} {S : MM} : rn xX9_stone (30, [l0, l1, l2, l3, l4], [vI z], S) = some (some (vI z), S) := q_retI dX9_stone_30 rfl
noncomputable def qlX9_isRange : List CE := [(1, 126, 0, 1, fX9_isKey), (1, 35, 0, 3, fX9_in)]
noncomputable def xX9_isRange : XX := (cX9_isRange, fcF fcl9, mcF qlX9_isRange, 2)
noncomputable def fX9_isRange : FN := fnX xX9_isRange 2
set_option maxRecDepth 100000 in
theorem cwX9_isRange : Cond.code yX9_isRange cX9_isRange 2 (some .boolean) ∈ lw_g := lw_gm 1078 (by decide +kernel) (by decide +kernel)
set_option maxRecDepth 100000 in
theorem conX9_isRange : Con yX9_isRange cX9_isRange 2 (some .boolean) { frames := 2, cells := 0, slots := 0, locals := 42 } fX9_isRange := con_of (X := xX9_isRange) (own := "LeapStonesModel") (ql := qlX9_isRange) (by decide) rfl FOK9 rfl (List.forall_mem_cons.mpr ⟨call_S conX9_isKey cwX9_isKey (lw_gl _ [1057, 1058, 84] (by decide +kernel) (by decide +kernel)) ⟨by decide, by decide, by decide +kernel⟩ ⟨rfl, rfl⟩ ⟨by decide, by decide⟩ ⟨Nat.le_refl _, Nat.le_refl _⟩, List.forall_mem_cons.mpr ⟨call_S conX9_in cwX9_in (lw_gl _ [1043, 1044, 84] (by decide +kernel) (by decide +kernel)) ⟨by decide, by decide, by decide +kernel⟩ ⟨rfl, rfl⟩ ⟨by decide, by decide⟩ ⟨Nat.le_refl _, Nat.le_refl _⟩, fun _ h => absurd h List.not_mem_nil⟩⟩) (Or.inr (Or.inr (Or.inl ⟨rfl, rfl⟩)))
theorem uX9_isRange {a0 : Int} {a1 : Int} {S : MM} : fX9_isRange [vI a0, vI a1] S = rn xX9_isRange (0, [some (vI a0), some (vI a1)], [], S) := rfl
theorem dX9_isRange_0 : decode cX9_isRange 0 = .ok (.iload_n 0, 1) := by decide +kernel
theorem dX9_isRange_1 : decode cX9_isRange 1 = .ok (.invokestatic 126, 3) := by decide +kernel
theorem dX9_isRange_4 : decode cX9_isRange 4 = .ok (.ifCond .eq 18, 3) := by decide +kernel
theorem dX9_isRange_7 : decode cX9_isRange 7 = .ok (.iload_n 1, 1) := by decide +kernel
theorem dX9_isRange_8 : decode cX9_isRange 8 = .ok (.iload_n 0, 1) := by decide +kernel
theorem dX9_isRange_9 : decode cX9_isRange 9 = .ok (.sipush 299, 3) := by decide +kernel
theorem dX9_isRange_12 : decode cX9_isRange 12 = .ok (.invokestatic 35, 3) := by decide +kernel
theorem dX9_isRange_15 : decode cX9_isRange 15 = .ok (.ifCond .eq 7, 3) := by decide +kernel
theorem dX9_isRange_18 : decode cX9_isRange 18 = .ok (.iconst 1, 1) := by decide +kernel
theorem dX9_isRange_19 : decode cX9_isRange 19 = .ok (.goto 4, 3) := by decide +kernel
theorem dX9_isRange_22 : decode cX9_isRange 22 = .ok (.iconst 0, 1) := by decide +kernel
theorem dX9_isRange_23 : decode cX9_isRange 23 = .ok (.ireturn, 1) := by decide +kernel
theorem eX9_isRange_0 {a : Int} {l1 : Option VV} {S : MM} : rn xX9_isRange (0, [some (vI a), l1], [], S) = rn xX9_isRange (1, [some (vI a), l1], [vI a], S) := rn_step dX9_isRange_0 rfl rfl
theorem eX9_isRange_1 {a0 : Int} {l0 l1 : Option VV} {S : MM} : rn xX9_isRange (1, [l0, l1], [vI a0], S) = (fX9_isKey [vI a0] S).bind (fun q => rn xX9_isRange (4, [l0, l1], q.1.toList ++ [], q.2)) := q_callS (n := 1) (as := [vI a0]) (rest := []) dX9_isRange_1 rfl rfl rfl rfl
theorem eX9_isRange_4 {a : Int} {l0 l1 : Option VV} (h : -2147483648 ≤ a ∧ a ≤ 2147483647) {S : MM} : rn xX9_isRange (4, [l0, l1], [vI a], S) = if a = 0 then rn xX9_isRange (22, [l0, l1], [], S) else rn xX9_isRange (7, [l0, l1], [], S) := q_if_eq dX9_isRange_4 (by decide) rfl h
theorem eX9_isRange_7 {a : Int} {l0 : Option VV} {S : MM} : rn xX9_isRange (7, [l0, some (vI a)], [], S) = rn xX9_isRange (8, [l0, some (vI a)], [vI a], S) := rn_step dX9_isRange_7 rfl rfl
theorem eX9_isRange_8 {a : Int} {l1 : Option VV} {v0 : VV} {S : MM} : rn xX9_isRange (8, [some (vI a), l1], [v0], S) = rn xX9_isRange (9, [some (vI a), l1], [vI a, v0], S) := rn_step dX9_isRange_8 rfl rfl
theorem eX9_isRange_9 {l0 l1 : Option VV} {v0 v1 : VV} {S : MM} : rn xX9_isRange (9, [l0, l1], [v0, v1], S) = rn xX9_isRange (12, [l0, l1], [vI 299, v0, v1], S) := rn_step dX9_isRange_9 rfl rfl
theorem eX9_isRange_12 {a0 : Int} {a1 : Int} {a2 : Int} {l0 l1 : Option VV} {S : MM} : rn xX9_isRange (12, [l0, l1], [vI a2, vI a1, vI a0], S) = (fX9_in [vI a0, vI a1, vI a2] S).bind (fun q => rn xX9_isRange (15, [l0, l1], q.1.toList ++ [], q.2)) := q_callS (n := 3) (as := [vI a0, vI a1, vI a2]) (rest := []) dX9_isRange_12 rfl rfl rfl rfl
theorem eX9_isRange_15 {a : Int} {l0 l1 : Option VV} (h : -2147483648 ≤ a ∧ a ≤ 2147483647) {S : MM} : rn xX9_isRange (15, [l0, l1], [vI a], S) = if a = 0 then rn xX9_isRange (22, [l0, l1], [], S) else rn xX9_isRange (18, [l0, l1], [], S) := q_if_eq dX9_isRange_15 (by decide) rfl h
theorem eX9_isRange_18 {l0 l1 : Option VV} {S : MM} : rn xX9_isRange (18, [l0, l1], [], S) = rn xX9_isRange (19, [l0, l1], [vI 1], S) := rn_step dX9_isRange_18 rfl rfl
theorem eX9_isRange_19 {l0 l1 : Option VV} {v0 : VV} {S : MM} : rn xX9_isRange (19, [l0, l1], [v0], S) = rn xX9_isRange (23, [l0, l1], [v0], S) := rn_step dX9_isRange_19 rfl rfl
theorem eX9_isRange_22 {l0 l1 : Option VV} {S : MM} : rn xX9_isRange (22, [l0, l1], [], S) = rn xX9_isRange (23, [l0, l1], [vI 0], S) := rn_step dX9_isRange_22 rfl rfl
theorem eX9_isRange_23 {z : Int} {l0 l1 : Option VV} (hz : z = 0 ∨ z = 1) {S : MM} : rn xX9_isRange (23, [l0, l1], [vI z], S) = some (some (vI z), S) := q_retZ dX9_isRange_23 rfl hz
noncomputable def qlX9_dropOldest : List CE := []
noncomputable def xX9_dropOldest : XX := (cX9_dropOldest, fcF fcl9, mcF qlX9_dropOldest, 0)
noncomputable def fX9_dropOldest : FN := fnX xX9_dropOldest 2
set_option maxRecDepth 100000 in
theorem cwX9_dropOldest : Cond.code yX9_dropOldest cX9_dropOldest 2 none ∈ lw_g := lw_gm 1082 (by decide +kernel) (by decide +kernel)
set_option maxRecDepth 100000 in
theorem conX9_dropOldest : Con yX9_dropOldest cX9_dropOldest 2 none { frames := 0, cells := 0, slots := 0, locals := 0 } fX9_dropOldest := con_of (X := xX9_dropOldest) (own := "LeapStonesModel") (ql := qlX9_dropOldest) (by decide) rfl FOK9 rfl (fun _ h => absurd h List.not_mem_nil) (Or.inl ⟨rfl, rfl⟩)
theorem uX9_dropOldest {i : Nat} {S : MM} : fX9_dropOldest [vR i] S = rn xX9_dropOldest (0, [some (vR i), none], [], S) := rfl
theorem dX9_dropOldest_0 : decode cX9_dropOldest 0 = .ok (.aload_n 0, 1) := by decide +kernel
theorem dX9_dropOldest_1 : decode cX9_dropOldest 1 = .ok (.getfield 7, 3) := by decide +kernel
theorem dX9_dropOldest_4 : decode cX9_dropOldest 4 = .ok (.bipush 7, 2) := by decide +kernel
theorem dX9_dropOldest_6 : decode cX9_dropOldest 6 = .ok (.iaload, 1) := by decide +kernel
theorem dX9_dropOldest_7 : decode cX9_dropOldest 7 = .ok (.iconst 4, 1) := by decide +kernel
theorem dX9_dropOldest_8 : decode cX9_dropOldest 8 = .ok (.if_icmp .ne 59, 3) := by decide +kernel
theorem dX9_dropOldest_11 : decode cX9_dropOldest 11 = .ok (.aload_n 0, 1) := by decide +kernel
theorem dX9_dropOldest_12 : decode cX9_dropOldest 12 = .ok (.getfield 7, 3) := by decide +kernel
theorem dX9_dropOldest_15 : decode cX9_dropOldest 15 = .ok (.bipush 7, 2) := by decide +kernel
theorem dX9_dropOldest_17 : decode cX9_dropOldest 17 = .ok (.dup2, 1) := by decide +kernel
theorem dX9_dropOldest_18 : decode cX9_dropOldest 18 = .ok (.iaload, 1) := by decide +kernel
theorem dX9_dropOldest_19 : decode cX9_dropOldest 19 = .ok (.iconst 1, 1) := by decide +kernel
theorem dX9_dropOldest_20 : decode cX9_dropOldest 20 = .ok (.isub, 1) := by decide +kernel
theorem dX9_dropOldest_21 : decode cX9_dropOldest 21 = .ok (.iastore, 1) := by decide +kernel
theorem dX9_dropOldest_22 : decode cX9_dropOldest 22 = .ok (.sipush 1225, 3) := by decide +kernel
theorem dX9_dropOldest_25 : decode cX9_dropOldest 25 = .ok (.istore_n 1, 1) := by decide +kernel
theorem dX9_dropOldest_26 : decode cX9_dropOldest 26 = .ok (.iload_n 1, 1) := by decide +kernel
theorem dX9_dropOldest_27 : decode cX9_dropOldest 27 = .ok (.sipush 1225, 3) := by decide +kernel
theorem dX9_dropOldest_30 : decode cX9_dropOldest 30 = .ok (.sipush 900, 3) := by decide +kernel
theorem dX9_dropOldest_33 : decode cX9_dropOldest 33 = .ok (.aload_n 0, 1) := by decide +kernel
theorem dX9_dropOldest_34 : decode cX9_dropOldest 34 = .ok (.getfield 7, 3) := by decide +kernel
theorem dX9_dropOldest_37 : decode cX9_dropOldest 37 = .ok (.bipush 7, 2) := by decide +kernel
theorem dX9_dropOldest_39 : decode cX9_dropOldest 39 = .ok (.iaload, 1) := by decide +kernel
theorem dX9_dropOldest_40 : decode cX9_dropOldest 40 = .ok (.imul, 1) := by decide +kernel
theorem dX9_dropOldest_41 : decode cX9_dropOldest 41 = .ok (.iadd, 1) := by decide +kernel
theorem dX9_dropOldest_42 : decode cX9_dropOldest 42 = .ok (.if_icmp .ge 25, 3) := by decide +kernel
theorem dX9_dropOldest_45 : decode cX9_dropOldest 45 = .ok (.aload_n 0, 1) := by decide +kernel
theorem dX9_dropOldest_46 : decode cX9_dropOldest 46 = .ok (.getfield 7, 3) := by decide +kernel
theorem dX9_dropOldest_49 : decode cX9_dropOldest 49 = .ok (.iload_n 1, 1) := by decide +kernel
theorem dX9_dropOldest_50 : decode cX9_dropOldest 50 = .ok (.aload_n 0, 1) := by decide +kernel
theorem dX9_dropOldest_51 : decode cX9_dropOldest 51 = .ok (.getfield 7, 3) := by decide +kernel
theorem dX9_dropOldest_54 : decode cX9_dropOldest 54 = .ok (.iload_n 1, 1) := by decide +kernel
theorem dX9_dropOldest_55 : decode cX9_dropOldest 55 = .ok (.sipush 900, 3) := by decide +kernel
theorem dX9_dropOldest_58 : decode cX9_dropOldest 58 = .ok (.iadd, 1) := by decide +kernel
theorem dX9_dropOldest_59 : decode cX9_dropOldest 59 = .ok (.iaload, 1) := by decide +kernel
theorem dX9_dropOldest_60 : decode cX9_dropOldest 60 = .ok (.iastore, 1) := by decide +kernel
theorem dX9_dropOldest_61 : decode cX9_dropOldest 61 = .ok (.iinc 1 1, 3) := by decide +kernel
theorem dX9_dropOldest_64 : decode cX9_dropOldest 64 = .ok (.goto (-38), 3) := by decide +kernel
theorem dX9_dropOldest_67 : decode cX9_dropOldest 67 = .ok (.return_, 1) := by decide +kernel
theorem eX9_dropOldest_0 {a : Option Nat} {l1 : Option VV} {S : MM} : rn xX9_dropOldest (0, [some (.inr (.inl a)), l1], [], S) = rn xX9_dropOldest (1, [some (.inr (.inl a)), l1], [.inr (.inl a)], S) := rn_step dX9_dropOldest_0 rfl rfl
theorem eX9_dropOldest_1 {l0 l1 : Option VV} {S : MM} : rn xX9_dropOldest (1, [l0, l1], [vR 593], S) = rn xX9_dropOldest (4, [l0, l1], [vR 594], S) := q_getR dX9_dropOldest_1 rfl ⟨⟨by decide, by decide⟩, by decide⟩ (fun _ => by decide +kernel) kd593
theorem eX9_dropOldest_4 {l0 l1 : Option VV} {v0 : VV} {S : MM} : rn xX9_dropOldest (4, [l0, l1], [v0], S) = rn xX9_dropOldest (6, [l0, l1], [vI 7, v0], S) := rn_step dX9_dropOldest_4 rfl rfl
theorem eX9_dropOldest_6 {i : Nat} {j : Int} {l0 l1 : Option VV} (h : kd i = 10) (h0 : 0 ≤ j) (h1 : j < alen i) {S : MM} : rn xX9_dropOldest (6, [l0, l1], [vI j, vR i], S) = rn xX9_dropOldest (7, [l0, l1], [vI (S i j.toNat)], S) := q_iald dX9_dropOldest_6 h h0 h1
theorem eX9_dropOldest_6x {j : Int} {l0 l1 : Option VV} {S : MM} (h0 : 0 ≤ j) (h1 : j < S 604 0) : rn xX9_dropOldest (6, [l0, l1], [vI j, vR 602], S) = rn xX9_dropOldest (7, [l0, l1], [vI (S 602 j.toNat)], S) := q_ialdX dX9_dropOldest_6 h0 h1
theorem eX9_dropOldest_6y {j : Int} {l0 l1 : Option VV} {S : MM} (h0 : 0 ≤ j) (h1 : j < S 604 1) : rn xX9_dropOldest (6, [l0, l1], [vI j, vR 603], S) = rn xX9_dropOldest (7, [l0, l1], [vI (S 603 j.toNat)], S) := q_ialdY dX9_dropOldest_6 h0 h1
theorem eX9_dropOldest_7 {l0 l1 : Option VV} {v0 : VV} {S : MM} : rn xX9_dropOldest (7, [l0, l1], [v0], S) = rn xX9_dropOldest (8, [l0, l1], [vI 4, v0], S) := rn_step dX9_dropOldest_7 rfl rfl
theorem eX9_dropOldest_8 {a b : Int} {l0 l1 : Option VV} (h : -2147483648 ≤ a ∧ a ≤ 2147483647) (h1 : -2147483648 ≤ b ∧ b ≤ 2147483647) {S : MM} : rn xX9_dropOldest (8, [l0, l1], [vI b, vI a], S) = if a = b then rn xX9_dropOldest (11, [l0, l1], [], S) else rn xX9_dropOldest (67, [l0, l1], [], S) := q_icmp_ne dX9_dropOldest_8 (by decide) rfl h h1
theorem eX9_dropOldest_11 {a : Option Nat} {l1 : Option VV} {S : MM} : rn xX9_dropOldest (11, [some (.inr (.inl a)), l1], [], S) = rn xX9_dropOldest (12, [some (.inr (.inl a)), l1], [.inr (.inl a)], S) := rn_step dX9_dropOldest_11 rfl rfl
theorem eX9_dropOldest_12 {l0 l1 : Option VV} {S : MM} : rn xX9_dropOldest (12, [l0, l1], [vR 593], S) = rn xX9_dropOldest (15, [l0, l1], [vR 594], S) := q_getR dX9_dropOldest_12 rfl ⟨⟨by decide, by decide⟩, by decide⟩ (fun _ => by decide +kernel) kd593
theorem eX9_dropOldest_15 {l0 l1 : Option VV} {v0 : VV} {S : MM} : rn xX9_dropOldest (15, [l0, l1], [v0], S) = rn xX9_dropOldest (17, [l0, l1], [vI 7, v0], S) := rn_step dX9_dropOldest_15 rfl rfl
theorem eX9_dropOldest_17 {a : Int} {b : Option Nat} {l0 l1 : Option VV} {S : MM} : rn xX9_dropOldest (17, [l0, l1], [vI a, .inr (.inl b)], S) = rn xX9_dropOldest (18, [l0, l1], [vI a, .inr (.inl b), vI a, .inr (.inl b)], S) := rn_step dX9_dropOldest_17 rfl rfl
theorem eX9_dropOldest_18 {i : Nat} {j : Int} {l0 l1 : Option VV} {v2 v3 : VV} (h : kd i = 10) (h0 : 0 ≤ j) (h1 : j < alen i) {S : MM} : rn xX9_dropOldest (18, [l0, l1], [vI j, vR i, v2, v3], S) = rn xX9_dropOldest (19, [l0, l1], [vI (S i j.toNat), v2, v3], S) := q_iald dX9_dropOldest_18 h h0 h1
theorem eX9_dropOldest_18x {j : Int} {l0 l1 : Option VV} {v2 v3 : VV} {S : MM} (h0 : 0 ≤ j) (h1 : j < S 604 0) : rn xX9_dropOldest (18, [l0, l1], [vI j, vR 602, v2, v3], S) = rn xX9_dropOldest (19, [l0, l1], [vI (S 602 j.toNat), v2, v3], S) := q_ialdX dX9_dropOldest_18 h0 h1
theorem eX9_dropOldest_18y {j : Int} {l0 l1 : Option VV} {v2 v3 : VV} {S : MM} (h0 : 0 ≤ j) (h1 : j < S 604 1) : rn xX9_dropOldest (18, [l0, l1], [vI j, vR 603, v2, v3], S) = rn xX9_dropOldest (19, [l0, l1], [vI (S 603 j.toNat), v2, v3], S) := q_ialdY dX9_dropOldest_18 h0 h1
theorem eX9_dropOldest_19 {l0 l1 : Option VV} {v0 v1 v2 : VV} {S : MM} : rn xX9_dropOldest (19, [l0, l1], [v0, v1, v2], S) = rn xX9_dropOldest (20, [l0, l1], [vI 1, v0, v1, v2], S) := rn_step dX9_dropOldest_19 rfl rfl
theorem eX9_dropOldest_20 {a b : Int} {l0 l1 : Option VV} {v2 v3 : VV} {S : MM} : rn xX9_dropOldest (20, [l0, l1], [vI b, vI a, v2, v3], S) = rn xX9_dropOldest (21, [l0, l1], [vI (a - b), v2, v3], S) := rn_step dX9_dropOldest_20 rfl rfl
theorem eX9_dropOldest_21 {i : Nat} {j z : Int} {l0 l1 : Option VV} (h : kd i = 10) (h0 : 0 ≤ j) (h1 : j < alen i) {S : MM} : rn xX9_dropOldest (21, [l0, l1], [vI z, vI j, vR i], S) = rn xX9_dropOldest (22, [l0, l1], [], updM S i j.toNat z) := q_iast dX9_dropOldest_21 h h0 h1
theorem eX9_dropOldest_22 {l0 l1 : Option VV} {S : MM} : rn xX9_dropOldest (22, [l0, l1], [], S) = rn xX9_dropOldest (25, [l0, l1], [vI 1225], S) := rn_step dX9_dropOldest_22 rfl rfl
theorem eX9_dropOldest_25 {a : Int} {w : Option Nat} {l1 : Option VV} {S : MM} : rn xX9_dropOldest (25, [some (.inr (.inl w)), l1], [vI a], S) = rn xX9_dropOldest (26, [some (.inr (.inl w)), some (vI a)], [], S) := rn_step dX9_dropOldest_25 rfl rfl
theorem eX9_dropOldest_26 {a : Int} {l0 : Option VV} {S : MM} : rn xX9_dropOldest (26, [l0, some (vI a)], [], S) = rn xX9_dropOldest (27, [l0, some (vI a)], [vI a], S) := rn_step dX9_dropOldest_26 rfl rfl
theorem eX9_dropOldest_27 {l0 l1 : Option VV} {v0 : VV} {S : MM} : rn xX9_dropOldest (27, [l0, l1], [v0], S) = rn xX9_dropOldest (30, [l0, l1], [vI 1225, v0], S) := rn_step dX9_dropOldest_27 rfl rfl
theorem eX9_dropOldest_30 {l0 l1 : Option VV} {v0 v1 : VV} {S : MM} : rn xX9_dropOldest (30, [l0, l1], [v0, v1], S) = rn xX9_dropOldest (33, [l0, l1], [vI 900, v0, v1], S) := rn_step dX9_dropOldest_30 rfl rfl
theorem eX9_dropOldest_33 {a : Option Nat} {l1 : Option VV} {v0 v1 v2 : VV} {S : MM} : rn xX9_dropOldest (33, [some (.inr (.inl a)), l1], [v0, v1, v2], S) = rn xX9_dropOldest (34, [some (.inr (.inl a)), l1], [.inr (.inl a), v0, v1, v2], S) := rn_step dX9_dropOldest_33 rfl rfl
theorem eX9_dropOldest_34 {l0 l1 : Option VV} {v1 v2 v3 : VV} {S : MM} : rn xX9_dropOldest (34, [l0, l1], [vR 593, v1, v2, v3], S) = rn xX9_dropOldest (37, [l0, l1], [vR 594, v1, v2, v3], S) := q_getR dX9_dropOldest_34 rfl ⟨⟨by decide, by decide⟩, by decide⟩ (fun _ => by decide +kernel) kd593
theorem eX9_dropOldest_37 {l0 l1 : Option VV} {v0 v1 v2 v3 : VV} {S : MM} : rn xX9_dropOldest (37, [l0, l1], [v0, v1, v2, v3], S) = rn xX9_dropOldest (39, [l0, l1], [vI 7, v0, v1, v2, v3], S) := rn_step dX9_dropOldest_37 rfl rfl
theorem eX9_dropOldest_39 {i : Nat} {j : Int} {l0 l1 : Option VV} {v2 v3 v4 : VV} (h : kd i = 10) (h0 : 0 ≤ j) (h1 : j < alen i) {S : MM} : rn xX9_dropOldest (39, [l0, l1], [vI j, vR i, v2, v3, v4], S) = rn xX9_dropOldest (40, [l0, l1], [vI (S i j.toNat), v2, v3, v4], S) := q_iald dX9_dropOldest_39 h h0 h1
theorem eX9_dropOldest_39x {j : Int} {l0 l1 : Option VV} {v2 v3 v4 : VV} {S : MM} (h0 : 0 ≤ j) (h1 : j < S 604 0) : rn xX9_dropOldest (39, [l0, l1], [vI j, vR 602, v2, v3, v4], S) = rn xX9_dropOldest (40, [l0, l1], [vI (S 602 j.toNat), v2, v3, v4], S) := q_ialdX dX9_dropOldest_39 h0 h1
theorem eX9_dropOldest_39y {j : Int} {l0 l1 : Option VV} {v2 v3 v4 : VV} {S : MM} (h0 : 0 ≤ j) (h1 : j < S 604 1) : rn xX9_dropOldest (39, [l0, l1], [vI j, vR 603, v2, v3, v4], S) = rn xX9_dropOldest (40, [l0, l1], [vI (S 603 j.toNat), v2, v3, v4], S) := q_ialdY dX9_dropOldest_39 h0 h1
theorem eX9_dropOldest_40 {a b : Int} {l0 l1 : Option VV} {v2 v3 : VV} {S : MM} : rn xX9_dropOldest (40, [l0, l1], [vI b, vI a, v2, v3], S) = rn xX9_dropOldest (41, [l0, l1], [vI (a * b), v2, v3], S) := rn_step dX9_dropOldest_40 rfl rfl
theorem eX9_dropOldest_41 {a b : Int} {l0 l1 : Option VV} {v2 : VV} {S : MM} : rn xX9_dropOldest (41, [l0, l1], [vI b, vI a, v2], S) = rn xX9_dropOldest (42, [l0, l1], [vI (a + b), v2], S) := rn_step dX9_dropOldest_41 rfl rfl
theorem eX9_dropOldest_42 {a b : Int} {l0 l1 : Option VV} (h : -2147483648 ≤ a ∧ a ≤ 2147483647) (h1 : -2147483648 ≤ b ∧ b ≤ 2147483647) {S : MM} : rn xX9_dropOldest (42, [l0, l1], [vI b, vI a], S) = if a < b then rn xX9_dropOldest (45, [l0, l1], [], S) else rn xX9_dropOldest (67, [l0, l1], [], S) := q_icmp_ge dX9_dropOldest_42 (by decide) rfl h h1
theorem eX9_dropOldest_45 {a : Option Nat} {l1 : Option VV} {S : MM} : rn xX9_dropOldest (45, [some (.inr (.inl a)), l1], [], S) = rn xX9_dropOldest (46, [some (.inr (.inl a)), l1], [.inr (.inl a)], S) := rn_step dX9_dropOldest_45 rfl rfl
theorem eX9_dropOldest_46 {l0 l1 : Option VV} {S : MM} : rn xX9_dropOldest (46, [l0, l1], [vR 593], S) = rn xX9_dropOldest (49, [l0, l1], [vR 594], S) := q_getR dX9_dropOldest_46 rfl ⟨⟨by decide, by decide⟩, by decide⟩ (fun _ => by decide +kernel) kd593
theorem eX9_dropOldest_49 {a : Int} {l0 : Option VV} {v0 : VV} {S : MM} : rn xX9_dropOldest (49, [l0, some (vI a)], [v0], S) = rn xX9_dropOldest (50, [l0, some (vI a)], [vI a, v0], S) := rn_step dX9_dropOldest_49 rfl rfl
theorem eX9_dropOldest_50 {a : Option Nat} {l1 : Option VV} {v0 v1 : VV} {S : MM} : rn xX9_dropOldest (50, [some (.inr (.inl a)), l1], [v0, v1], S) = rn xX9_dropOldest (51, [some (.inr (.inl a)), l1], [.inr (.inl a), v0, v1], S) := rn_step dX9_dropOldest_50 rfl rfl
theorem eX9_dropOldest_51 {l0 l1 : Option VV} {v1 v2 : VV} {S : MM} : rn xX9_dropOldest (51, [l0, l1], [vR 593, v1, v2], S) = rn xX9_dropOldest (54, [l0, l1], [vR 594, v1, v2], S) := q_getR dX9_dropOldest_51 rfl ⟨⟨by decide, by decide⟩, by decide⟩ (fun _ => by decide +kernel) kd593
theorem eX9_dropOldest_54 {a : Int} {l0 : Option VV} {v0 v1 v2 : VV} {S : MM} : rn xX9_dropOldest (54, [l0, some (vI a)], [v0, v1, v2], S) = rn xX9_dropOldest (55, [l0, some (vI a)], [vI a, v0, v1, v2], S) := rn_step dX9_dropOldest_54 rfl rfl
theorem eX9_dropOldest_55 {l0 l1 : Option VV} {v0 v1 v2 v3 : VV} {S : MM} : rn xX9_dropOldest (55, [l0, l1], [v0, v1, v2, v3], S) = rn xX9_dropOldest (58, [l0, l1], [vI 900, v0, v1, v2, v3], S) := rn_step dX9_dropOldest_55 rfl rfl
theorem eX9_dropOldest_58 {a b : Int} {l0 l1 : Option VV} {v2 v3 v4 : VV} {S : MM} : rn xX9_dropOldest (58, [l0, l1], [vI b, vI a, v2, v3, v4], S) = rn xX9_dropOldest (59, [l0, l1], [vI (a + b), v2, v3, v4], S) := rn_step dX9_dropOldest_58 rfl rfl
theorem eX9_dropOldest_59 {i : Nat} {j : Int} {l0 l1 : Option VV} {v2 v3 : VV} (h : kd i = 10) (h0 : 0 ≤ j) (h1 : j < alen i) {S : MM} : rn xX9_dropOldest (59, [l0, l1], [vI j, vR i, v2, v3], S) = rn xX9_dropOldest (60, [l0, l1], [vI (S i j.toNat), v2, v3], S) := q_iald dX9_dropOldest_59 h h0 h1
theorem eX9_dropOldest_59x {j : Int} {l0 l1 : Option VV} {v2 v3 : VV} {S : MM} (h0 : 0 ≤ j) (h1 : j < S 604 0) : rn xX9_dropOldest (59, [l0, l1], [vI j, vR 602, v2, v3], S) = rn xX9_dropOldest (60, [l0, l1], [vI (S 602 j.toNat), v2, v3], S) := q_ialdX dX9_dropOldest_59 h0 h1
theorem eX9_dropOldest_59y {j : Int} {l0 l1 : Option VV} {v2 v3 : VV} {S : MM} (h0 : 0 ≤ j) (h1 : j < S 604 1) : rn xX9_dropOldest (59, [l0, l1], [vI j, vR 603, v2, v3], S) = rn xX9_dropOldest (60, [l0, l1], [vI (S 603 j.toNat), v2, v3], S) := q_ialdY dX9_dropOldest_59 h0 h1
theorem eX9_dropOldest_60 {i : Nat} {j z : Int} {l0 l1 : Option VV} (h : kd i = 10) (h0 : 0 ≤ j) (h1 : j < alen i) {S : MM} : rn xX9_dropOldest (60, [l0, l1], [vI z, vI j, vR i], S) = rn xX9_dropOldest (61, [l0, l1], [], updM S i j.toNat z) := q_iast dX9_dropOldest_60 h h0 h1
theorem eX9_dropOldest_61 {a : Int} {w : Option Nat} {S : MM} : rn xX9_dropOldest (61, [some (.inr (.inl w)), some (vI a)], [], S) = rn xX9_dropOldest (64, [some (.inr (.inl w)), some (vI (a + 1))], [], S) := rn_step dX9_dropOldest_61 rfl rfl
theorem eX9_dropOldest_64 {l0 l1 : Option VV} {S : MM} : rn xX9_dropOldest (64, [l0, l1], [], S) = rn xX9_dropOldest (26, [l0, l1], [], S) := rn_step dX9_dropOldest_64 rfl rfl
theorem eX9_dropOldest_67 {l0 l1 : Option VV} {S : MM} : rn xX9_dropOldest (67, [l0, l1], [], S) = some (none, S) := q_retV dX9_dropOldest_67 rfl
noncomputable def qlX9_take : List CE := [(0, 39, 9, 3, fX9_repeats), (0, 136, 9, 4, fX9_lay)]
noncomputable def xX9_take : XX := (cX9_take, fcF fcl9, mcF qlX9_take, 1)
noncomputable def fX9_take : FN := fnX xX9_take 7
set_option maxRecDepth 100000 in
theorem cwX9_take : Cond.code yX9_take cX9_take 7 (some .int) ∈ lw_g := lw_gm 1086 (by decide +kernel) (by decide +kernel)
set_option maxRecDepth 100000 in
theorem conX9_take : Con yX9_take cX9_take 7 (some .int) { frames := 1, cells := 0, slots := 0, locals := 23 } fX9_take := con_of (X := xX9_take) (own := "LeapStonesModel") (ql := qlX9_take) (by decide) rfl FOK9 rfl (List.forall_mem_cons.mpr ⟨call_V conX9_repeats cwX9_repeats (lw_gl _ [959, 961, 23, 84] (by decide +kernel) (by decide +kernel)) (by decide) rfl ⟨by decide, by decide, by decide +kernel⟩ ⟨rfl, rfl⟩ ⟨by decide, by decide⟩ ⟨Nat.le_refl _, Nat.le_refl _⟩, List.forall_mem_cons.mpr ⟨call_V conX9_lay cwX9_lay (lw_gl _ [1064, 1066, 43, 84] (by decide +kernel) (by decide +kernel)) (by decide) rfl ⟨by decide, by decide, by decide +kernel⟩ ⟨rfl, rfl⟩ ⟨by decide, by decide⟩ ⟨Nat.le_refl _, Nat.le_refl _⟩, fun _ h => absurd h List.not_mem_nil⟩⟩) (Or.inr (Or.inl ⟨rfl, rfl⟩))
theorem uX9_take {i : Nat} {a0 : Int} {a1 : Int} {a2 : Int} {S : MM} : fX9_take [vR i, vI a0, vI a1, vI a2] S = rn xX9_take (0, [some (vR i), some (vI a0), some (vI a1), some (vI a2), none, none, none], [], S) := rfl
theorem dX9_take_0 : decode cX9_take 0 = .ok (.sipush 1225, 3) := by decide +kernel
theorem dX9_take_3 : decode cX9_take 3 = .ok (.sipush 900, 3) := by decide +kernel
theorem dX9_take_6 : decode cX9_take 6 = .ok (.aload_n 0, 1) := by decide +kernel
theorem dX9_take_7 : decode cX9_take 7 = .ok (.getfield 7, 3) := by decide +kernel
theorem dX9_take_10 : decode cX9_take 10 = .ok (.bipush 7, 2) := by decide +kernel
theorem dX9_take_12 : decode cX9_take 12 = .ok (.iaload, 1) := by decide +kernel
theorem dX9_take_13 : decode cX9_take 13 = .ok (.imul, 1) := by decide +kernel
theorem dX9_take_14 : decode cX9_take 14 = .ok (.iadd, 1) := by decide +kernel
theorem dX9_take_15 : decode cX9_take 15 = .ok (.sipush 300, 3) := by decide +kernel
theorem dX9_take_18 : decode cX9_take 18 = .ok (.iload_n 1, 1) := by decide +kernel
theorem dX9_take_19 : decode cX9_take 19 = .ok (.imul, 1) := by decide +kernel
theorem dX9_take_20 : decode cX9_take 20 = .ok (.iadd, 1) := by decide +kernel
theorem dX9_take_21 : decode cX9_take 21 = .ok (.istore 4, 2) := by decide +kernel
theorem dX9_take_23 : decode cX9_take 23 = .ok (.iconst 0, 1) := by decide +kernel
theorem dX9_take_24 : decode cX9_take 24 = .ok (.istore 5, 2) := by decide +kernel
theorem dX9_take_26 : decode cX9_take 26 = .ok (.iload_n 2, 1) := by decide +kernel
theorem dX9_take_27 : decode cX9_take 27 = .ok (.istore 6, 2) := by decide +kernel
theorem dX9_take_29 : decode cX9_take 29 = .ok (.iload 6, 2) := by decide +kernel
theorem dX9_take_31 : decode cX9_take 31 = .ok (.iload_n 3, 1) := by decide +kernel
theorem dX9_take_32 : decode cX9_take 32 = .ok (.if_icmp .gt 54, 3) := by decide +kernel
theorem dX9_take_35 : decode cX9_take 35 = .ok (.aload_n 0, 1) := by decide +kernel
theorem dX9_take_36 : decode cX9_take 36 = .ok (.getfield 7, 3) := by decide +kernel
theorem dX9_take_39 : decode cX9_take 39 = .ok (.iload 4, 2) := by decide +kernel
theorem dX9_take_41 : decode cX9_take 41 = .ok (.iload 6, 2) := by decide +kernel
theorem dX9_take_43 : decode cX9_take 43 = .ok (.iadd, 1) := by decide +kernel
theorem dX9_take_44 : decode cX9_take 44 = .ok (.aload_n 0, 1) := by decide +kernel
theorem dX9_take_45 : decode cX9_take 45 = .ok (.iload_n 1, 1) := by decide +kernel
theorem dX9_take_46 : decode cX9_take 46 = .ok (.iload 6, 2) := by decide +kernel
theorem dX9_take_48 : decode cX9_take 48 = .ok (.invokevirtual 39, 3) := by decide +kernel
theorem dX9_take_51 : decode cX9_take 51 = .ok (.iastore, 1) := by decide +kernel
theorem dX9_take_52 : decode cX9_take 52 = .ok (.iload 5, 2) := by decide +kernel
theorem dX9_take_54 : decode cX9_take 54 = .ok (.aload_n 0, 1) := by decide +kernel
theorem dX9_take_55 : decode cX9_take 55 = .ok (.iload_n 1, 1) := by decide +kernel
theorem dX9_take_56 : decode cX9_take 56 = .ok (.iload 6, 2) := by decide +kernel
theorem dX9_take_58 : decode cX9_take 58 = .ok (.invokevirtual 39, 3) := by decide +kernel
theorem dX9_take_61 : decode cX9_take 61 = .ok (.ifCond .le 7, 3) := by decide +kernel
theorem dX9_take_64 : decode cX9_take 64 = .ok (.iconst 1, 1) := by decide +kernel
theorem dX9_take_65 : decode cX9_take 65 = .ok (.goto 4, 3) := by decide +kernel
theorem dX9_take_68 : decode cX9_take 68 = .ok (.iconst 0, 1) := by decide +kernel
theorem dX9_take_69 : decode cX9_take 69 = .ok (.iadd, 1) := by decide +kernel
theorem dX9_take_70 : decode cX9_take 70 = .ok (.istore 5, 2) := by decide +kernel
theorem dX9_take_72 : decode cX9_take 72 = .ok (.aload_n 0, 1) := by decide +kernel
theorem dX9_take_73 : decode cX9_take 73 = .ok (.iload_n 1, 1) := by decide +kernel
theorem dX9_take_74 : decode cX9_take 74 = .ok (.iload 6, 2) := by decide +kernel
theorem dX9_take_76 : decode cX9_take 76 = .ok (.iconst 0, 1) := by decide +kernel
theorem dX9_take_77 : decode cX9_take 77 = .ok (.invokevirtual 136, 3) := by decide +kernel
theorem dX9_take_80 : decode cX9_take 80 = .ok (.iinc 6 1, 3) := by decide +kernel
theorem dX9_take_83 : decode cX9_take 83 = .ok (.goto (-54), 3) := by decide +kernel
theorem dX9_take_86 : decode cX9_take 86 = .ok (.iload 5, 2) := by decide +kernel
theorem dX9_take_88 : decode cX9_take 88 = .ok (.ireturn, 1) := by decide +kernel
theorem eX9_take_0 {l0 l1 l2 l3 l4 l5 l6 : Option VV} {S : MM} : rn xX9_take (0, [l0, l1, l2, l3, l4, l5, l6], [], S) = rn xX9_take (3, [l0, l1, l2, l3, l4, l5, l6], [vI 1225], S) := rn_step dX9_take_0 rfl rfl
theorem eX9_take_3 {l0 l1 l2 l3 l4 l5 l6 : Option VV} {v0 : VV} {S : MM} : rn xX9_take (3, [l0, l1, l2, l3, l4, l5, l6], [v0], S) = rn xX9_take (6, [l0, l1, l2, l3, l4, l5, l6], [vI 900, v0], S) := rn_step dX9_take_3 rfl rfl
theorem eX9_take_6 {a : Option Nat} {l1 l2 l3 l4 l5 l6 : Option VV} {v0 v1 : VV} {S : MM} : rn xX9_take (6, [some (.inr (.inl a)), l1, l2, l3, l4, l5, l6], [v0, v1], S) = rn xX9_take (7, [some (.inr (.inl a)), l1, l2, l3, l4, l5, l6], [.inr (.inl a), v0, v1], S) := rn_step dX9_take_6 rfl rfl
theorem eX9_take_7 {l0 l1 l2 l3 l4 l5 l6 : Option VV} {v1 v2 : VV} {S : MM} : rn xX9_take (7, [l0, l1, l2, l3, l4, l5, l6], [vR 593, v1, v2], S) = rn xX9_take (10, [l0, l1, l2, l3, l4, l5, l6], [vR 594, v1, v2], S) := q_getR dX9_take_7 rfl ⟨⟨by decide, by decide⟩, by decide⟩ (fun _ => by decide +kernel) kd593
theorem eX9_take_10 {l0 l1 l2 l3 l4 l5 l6 : Option VV} {v0 v1 v2 : VV} {S : MM} : rn xX9_take (10, [l0, l1, l2, l3, l4, l5, l6], [v0, v1, v2], S) = rn xX9_take (12, [l0, l1, l2, l3, l4, l5, l6], [vI 7, v0, v1, v2], S) := rn_step dX9_take_10 rfl rfl
theorem eX9_take_12 {i : Nat} {j : Int} {l0 l1 l2 l3 l4 l5 l6 : Option VV} {v2 v3 : VV} (h : kd i = 10) (h0 : 0 ≤ j) (h1 : j < alen i) {S : MM} : rn xX9_take (12, [l0, l1, l2, l3, l4, l5, l6], [vI j, vR i, v2, v3], S) = rn xX9_take (13, [l0, l1, l2, l3, l4, l5, l6], [vI (S i j.toNat), v2, v3], S) := q_iald dX9_take_12 h h0 h1
theorem eX9_take_12x {j : Int} {l0 l1 l2 l3 l4 l5 l6 : Option VV} {v2 v3 : VV} {S : MM} (h0 : 0 ≤ j) (h1 : j < S 604 0) : rn xX9_take (12, [l0, l1, l2, l3, l4, l5, l6], [vI j, vR 602, v2, v3], S) = rn xX9_take (13, [l0, l1, l2, l3, l4, l5, l6], [vI (S 602 j.toNat), v2, v3], S) := q_ialdX dX9_take_12 h0 h1
theorem eX9_take_12y {j : Int} {l0 l1 l2 l3 l4 l5 l6 : Option VV} {v2 v3 : VV} {S : MM} (h0 : 0 ≤ j) (h1 : j < S 604 1) : rn xX9_take (12, [l0, l1, l2, l3, l4, l5, l6], [vI j, vR 603, v2, v3], S) = rn xX9_take (13, [l0, l1, l2, l3, l4, l5, l6], [vI (S 603 j.toNat), v2, v3], S) := q_ialdY dX9_take_12 h0 h1
theorem eX9_take_13 {a b : Int} {l0 l1 l2 l3 l4 l5 l6 : Option VV} {v2 : VV} {S : MM} : rn xX9_take (13, [l0, l1, l2, l3, l4, l5, l6], [vI b, vI a, v2], S) = rn xX9_take (14, [l0, l1, l2, l3, l4, l5, l6], [vI (a * b), v2], S) := rn_step dX9_take_13 rfl rfl
theorem eX9_take_14 {a b : Int} {l0 l1 l2 l3 l4 l5 l6 : Option VV} {S : MM} : rn xX9_take (14, [l0, l1, l2, l3, l4, l5, l6], [vI b, vI a], S) = rn xX9_take (15, [l0, l1, l2, l3, l4, l5, l6], [vI (a + b)], S) := rn_step dX9_take_14 rfl rfl
theorem eX9_take_15 {l0 l1 l2 l3 l4 l5 l6 : Option VV} {v0 : VV} {S : MM} : rn xX9_take (15, [l0, l1, l2, l3, l4, l5, l6], [v0], S) = rn xX9_take (18, [l0, l1, l2, l3, l4, l5, l6], [vI 300, v0], S) := rn_step dX9_take_15 rfl rfl
theorem eX9_take_18 {a : Int} {l0 l2 l3 l4 l5 l6 : Option VV} {v0 v1 : VV} {S : MM} : rn xX9_take (18, [l0, some (vI a), l2, l3, l4, l5, l6], [v0, v1], S) = rn xX9_take (19, [l0, some (vI a), l2, l3, l4, l5, l6], [vI a, v0, v1], S) := rn_step dX9_take_18 rfl rfl
theorem eX9_take_19 {a b : Int} {l0 l1 l2 l3 l4 l5 l6 : Option VV} {v2 : VV} {S : MM} : rn xX9_take (19, [l0, l1, l2, l3, l4, l5, l6], [vI b, vI a, v2], S) = rn xX9_take (20, [l0, l1, l2, l3, l4, l5, l6], [vI (a * b), v2], S) := rn_step dX9_take_19 rfl rfl
theorem eX9_take_20 {a b : Int} {l0 l1 l2 l3 l4 l5 l6 : Option VV} {S : MM} : rn xX9_take (20, [l0, l1, l2, l3, l4, l5, l6], [vI b, vI a], S) = rn xX9_take (21, [l0, l1, l2, l3, l4, l5, l6], [vI (a + b)], S) := rn_step dX9_take_20 rfl rfl
theorem eX9_take_21 {a : Int} {w : Int} {l0 l1 l2 l4 l5 l6 : Option VV} {S : MM} : rn xX9_take (21, [l0, l1, l2, some (vI w), l4, l5, l6], [vI a], S) = rn xX9_take (23, [l0, l1, l2, some (vI w), some (vI a), l5, l6], [], S) := rn_step dX9_take_21 rfl rfl
theorem eX9_take_23 {l0 l1 l2 l3 l4 l5 l6 : Option VV} {S : MM} : rn xX9_take (23, [l0, l1, l2, l3, l4, l5, l6], [], S) = rn xX9_take (24, [l0, l1, l2, l3, l4, l5, l6], [vI 0], S) := rn_step dX9_take_23 rfl rfl
theorem eX9_take_24 {a : Int} {w : Int} {l0 l1 l2 l3 l5 l6 : Option VV} {S : MM} : rn xX9_take (24, [l0, l1, l2, l3, some (vI w), l5, l6], [vI a], S) = rn xX9_take (26, [l0, l1, l2, l3, some (vI w), some (vI a), l6], [], S) := rn_step dX9_take_24 rfl rfl
theorem eX9_take_26 {a : Int} {l0 l1 l3 l4 l5 l6 : Option VV} {S : MM} : rn xX9_take (26, [l0, l1, some (vI a), l3, l4, l5, l6], [], S) = rn xX9_take (27, [l0, l1, some (vI a), l3, l4, l5, l6], [vI a], S) := rn_step dX9_take_26 rfl rfl
theorem eX9_take_27 {a : Int} {w : Int} {l0 l1 l2 l3 l4 l6 : Option VV} {S : MM} : rn xX9_take (27, [l0, l1, l2, l3, l4, some (vI w), l6], [vI a], S) = rn xX9_take (29, [l0, l1, l2, l3, l4, some (vI w), some (vI a)], [], S) := rn_step dX9_take_27 rfl rfl
theorem eX9_take_29 {a : Int} {l0 l1 l2 l3 l4 l5 : Option VV} {S : MM} : rn xX9_take (29, [l0, l1, l2, l3, l4, l5, some (vI a)], [], S) = rn xX9_take (31, [l0, l1, l2, l3, l4, l5, some (vI a)], [vI a], S) := rn_step dX9_take_29 rfl rfl
theorem eX9_take_31 {a : Int} {l0 l1 l2 l4 l5 l6 : Option VV} {v0 : VV} {S : MM} : rn xX9_take (31, [l0, l1, l2, some (vI a), l4, l5, l6], [v0], S) = rn xX9_take (32, [l0, l1, l2, some (vI a), l4, l5, l6], [vI a, v0], S) := rn_step dX9_take_31 rfl rfl
theorem eX9_take_32 {a b : Int} {l0 l1 l2 l3 l4 l5 l6 : Option VV} (h : -2147483648 ≤ a ∧ a ≤ 2147483647) (h1 : -2147483648 ≤ b ∧ b ≤ 2147483647) {S : MM} : rn xX9_take (32, [l0, l1, l2, l3, l4, l5, l6], [vI b, vI a], S) = if b < a then rn xX9_take (86, [l0, l1, l2, l3, l4, l5, l6], [], S) else rn xX9_take (35, [l0, l1, l2, l3, l4, l5, l6], [], S) := q_icmp_gt dX9_take_32 (by decide) rfl h h1
theorem eX9_take_35 {a : Option Nat} {l1 l2 l3 l4 l5 l6 : Option VV} {S : MM} : rn xX9_take (35, [some (.inr (.inl a)), l1, l2, l3, l4, l5, l6], [], S) = rn xX9_take (36, [some (.inr (.inl a)), l1, l2, l3, l4, l5, l6], [.inr (.inl a)], S) := rn_step dX9_take_35 rfl rfl
theorem eX9_take_36 {l0 l1 l2 l3 l4 l5 l6 : Option VV} {S : MM} : rn xX9_take (36, [l0, l1, l2, l3, l4, l5, l6], [vR 593], S) = rn xX9_take (39, [l0, l1, l2, l3, l4, l5, l6], [vR 594], S) := q_getR dX9_take_36 rfl ⟨⟨by decide, by decide⟩, by decide⟩ (fun _ => by decide +kernel) kd593
theorem eX9_take_39 {a : Int} {l0 l1 l2 l3 l5 l6 : Option VV} {v0 : VV} {S : MM} : rn xX9_take (39, [l0, l1, l2, l3, some (vI a), l5, l6], [v0], S) = rn xX9_take (41, [l0, l1, l2, l3, some (vI a), l5, l6], [vI a, v0], S) := rn_step dX9_take_39 rfl rfl
theorem eX9_take_41 {a : Int} {l0 l1 l2 l3 l4 l5 : Option VV} {v0 v1 : VV} {S : MM} : rn xX9_take (41, [l0, l1, l2, l3, l4, l5, some (vI a)], [v0, v1], S) = rn xX9_take (43, [l0, l1, l2, l3, l4, l5, some (vI a)], [vI a, v0, v1], S) := rn_step dX9_take_41 rfl rfl
theorem eX9_take_43 {a b : Int} {l0 l1 l2 l3 l4 l5 l6 : Option VV} {v2 : VV} {S : MM} : rn xX9_take (43, [l0, l1, l2, l3, l4, l5, l6], [vI b, vI a, v2], S) = rn xX9_take (44, [l0, l1, l2, l3, l4, l5, l6], [vI (a + b), v2], S) := rn_step dX9_take_43 rfl rfl
theorem eX9_take_44 {a : Option Nat} {l1 l2 l3 l4 l5 l6 : Option VV} {v0 v1 : VV} {S : MM} : rn xX9_take (44, [some (.inr (.inl a)), l1, l2, l3, l4, l5, l6], [v0, v1], S) = rn xX9_take (45, [some (.inr (.inl a)), l1, l2, l3, l4, l5, l6], [.inr (.inl a), v0, v1], S) := rn_step dX9_take_44 rfl rfl
theorem eX9_take_45 {a : Int} {l0 l2 l3 l4 l5 l6 : Option VV} {v0 v1 v2 : VV} {S : MM} : rn xX9_take (45, [l0, some (vI a), l2, l3, l4, l5, l6], [v0, v1, v2], S) = rn xX9_take (46, [l0, some (vI a), l2, l3, l4, l5, l6], [vI a, v0, v1, v2], S) := rn_step dX9_take_45 rfl rfl
theorem eX9_take_46 {a : Int} {l0 l1 l2 l3 l4 l5 : Option VV} {v0 v1 v2 v3 : VV} {S : MM} : rn xX9_take (46, [l0, l1, l2, l3, l4, l5, some (vI a)], [v0, v1, v2, v3], S) = rn xX9_take (48, [l0, l1, l2, l3, l4, l5, some (vI a)], [vI a, v0, v1, v2, v3], S) := rn_step dX9_take_46 rfl rfl
theorem eX9_take_48 {a0 : Int} {a1 : Int} {l0 l1 l2 l3 l4 l5 l6 : Option VV} {v3 v4 : VV} {S : MM} : rn xX9_take (48, [l0, l1, l2, l3, l4, l5, l6], [vI a1, vI a0, vR 593, v3, v4], S) = (fX9_repeats [vR 593, vI a0, vI a1] S).bind (fun q => rn xX9_take (51, [l0, l1, l2, l3, l4, l5, l6], q.1.toList ++ [v3, v4], q.2)) := q_callV (n := 2) (as := [vI a0, vI a1]) (rest := [v3, v4]) dX9_take_48 rfl rfl rfl rfl kd593
theorem eX9_take_51 {i : Nat} {j z : Int} {l0 l1 l2 l3 l4 l5 l6 : Option VV} (h : kd i = 10) (h0 : 0 ≤ j) (h1 : j < alen i) {S : MM} : rn xX9_take (51, [l0, l1, l2, l3, l4, l5, l6], [vI z, vI j, vR i], S) = rn xX9_take (52, [l0, l1, l2, l3, l4, l5, l6], [], updM S i j.toNat z) := q_iast dX9_take_51 h h0 h1
theorem eX9_take_52 {a : Int} {l0 l1 l2 l3 l4 l6 : Option VV} {S : MM} : rn xX9_take (52, [l0, l1, l2, l3, l4, some (vI a), l6], [], S) = rn xX9_take (54, [l0, l1, l2, l3, l4, some (vI a), l6], [vI a], S) := rn_step dX9_take_52 rfl rfl
theorem eX9_take_54 {a : Option Nat} {l1 l2 l3 l4 l5 l6 : Option VV} {v0 : VV} {S : MM} : rn xX9_take (54, [some (.inr (.inl a)), l1, l2, l3, l4, l5, l6], [v0], S) = rn xX9_take (55, [some (.inr (.inl a)), l1, l2, l3, l4, l5, l6], [.inr (.inl a), v0], S) := rn_step dX9_take_54 rfl rfl
theorem eX9_take_55 {a : Int} {l0 l2 l3 l4 l5 l6 : Option VV} {v0 v1 : VV} {S : MM} : rn xX9_take (55, [l0, some (vI a), l2, l3, l4, l5, l6], [v0, v1], S) = rn xX9_take (56, [l0, some (vI a), l2, l3, l4, l5, l6], [vI a, v0, v1], S) := rn_step dX9_take_55 rfl rfl
theorem eX9_take_56 {a : Int} {l0 l1 l2 l3 l4 l5 : Option VV} {v0 v1 v2 : VV} {S : MM} : rn xX9_take (56, [l0, l1, l2, l3, l4, l5, some (vI a)], [v0, v1, v2], S) = rn xX9_take (58, [l0, l1, l2, l3, l4, l5, some (vI a)], [vI a, v0, v1, v2], S) := rn_step dX9_take_56 rfl rfl
theorem eX9_take_58 {a0 : Int} {a1 : Int} {l0 l1 l2 l3 l4 l5 l6 : Option VV} {v3 : VV} {S : MM} : rn xX9_take (58, [l0, l1, l2, l3, l4, l5, l6], [vI a1, vI a0, vR 593, v3], S) = (fX9_repeats [vR 593, vI a0, vI a1] S).bind (fun q => rn xX9_take (61, [l0, l1, l2, l3, l4, l5, l6], q.1.toList ++ [v3], q.2)) := q_callV (n := 2) (as := [vI a0, vI a1]) (rest := [v3]) dX9_take_58 rfl rfl rfl rfl kd593
theorem eX9_take_61 {a : Int} {l0 l1 l2 l3 l4 l5 l6 : Option VV} {v1 : VV} (h : -2147483648 ≤ a ∧ a ≤ 2147483647) {S : MM} : rn xX9_take (61, [l0, l1, l2, l3, l4, l5, l6], [vI a, v1], S) = if 0 < a then rn xX9_take (64, [l0, l1, l2, l3, l4, l5, l6], [v1], S) else rn xX9_take (68, [l0, l1, l2, l3, l4, l5, l6], [v1], S) := q_if_le dX9_take_61 (by decide) rfl h
theorem eX9_take_64 {l0 l1 l2 l3 l4 l5 l6 : Option VV} {v0 : VV} {S : MM} : rn xX9_take (64, [l0, l1, l2, l3, l4, l5, l6], [v0], S) = rn xX9_take (65, [l0, l1, l2, l3, l4, l5, l6], [vI 1, v0], S) := rn_step dX9_take_64 rfl rfl
theorem eX9_take_65 {l0 l1 l2 l3 l4 l5 l6 : Option VV} {v0 v1 : VV} {S : MM} : rn xX9_take (65, [l0, l1, l2, l3, l4, l5, l6], [v0, v1], S) = rn xX9_take (69, [l0, l1, l2, l3, l4, l5, l6], [v0, v1], S) := rn_step dX9_take_65 rfl rfl
theorem eX9_take_68 {l0 l1 l2 l3 l4 l5 l6 : Option VV} {v0 : VV} {S : MM} : rn xX9_take (68, [l0, l1, l2, l3, l4, l5, l6], [v0], S) = rn xX9_take (69, [l0, l1, l2, l3, l4, l5, l6], [vI 0, v0], S) := rn_step dX9_take_68 rfl rfl
theorem eX9_take_69 {a b : Int} {l0 l1 l2 l3 l4 l5 l6 : Option VV} {S : MM} : rn xX9_take (69, [l0, l1, l2, l3, l4, l5, l6], [vI b, vI a], S) = rn xX9_take (70, [l0, l1, l2, l3, l4, l5, l6], [vI (a + b)], S) := rn_step dX9_take_69 rfl rfl
theorem eX9_take_70 {a : Int} {w : Int} {l0 l1 l2 l3 l5 l6 : Option VV} {S : MM} : rn xX9_take (70, [l0, l1, l2, l3, some (vI w), l5, l6], [vI a], S) = rn xX9_take (72, [l0, l1, l2, l3, some (vI w), some (vI a), l6], [], S) := rn_step dX9_take_70 rfl rfl
theorem eX9_take_72 {a : Option Nat} {l1 l2 l3 l4 l5 l6 : Option VV} {S : MM} : rn xX9_take (72, [some (.inr (.inl a)), l1, l2, l3, l4, l5, l6], [], S) = rn xX9_take (73, [some (.inr (.inl a)), l1, l2, l3, l4, l5, l6], [.inr (.inl a)], S) := rn_step dX9_take_72 rfl rfl
theorem eX9_take_73 {a : Int} {l0 l2 l3 l4 l5 l6 : Option VV} {v0 : VV} {S : MM} : rn xX9_take (73, [l0, some (vI a), l2, l3, l4, l5, l6], [v0], S) = rn xX9_take (74, [l0, some (vI a), l2, l3, l4, l5, l6], [vI a, v0], S) := rn_step dX9_take_73 rfl rfl
theorem eX9_take_74 {a : Int} {l0 l1 l2 l3 l4 l5 : Option VV} {v0 v1 : VV} {S : MM} : rn xX9_take (74, [l0, l1, l2, l3, l4, l5, some (vI a)], [v0, v1], S) = rn xX9_take (76, [l0, l1, l2, l3, l4, l5, some (vI a)], [vI a, v0, v1], S) := rn_step dX9_take_74 rfl rfl
theorem eX9_take_76 {l0 l1 l2 l3 l4 l5 l6 : Option VV} {v0 v1 v2 : VV} {S : MM} : rn xX9_take (76, [l0, l1, l2, l3, l4, l5, l6], [v0, v1, v2], S) = rn xX9_take (77, [l0, l1, l2, l3, l4, l5, l6], [vI 0, v0, v1, v2], S) := rn_step dX9_take_76 rfl rfl
theorem eX9_take_77 {a0 : Int} {a1 : Int} {a2 : Int} {l0 l1 l2 l3 l4 l5 l6 : Option VV} {S : MM} : rn xX9_take (77, [l0, l1, l2, l3, l4, l5, l6], [vI a2, vI a1, vI a0, vR 593], S) = (fX9_lay [vR 593, vI a0, vI a1, vI a2] S).bind (fun q => rn xX9_take (80, [l0, l1, l2, l3, l4, l5, l6], q.1.toList ++ [], q.2)) := q_callV (n := 3) (as := [vI a0, vI a1, vI a2]) (rest := []) dX9_take_77 rfl rfl rfl rfl kd593
theorem eX9_take_80 {a : Int} {w : Int} {l0 l1 l2 l3 l4 : Option VV} {S : MM} : rn xX9_take (80, [l0, l1, l2, l3, l4, some (vI w), some (vI a)], [], S) = rn xX9_take (83, [l0, l1, l2, l3, l4, some (vI w), some (vI (a + 1))], [], S) := rn_step dX9_take_80 rfl rfl
theorem eX9_take_83 {l0 l1 l2 l3 l4 l5 l6 : Option VV} {S : MM} : rn xX9_take (83, [l0, l1, l2, l3, l4, l5, l6], [], S) = rn xX9_take (29, [l0, l1, l2, l3, l4, l5, l6], [], S) := rn_step dX9_take_83 rfl rfl
theorem eX9_take_86 {a : Int} {l0 l1 l2 l3 l4 l6 : Option VV} {S : MM} : rn xX9_take (86, [l0, l1, l2, l3, l4, some (vI a), l6], [], S) = rn xX9_take (88, [l0, l1, l2, l3, l4, some (vI a), l6], [vI a], S) := rn_step dX9_take_86 rfl rfl
theorem eX9_take_88 {z : Int} {l0 l1 l2 l3 l4 l5 l6 : Option VV} {S : MM} : rn xX9_take (88, [l0, l1, l2, l3, l4, l5, l6], [vI z], S) = some (some (vI z), S) := q_retI dX9_take_88 rfl
noncomputable def qlX9_slip : List CE := [(0, 57, 9, 2, fX9_stands), (0, 39, 9, 3, fX9_repeats), (0, 70, 9, 3, fX9_firstFrom)]
noncomputable def xX9_slip : XX := (cX9_slip, fcF fcl9, mcF qlX9_slip, 0)
noncomputable def fX9_slip : FN := fnX xX9_slip 3
set_option maxRecDepth 100000 in
theorem cwX9_slip : Cond.code yX9_slip cX9_slip 3 none ∈ lw_g := lw_gm 1090 (by decide +kernel) (by decide +kernel)
set_option maxRecDepth 100000 in
theorem conX9_slip : Con yX9_slip cX9_slip 3 none { frames := 2, cells := 0, slots := 0, locals := 45 } fX9_slip := con_of (X := xX9_slip) (own := "LeapStonesModel") (ql := qlX9_slip) (by decide) rfl FOK9 rfl (List.forall_mem_cons.mpr ⟨call_V conX9_stands cwX9_stands (lw_gl _ [975, 977, 27, 84] (by decide +kernel) (by decide +kernel)) (by decide) rfl ⟨by decide, by decide, by decide +kernel⟩ ⟨rfl, rfl⟩ ⟨by decide, by decide⟩ ⟨Nat.le_refl _, Nat.le_refl _⟩, List.forall_mem_cons.mpr ⟨call_V conX9_repeats cwX9_repeats (lw_gl _ [959, 961, 23, 84] (by decide +kernel) (by decide +kernel)) (by decide) rfl ⟨by decide, by decide, by decide +kernel⟩ ⟨rfl, rfl⟩ ⟨by decide, by decide⟩ ⟨Nat.le_refl _, Nat.le_refl _⟩, List.forall_mem_cons.mpr ⟨call_V conX9_firstFrom cwX9_firstFrom (lw_gl _ [955, 957, 22, 84] (by decide +kernel) (by decide +kernel)) (by decide) rfl ⟨by decide, by decide, by decide +kernel⟩ ⟨rfl, rfl⟩ ⟨by decide, by decide⟩ ⟨Nat.le_refl _, Nat.le_refl _⟩, fun _ h => absurd h List.not_mem_nil⟩⟩⟩) (Or.inl ⟨rfl, rfl⟩)
theorem uX9_slip {i : Nat} {a0 : Int} {S : MM} : fX9_slip [vR i, vI a0] S = rn xX9_slip (0, [some (vR i), some (vI a0), none], [], S) := rfl
theorem dX9_slip_0 : decode cX9_slip 0 = .ok (.aload_n 0, 1) := by decide +kernel
theorem dX9_slip_1 : decode cX9_slip 1 = .ok (.iload_n 1, 1) := by decide +kernel
theorem dX9_slip_2 : decode cX9_slip 2 = .ok (.invokevirtual 57, 3) := by decide +kernel
theorem dX9_slip_5 : decode cX9_slip 5 = .ok (.istore_n 2, 1) := by decide +kernel
theorem dX9_slip_6 : decode cX9_slip 6 = .ok (.aload_n 0, 1) := by decide +kernel
theorem dX9_slip_7 : decode cX9_slip 7 = .ok (.getfield 7, 3) := by decide +kernel
theorem dX9_slip_10 : decode cX9_slip 10 = .ok (.iconst 4, 1) := by decide +kernel
theorem dX9_slip_11 : decode cX9_slip 11 = .ok (.iaload, 1) := by decide +kernel
theorem dX9_slip_12 : decode cX9_slip 12 = .ok (.ifCond .le 61, 3) := by decide +kernel
theorem dX9_slip_15 : decode cX9_slip 15 = .ok (.iload_n 2, 1) := by decide +kernel
theorem dX9_slip_16 : decode cX9_slip 16 = .ok (.sipush 300, 3) := by decide +kernel
theorem dX9_slip_19 : decode cX9_slip 19 = .ok (.if_icmp .ge 54, 3) := by decide +kernel
theorem dX9_slip_22 : decode cX9_slip 22 = .ok (.aload_n 0, 1) := by decide +kernel
theorem dX9_slip_23 : decode cX9_slip 23 = .ok (.iload_n 1, 1) := by decide +kernel
theorem dX9_slip_24 : decode cX9_slip 24 = .ok (.iload_n 2, 1) := by decide +kernel
theorem dX9_slip_25 : decode cX9_slip 25 = .ok (.invokevirtual 39, 3) := by decide +kernel
theorem dX9_slip_28 : decode cX9_slip 28 = .ok (.ifCond .ne 45, 3) := by decide +kernel
theorem dX9_slip_31 : decode cX9_slip 31 = .ok (.aload_n 0, 1) := by decide +kernel
theorem dX9_slip_32 : decode cX9_slip 32 = .ok (.getfield 7, 3) := by decide +kernel
theorem dX9_slip_35 : decode cX9_slip 35 = .ok (.bipush 20, 2) := by decide +kernel
theorem dX9_slip_37 : decode cX9_slip 37 = .ok (.iload_n 1, 1) := by decide +kernel
theorem dX9_slip_38 : decode cX9_slip 38 = .ok (.iadd, 1) := by decide +kernel
theorem dX9_slip_39 : decode cX9_slip 39 = .ok (.aload_n 0, 1) := by decide +kernel
theorem dX9_slip_40 : decode cX9_slip 40 = .ok (.iload_n 1, 1) := by decide +kernel
theorem dX9_slip_41 : decode cX9_slip 41 = .ok (.iload_n 2, 1) := by decide +kernel
theorem dX9_slip_42 : decode cX9_slip 42 = .ok (.invokevirtual 70, 3) := by decide +kernel
theorem dX9_slip_45 : decode cX9_slip 45 = .ok (.iastore, 1) := by decide +kernel
theorem dX9_slip_46 : decode cX9_slip 46 = .ok (.aload_n 0, 1) := by decide +kernel
theorem dX9_slip_47 : decode cX9_slip 47 = .ok (.getfield 7, 3) := by decide +kernel
theorem dX9_slip_50 : decode cX9_slip 50 = .ok (.bipush 14, 2) := by decide +kernel
theorem dX9_slip_52 : decode cX9_slip 52 = .ok (.iload_n 1, 1) := by decide +kernel
theorem dX9_slip_53 : decode cX9_slip 53 = .ok (.iadd, 1) := by decide +kernel
theorem dX9_slip_54 : decode cX9_slip 54 = .ok (.dup2, 1) := by decide +kernel
theorem dX9_slip_55 : decode cX9_slip 55 = .ok (.iaload, 1) := by decide +kernel
theorem dX9_slip_56 : decode cX9_slip 56 = .ok (.aload_n 0, 1) := by decide +kernel
theorem dX9_slip_57 : decode cX9_slip 57 = .ok (.getfield 7, 3) := by decide +kernel
theorem dX9_slip_60 : decode cX9_slip 60 = .ok (.iconst 4, 1) := by decide +kernel
theorem dX9_slip_61 : decode cX9_slip 61 = .ok (.iaload, 1) := by decide +kernel
theorem dX9_slip_62 : decode cX9_slip 62 = .ok (.iconst 1, 1) := by decide +kernel
theorem dX9_slip_63 : decode cX9_slip 63 = .ok (.if_icmp .ne 7, 3) := by decide +kernel
theorem dX9_slip_66 : decode cX9_slip 66 = .ok (.iconst 1, 1) := by decide +kernel
theorem dX9_slip_67 : decode cX9_slip 67 = .ok (.goto 4, 3) := by decide +kernel
theorem dX9_slip_70 : decode cX9_slip 70 = .ok (.iconst 0, 1) := by decide +kernel
theorem dX9_slip_71 : decode cX9_slip 71 = .ok (.iadd, 1) := by decide +kernel
theorem dX9_slip_72 : decode cX9_slip 72 = .ok (.iastore, 1) := by decide +kernel
theorem dX9_slip_73 : decode cX9_slip 73 = .ok (.return_, 1) := by decide +kernel
theorem eX9_slip_0 {a : Option Nat} {l1 l2 : Option VV} {S : MM} : rn xX9_slip (0, [some (.inr (.inl a)), l1, l2], [], S) = rn xX9_slip (1, [some (.inr (.inl a)), l1, l2], [.inr (.inl a)], S) := rn_step dX9_slip_0 rfl rfl
theorem eX9_slip_1 {a : Int} {l0 l2 : Option VV} {v0 : VV} {S : MM} : rn xX9_slip (1, [l0, some (vI a), l2], [v0], S) = rn xX9_slip (2, [l0, some (vI a), l2], [vI a, v0], S) := rn_step dX9_slip_1 rfl rfl
theorem eX9_slip_2 {a0 : Int} {l0 l1 l2 : Option VV} {S : MM} : rn xX9_slip (2, [l0, l1, l2], [vI a0, vR 593], S) = (fX9_stands [vR 593, vI a0] S).bind (fun q => rn xX9_slip (5, [l0, l1, l2], q.1.toList ++ [], q.2)) := q_callV (n := 1) (as := [vI a0]) (rest := []) dX9_slip_2 rfl rfl rfl rfl kd593
theorem eX9_slip_5 {a : Int} {w : Int} {l0 l2 : Option VV} {S : MM} : rn xX9_slip (5, [l0, some (vI w), l2], [vI a], S) = rn xX9_slip (6, [l0, some (vI w), some (vI a)], [], S) := rn_step dX9_slip_5 rfl rfl
theorem eX9_slip_6 {a : Option Nat} {l1 l2 : Option VV} {S : MM} : rn xX9_slip (6, [some (.inr (.inl a)), l1, l2], [], S) = rn xX9_slip (7, [some (.inr (.inl a)), l1, l2], [.inr (.inl a)], S) := rn_step dX9_slip_6 rfl rfl
theorem eX9_slip_7 {l0 l1 l2 : Option VV} {S : MM} : rn xX9_slip (7, [l0, l1, l2], [vR 593], S) = rn xX9_slip (10, [l0, l1, l2], [vR 594], S) := q_getR dX9_slip_7 rfl ⟨⟨by decide, by decide⟩, by decide⟩ (fun _ => by decide +kernel) kd593
theorem eX9_slip_10 {l0 l1 l2 : Option VV} {v0 : VV} {S : MM} : rn xX9_slip (10, [l0, l1, l2], [v0], S) = rn xX9_slip (11, [l0, l1, l2], [vI 4, v0], S) := rn_step dX9_slip_10 rfl rfl
theorem eX9_slip_11 {i : Nat} {j : Int} {l0 l1 l2 : Option VV} (h : kd i = 10) (h0 : 0 ≤ j) (h1 : j < alen i) {S : MM} : rn xX9_slip (11, [l0, l1, l2], [vI j, vR i], S) = rn xX9_slip (12, [l0, l1, l2], [vI (S i j.toNat)], S) := q_iald dX9_slip_11 h h0 h1
theorem eX9_slip_11x {j : Int} {l0 l1 l2 : Option VV} {S : MM} (h0 : 0 ≤ j) (h1 : j < S 604 0) : rn xX9_slip (11, [l0, l1, l2], [vI j, vR 602], S) = rn xX9_slip (12, [l0, l1, l2], [vI (S 602 j.toNat)], S) := q_ialdX dX9_slip_11 h0 h1
theorem eX9_slip_11y {j : Int} {l0 l1 l2 : Option VV} {S : MM} (h0 : 0 ≤ j) (h1 : j < S 604 1) : rn xX9_slip (11, [l0, l1, l2], [vI j, vR 603], S) = rn xX9_slip (12, [l0, l1, l2], [vI (S 603 j.toNat)], S) := q_ialdY dX9_slip_11 h0 h1
theorem eX9_slip_12 {a : Int} {l0 l1 l2 : Option VV} (h : -2147483648 ≤ a ∧ a ≤ 2147483647) {S : MM} : rn xX9_slip (12, [l0, l1, l2], [vI a], S) = if 0 < a then rn xX9_slip (15, [l0, l1, l2], [], S) else rn xX9_slip (73, [l0, l1, l2], [], S) := q_if_le dX9_slip_12 (by decide) rfl h
theorem eX9_slip_15 {a : Int} {l0 l1 : Option VV} {S : MM} : rn xX9_slip (15, [l0, l1, some (vI a)], [], S) = rn xX9_slip (16, [l0, l1, some (vI a)], [vI a], S) := rn_step dX9_slip_15 rfl rfl
theorem eX9_slip_16 {l0 l1 l2 : Option VV} {v0 : VV} {S : MM} : rn xX9_slip (16, [l0, l1, l2], [v0], S) = rn xX9_slip (19, [l0, l1, l2], [vI 300, v0], S) := rn_step dX9_slip_16 rfl rfl
theorem eX9_slip_19 {a b : Int} {l0 l1 l2 : Option VV} (h : -2147483648 ≤ a ∧ a ≤ 2147483647) (h1 : -2147483648 ≤ b ∧ b ≤ 2147483647) {S : MM} : rn xX9_slip (19, [l0, l1, l2], [vI b, vI a], S) = if a < b then rn xX9_slip (22, [l0, l1, l2], [], S) else rn xX9_slip (73, [l0, l1, l2], [], S) := q_icmp_ge dX9_slip_19 (by decide) rfl h h1
theorem eX9_slip_22 {a : Option Nat} {l1 l2 : Option VV} {S : MM} : rn xX9_slip (22, [some (.inr (.inl a)), l1, l2], [], S) = rn xX9_slip (23, [some (.inr (.inl a)), l1, l2], [.inr (.inl a)], S) := rn_step dX9_slip_22 rfl rfl
theorem eX9_slip_23 {a : Int} {l0 l2 : Option VV} {v0 : VV} {S : MM} : rn xX9_slip (23, [l0, some (vI a), l2], [v0], S) = rn xX9_slip (24, [l0, some (vI a), l2], [vI a, v0], S) := rn_step dX9_slip_23 rfl rfl
theorem eX9_slip_24 {a : Int} {l0 l1 : Option VV} {v0 v1 : VV} {S : MM} : rn xX9_slip (24, [l0, l1, some (vI a)], [v0, v1], S) = rn xX9_slip (25, [l0, l1, some (vI a)], [vI a, v0, v1], S) := rn_step dX9_slip_24 rfl rfl
theorem eX9_slip_25 {a0 : Int} {a1 : Int} {l0 l1 l2 : Option VV} {S : MM} : rn xX9_slip (25, [l0, l1, l2], [vI a1, vI a0, vR 593], S) = (fX9_repeats [vR 593, vI a0, vI a1] S).bind (fun q => rn xX9_slip (28, [l0, l1, l2], q.1.toList ++ [], q.2)) := q_callV (n := 2) (as := [vI a0, vI a1]) (rest := []) dX9_slip_25 rfl rfl rfl rfl kd593
theorem eX9_slip_28 {a : Int} {l0 l1 l2 : Option VV} (h : -2147483648 ≤ a ∧ a ≤ 2147483647) {S : MM} : rn xX9_slip (28, [l0, l1, l2], [vI a], S) = if a = 0 then rn xX9_slip (31, [l0, l1, l2], [], S) else rn xX9_slip (73, [l0, l1, l2], [], S) := q_if_ne dX9_slip_28 (by decide) rfl h
theorem eX9_slip_31 {a : Option Nat} {l1 l2 : Option VV} {S : MM} : rn xX9_slip (31, [some (.inr (.inl a)), l1, l2], [], S) = rn xX9_slip (32, [some (.inr (.inl a)), l1, l2], [.inr (.inl a)], S) := rn_step dX9_slip_31 rfl rfl
theorem eX9_slip_32 {l0 l1 l2 : Option VV} {S : MM} : rn xX9_slip (32, [l0, l1, l2], [vR 593], S) = rn xX9_slip (35, [l0, l1, l2], [vR 594], S) := q_getR dX9_slip_32 rfl ⟨⟨by decide, by decide⟩, by decide⟩ (fun _ => by decide +kernel) kd593
theorem eX9_slip_35 {l0 l1 l2 : Option VV} {v0 : VV} {S : MM} : rn xX9_slip (35, [l0, l1, l2], [v0], S) = rn xX9_slip (37, [l0, l1, l2], [vI 20, v0], S) := rn_step dX9_slip_35 rfl rfl
theorem eX9_slip_37 {a : Int} {l0 l2 : Option VV} {v0 v1 : VV} {S : MM} : rn xX9_slip (37, [l0, some (vI a), l2], [v0, v1], S) = rn xX9_slip (38, [l0, some (vI a), l2], [vI a, v0, v1], S) := rn_step dX9_slip_37 rfl rfl
theorem eX9_slip_38 {a b : Int} {l0 l1 l2 : Option VV} {v2 : VV} {S : MM} : rn xX9_slip (38, [l0, l1, l2], [vI b, vI a, v2], S) = rn xX9_slip (39, [l0, l1, l2], [vI (a + b), v2], S) := rn_step dX9_slip_38 rfl rfl
theorem eX9_slip_39 {a : Option Nat} {l1 l2 : Option VV} {v0 v1 : VV} {S : MM} : rn xX9_slip (39, [some (.inr (.inl a)), l1, l2], [v0, v1], S) = rn xX9_slip (40, [some (.inr (.inl a)), l1, l2], [.inr (.inl a), v0, v1], S) := rn_step dX9_slip_39 rfl rfl
theorem eX9_slip_40 {a : Int} {l0 l2 : Option VV} {v0 v1 v2 : VV} {S : MM} : rn xX9_slip (40, [l0, some (vI a), l2], [v0, v1, v2], S) = rn xX9_slip (41, [l0, some (vI a), l2], [vI a, v0, v1, v2], S) := rn_step dX9_slip_40 rfl rfl
theorem eX9_slip_41 {a : Int} {l0 l1 : Option VV} {v0 v1 v2 v3 : VV} {S : MM} : rn xX9_slip (41, [l0, l1, some (vI a)], [v0, v1, v2, v3], S) = rn xX9_slip (42, [l0, l1, some (vI a)], [vI a, v0, v1, v2, v3], S) := rn_step dX9_slip_41 rfl rfl
theorem eX9_slip_42 {a0 : Int} {a1 : Int} {l0 l1 l2 : Option VV} {v3 v4 : VV} {S : MM} : rn xX9_slip (42, [l0, l1, l2], [vI a1, vI a0, vR 593, v3, v4], S) = (fX9_firstFrom [vR 593, vI a0, vI a1] S).bind (fun q => rn xX9_slip (45, [l0, l1, l2], q.1.toList ++ [v3, v4], q.2)) := q_callV (n := 2) (as := [vI a0, vI a1]) (rest := [v3, v4]) dX9_slip_42 rfl rfl rfl rfl kd593
theorem eX9_slip_45 {i : Nat} {j z : Int} {l0 l1 l2 : Option VV} (h : kd i = 10) (h0 : 0 ≤ j) (h1 : j < alen i) {S : MM} : rn xX9_slip (45, [l0, l1, l2], [vI z, vI j, vR i], S) = rn xX9_slip (46, [l0, l1, l2], [], updM S i j.toNat z) := q_iast dX9_slip_45 h h0 h1
theorem eX9_slip_46 {a : Option Nat} {l1 l2 : Option VV} {S : MM} : rn xX9_slip (46, [some (.inr (.inl a)), l1, l2], [], S) = rn xX9_slip (47, [some (.inr (.inl a)), l1, l2], [.inr (.inl a)], S) := rn_step dX9_slip_46 rfl rfl
theorem eX9_slip_47 {l0 l1 l2 : Option VV} {S : MM} : rn xX9_slip (47, [l0, l1, l2], [vR 593], S) = rn xX9_slip (50, [l0, l1, l2], [vR 594], S) := q_getR dX9_slip_47 rfl ⟨⟨by decide, by decide⟩, by decide⟩ (fun _ => by decide +kernel) kd593
theorem eX9_slip_50 {l0 l1 l2 : Option VV} {v0 : VV} {S : MM} : rn xX9_slip (50, [l0, l1, l2], [v0], S) = rn xX9_slip (52, [l0, l1, l2], [vI 14, v0], S) := rn_step dX9_slip_50 rfl rfl
theorem eX9_slip_52 {a : Int} {l0 l2 : Option VV} {v0 v1 : VV} {S : MM} : rn xX9_slip (52, [l0, some (vI a), l2], [v0, v1], S) = rn xX9_slip (53, [l0, some (vI a), l2], [vI a, v0, v1], S) := rn_step dX9_slip_52 rfl rfl
theorem eX9_slip_53 {a b : Int} {l0 l1 l2 : Option VV} {v2 : VV} {S : MM} : rn xX9_slip (53, [l0, l1, l2], [vI b, vI a, v2], S) = rn xX9_slip (54, [l0, l1, l2], [vI (a + b), v2], S) := rn_step dX9_slip_53 rfl rfl
theorem eX9_slip_54 {a : Int} {b : Option Nat} {l0 l1 l2 : Option VV} {S : MM} : rn xX9_slip (54, [l0, l1, l2], [vI a, .inr (.inl b)], S) = rn xX9_slip (55, [l0, l1, l2], [vI a, .inr (.inl b), vI a, .inr (.inl b)], S) := rn_step dX9_slip_54 rfl rfl
theorem eX9_slip_55 {i : Nat} {j : Int} {l0 l1 l2 : Option VV} {v2 v3 : VV} (h : kd i = 10) (h0 : 0 ≤ j) (h1 : j < alen i) {S : MM} : rn xX9_slip (55, [l0, l1, l2], [vI j, vR i, v2, v3], S) = rn xX9_slip (56, [l0, l1, l2], [vI (S i j.toNat), v2, v3], S) := q_iald dX9_slip_55 h h0 h1
theorem eX9_slip_55x {j : Int} {l0 l1 l2 : Option VV} {v2 v3 : VV} {S : MM} (h0 : 0 ≤ j) (h1 : j < S 604 0) : rn xX9_slip (55, [l0, l1, l2], [vI j, vR 602, v2, v3], S) = rn xX9_slip (56, [l0, l1, l2], [vI (S 602 j.toNat), v2, v3], S) := q_ialdX dX9_slip_55 h0 h1
theorem eX9_slip_55y {j : Int} {l0 l1 l2 : Option VV} {v2 v3 : VV} {S : MM} (h0 : 0 ≤ j) (h1 : j < S 604 1) : rn xX9_slip (55, [l0, l1, l2], [vI j, vR 603, v2, v3], S) = rn xX9_slip (56, [l0, l1, l2], [vI (S 603 j.toNat), v2, v3], S) := q_ialdY dX9_slip_55 h0 h1
theorem eX9_slip_56 {a : Option Nat} {l1 l2 : Option VV} {v0 v1 v2 : VV} {S : MM} : rn xX9_slip (56, [some (.inr (.inl a)), l1, l2], [v0, v1, v2], S) = rn xX9_slip (57, [some (.inr (.inl a)), l1, l2], [.inr (.inl a), v0, v1, v2], S) := rn_step dX9_slip_56 rfl rfl
theorem eX9_slip_57 {l0 l1 l2 : Option VV} {v1 v2 v3 : VV} {S : MM} : rn xX9_slip (57, [l0, l1, l2], [vR 593, v1, v2, v3], S) = rn xX9_slip (60, [l0, l1, l2], [vR 594, v1, v2, v3], S) := q_getR dX9_slip_57 rfl ⟨⟨by decide, by decide⟩, by decide⟩ (fun _ => by decide +kernel) kd593
theorem eX9_slip_60 {l0 l1 l2 : Option VV} {v0 v1 v2 v3 : VV} {S : MM} : rn xX9_slip (60, [l0, l1, l2], [v0, v1, v2, v3], S) = rn xX9_slip (61, [l0, l1, l2], [vI 4, v0, v1, v2, v3], S) := rn_step dX9_slip_60 rfl rfl
theorem eX9_slip_61 {i : Nat} {j : Int} {l0 l1 l2 : Option VV} {v2 v3 v4 : VV} (h : kd i = 10) (h0 : 0 ≤ j) (h1 : j < alen i) {S : MM} : rn xX9_slip (61, [l0, l1, l2], [vI j, vR i, v2, v3, v4], S) = rn xX9_slip (62, [l0, l1, l2], [vI (S i j.toNat), v2, v3, v4], S) := q_iald dX9_slip_61 h h0 h1
theorem eX9_slip_61x {j : Int} {l0 l1 l2 : Option VV} {v2 v3 v4 : VV} {S : MM} (h0 : 0 ≤ j) (h1 : j < S 604 0) : rn xX9_slip (61, [l0, l1, l2], [vI j, vR 602, v2, v3, v4], S) = rn xX9_slip (62, [l0, l1, l2], [vI (S 602 j.toNat), v2, v3, v4], S) := q_ialdX dX9_slip_61 h0 h1
theorem eX9_slip_61y {j : Int} {l0 l1 l2 : Option VV} {v2 v3 v4 : VV} {S : MM} (h0 : 0 ≤ j) (h1 : j < S 604 1) : rn xX9_slip (61, [l0, l1, l2], [vI j, vR 603, v2, v3, v4], S) = rn xX9_slip (62, [l0, l1, l2], [vI (S 603 j.toNat), v2, v3, v4], S) := q_ialdY dX9_slip_61 h0 h1
theorem eX9_slip_62 {l0 l1 l2 : Option VV} {v0 v1 v2 v3 : VV} {S : MM} : rn xX9_slip (62, [l0, l1, l2], [v0, v1, v2, v3], S) = rn xX9_slip (63, [l0, l1, l2], [vI 1, v0, v1, v2, v3], S) := rn_step dX9_slip_62 rfl rfl
theorem eX9_slip_63 {a b : Int} {l0 l1 l2 : Option VV} {v2 v3 v4 : VV} (h : -2147483648 ≤ a ∧ a ≤ 2147483647) (h1 : -2147483648 ≤ b ∧ b ≤ 2147483647) {S : MM} : rn xX9_slip (63, [l0, l1, l2], [vI b, vI a, v2, v3, v4], S) = if a = b then rn xX9_slip (66, [l0, l1, l2], [v2, v3, v4], S) else rn xX9_slip (70, [l0, l1, l2], [v2, v3, v4], S) := q_icmp_ne dX9_slip_63 (by decide) rfl h h1
theorem eX9_slip_66 {l0 l1 l2 : Option VV} {v0 v1 v2 : VV} {S : MM} : rn xX9_slip (66, [l0, l1, l2], [v0, v1, v2], S) = rn xX9_slip (67, [l0, l1, l2], [vI 1, v0, v1, v2], S) := rn_step dX9_slip_66 rfl rfl
theorem eX9_slip_67 {l0 l1 l2 : Option VV} {v0 v1 v2 v3 : VV} {S : MM} : rn xX9_slip (67, [l0, l1, l2], [v0, v1, v2, v3], S) = rn xX9_slip (71, [l0, l1, l2], [v0, v1, v2, v3], S) := rn_step dX9_slip_67 rfl rfl
theorem eX9_slip_70 {l0 l1 l2 : Option VV} {v0 v1 v2 : VV} {S : MM} : rn xX9_slip (70, [l0, l1, l2], [v0, v1, v2], S) = rn xX9_slip (71, [l0, l1, l2], [vI 0, v0, v1, v2], S) := rn_step dX9_slip_70 rfl rfl
theorem eX9_slip_71 {a b : Int} {l0 l1 l2 : Option VV} {v2 v3 : VV} {S : MM} : rn xX9_slip (71, [l0, l1, l2], [vI b, vI a, v2, v3], S) = rn xX9_slip (72, [l0, l1, l2], [vI (a + b), v2, v3], S) := rn_step dX9_slip_71 rfl rfl
theorem eX9_slip_72 {i : Nat} {j z : Int} {l0 l1 l2 : Option VV} (h : kd i = 10) (h0 : 0 ≤ j) (h1 : j < alen i) {S : MM} : rn xX9_slip (72, [l0, l1, l2], [vI z, vI j, vR i], S) = rn xX9_slip (73, [l0, l1, l2], [], updM S i j.toNat z) := q_iast dX9_slip_72 h h0 h1
theorem eX9_slip_73 {l0 l1 l2 : Option VV} {S : MM} : rn xX9_slip (73, [l0, l1, l2], [], S) = some (none, S) := q_retV dX9_slip_73 rfl
noncomputable def qlX9_tryFlood : List CE := [(1, 123, 0, 1, fX9_isWalker), (1, 140, 0, 2, fX9_isRange), (0, 109, 9, 2, fX9_keepIf), (0, 144, 9, 1, fX9_dropOldest), (0, 147, 9, 4, fX9_take), (0, 150, 9, 2, fX9_slip), (0, 73, 9, 1, fX9_lookRound)]
noncomputable def xX9_tryFlood : XX := (cX9_tryFlood, fcF fcl9, mcF qlX9_tryFlood, 1)
noncomputable def fX9_tryFlood : FN := fnX xX9_tryFlood 7
set_option maxRecDepth 100000 in
theorem cwX9_tryFlood : Cond.code yX9_tryFlood cX9_tryFlood 7 (some .int) ∈ lw_g := lw_gm 1075 (by decide +kernel) (by decide +kernel)
set_option maxRecDepth 100000 in
theorem conX9_tryFlood : Con yX9_tryFlood cX9_tryFlood 7 (some .int) { frames := 3, cells := 0, slots := 0, locals := 67 } fX9_tryFlood := con_of (X := xX9_tryFlood) (own := "LeapStonesModel") (ql := qlX9_tryFlood) (by decide) rfl FOK9 rfl (List.forall_mem_cons.mpr ⟨call_S conX9_isWalker cwX9_isWalker (lw_gl _ [1054, 1055, 84] (by decide +kernel) (by decide +kernel)) ⟨by decide, by decide, by decide +kernel⟩ ⟨rfl, rfl⟩ ⟨by decide, by decide⟩ ⟨Nat.le_refl _, Nat.le_refl _⟩, List.forall_mem_cons.mpr ⟨call_S conX9_isRange cwX9_isRange (lw_gl _ [1076, 1077, 84] (by decide +kernel) (by decide +kernel)) ⟨by decide, by decide, by decide +kernel⟩ ⟨rfl, rfl⟩ ⟨by decide, by decide⟩ ⟨Nat.le_refl _, Nat.le_refl _⟩, List.forall_mem_cons.mpr ⟨call_V conX9_keepIf cwX9_keepIf (lw_gl _ [995, 997, 31, 84] (by decide +kernel) (by decide +kernel)) (by decide) rfl ⟨by decide, by decide, by decide +kernel⟩ ⟨rfl, rfl⟩ ⟨by decide, by decide⟩ ⟨Nat.le_refl _, Nat.le_refl _⟩, List.forall_mem_cons.mpr ⟨call_V conX9_dropOldest cwX9_dropOldest (lw_gl _ [1079, 1081, 45, 84] (by decide +kernel) (by decide +kernel)) (by decide) rfl ⟨by decide, by decide, by decide +kernel⟩ ⟨rfl, rfl⟩ ⟨by decide, by decide⟩ ⟨Nat.le_refl _, Nat.le_refl _⟩, List.forall_mem_cons.mpr ⟨call_V conX9_take cwX9_take (lw_gl _ [1083, 1085, 46, 84] (by decide +kernel) (by decide +kernel)) (by decide) rfl ⟨by decide, by decide, by decide +kernel⟩ ⟨rfl, rfl⟩ ⟨by decide, by decide⟩ ⟨Nat.le_refl _, Nat.le_refl _⟩, List.forall_mem_cons.mpr ⟨call_V conX9_slip cwX9_slip (lw_gl _ [1087, 1089, 47, 84] (by decide +kernel) (by decide +kernel)) (by decide) rfl ⟨by decide, by decide, by decide +kernel⟩ ⟨rfl, rfl⟩ ⟨by decide, by decide⟩ ⟨Nat.le_refl _, Nat.le_refl _⟩, List.forall_mem_cons.mpr ⟨call_V conX9_lookRound cwX9_lookRound (lw_gl _ [967, 969, 25, 84] (by decide +kernel) (by decide +kernel)) (by decide) rfl ⟨by decide, by decide, by decide +kernel⟩ ⟨rfl, rfl⟩ ⟨by decide, by decide⟩ ⟨Nat.le_refl _, Nat.le_refl _⟩, fun _ h => absurd h List.not_mem_nil⟩⟩⟩⟩⟩⟩⟩) (Or.inr (Or.inl ⟨rfl, rfl⟩))
theorem uX9_tryFlood {i : Nat} {a0 : Int} {a1 : Int} {a2 : Int} {a3 : Int} {S : MM} : fX9_tryFlood [vR i, vI a0, vI a1, vI a2, vI a3] S = rn xX9_tryFlood (0, [some (vR i), some (vI a0), some (vI a1), some (vI a2), some (vI a3), none, none], [], S) := rfl
theorem dX9_tryFlood_0 : decode cX9_tryFlood 0 = .ok (.iload_n 1, 1) := by decide +kernel
theorem dX9_tryFlood_1 : decode cX9_tryFlood 1 = .ok (.bipush (-6), 2) := by decide +kernel
theorem dX9_tryFlood_3 : decode cX9_tryFlood 3 = .ok (.if_icmp .eq 12, 3) := by decide +kernel
theorem dX9_tryFlood_6 : decode cX9_tryFlood 6 = .ok (.iload_n 1, 1) := by decide +kernel
theorem dX9_tryFlood_7 : decode cX9_tryFlood 7 = .ok (.invokestatic 123, 3) := by decide +kernel
theorem dX9_tryFlood_10 : decode cX9_tryFlood 10 = .ok (.ifCond .ne 5, 3) := by decide +kernel
theorem dX9_tryFlood_13 : decode cX9_tryFlood 13 = .ok (.iconst (-1), 1) := by decide +kernel
theorem dX9_tryFlood_14 : decode cX9_tryFlood 14 = .ok (.ireturn, 1) := by decide +kernel
theorem dX9_tryFlood_15 : decode cX9_tryFlood 15 = .ok (.iload_n 2, 1) := by decide +kernel
theorem dX9_tryFlood_16 : decode cX9_tryFlood 16 = .ok (.iload_n 3, 1) := by decide +kernel
theorem dX9_tryFlood_17 : decode cX9_tryFlood 17 = .ok (.invokestatic 140, 3) := by decide +kernel
theorem dX9_tryFlood_20 : decode cX9_tryFlood 20 = .ok (.ifCond .ne 6, 3) := by decide +kernel
theorem dX9_tryFlood_23 : decode cX9_tryFlood 23 = .ok (.bipush (-2), 2) := by decide +kernel
theorem dX9_tryFlood_25 : decode cX9_tryFlood 25 = .ok (.ireturn, 1) := by decide +kernel
theorem dX9_tryFlood_26 : decode cX9_tryFlood 26 = .ok (.aload_n 0, 1) := by decide +kernel
theorem dX9_tryFlood_27 : decode cX9_tryFlood 27 = .ok (.iload 4, 2) := by decide +kernel
theorem dX9_tryFlood_29 : decode cX9_tryFlood 29 = .ok (.invokevirtual 109, 3) := by decide +kernel
theorem dX9_tryFlood_32 : decode cX9_tryFlood 32 = .ok (.aload_n 0, 1) := by decide +kernel
theorem dX9_tryFlood_33 : decode cX9_tryFlood 33 = .ok (.invokevirtual 144, 3) := by decide +kernel
theorem dX9_tryFlood_36 : decode cX9_tryFlood 36 = .ok (.iconst 0, 1) := by decide +kernel
theorem dX9_tryFlood_37 : decode cX9_tryFlood 37 = .ok (.istore 5, 2) := by decide +kernel
theorem dX9_tryFlood_39 : decode cX9_tryFlood 39 = .ok (.iload 5, 2) := by decide +kernel
theorem dX9_tryFlood_41 : decode cX9_tryFlood 41 = .ok (.sipush 900, 3) := by decide +kernel
theorem dX9_tryFlood_44 : decode cX9_tryFlood 44 = .ok (.if_icmp .ge 33, 3) := by decide +kernel
theorem dX9_tryFlood_47 : decode cX9_tryFlood 47 = .ok (.aload_n 0, 1) := by decide +kernel
theorem dX9_tryFlood_48 : decode cX9_tryFlood 48 = .ok (.getfield 7, 3) := by decide +kernel
theorem dX9_tryFlood_51 : decode cX9_tryFlood 51 = .ok (.sipush 1225, 3) := by decide +kernel
theorem dX9_tryFlood_54 : decode cX9_tryFlood 54 = .ok (.sipush 900, 3) := by decide +kernel
theorem dX9_tryFlood_57 : decode cX9_tryFlood 57 = .ok (.aload_n 0, 1) := by decide +kernel
theorem dX9_tryFlood_58 : decode cX9_tryFlood 58 = .ok (.getfield 7, 3) := by decide +kernel
theorem dX9_tryFlood_61 : decode cX9_tryFlood 61 = .ok (.bipush 7, 2) := by decide +kernel
theorem dX9_tryFlood_63 : decode cX9_tryFlood 63 = .ok (.iaload, 1) := by decide +kernel
theorem dX9_tryFlood_64 : decode cX9_tryFlood 64 = .ok (.imul, 1) := by decide +kernel
theorem dX9_tryFlood_65 : decode cX9_tryFlood 65 = .ok (.iadd, 1) := by decide +kernel
theorem dX9_tryFlood_66 : decode cX9_tryFlood 66 = .ok (.iload 5, 2) := by decide +kernel
theorem dX9_tryFlood_68 : decode cX9_tryFlood 68 = .ok (.iadd, 1) := by decide +kernel
theorem dX9_tryFlood_69 : decode cX9_tryFlood 69 = .ok (.iconst 0, 1) := by decide +kernel
theorem dX9_tryFlood_70 : decode cX9_tryFlood 70 = .ok (.iastore, 1) := by decide +kernel
theorem dX9_tryFlood_71 : decode cX9_tryFlood 71 = .ok (.iinc 5 1, 3) := by decide +kernel
theorem dX9_tryFlood_74 : decode cX9_tryFlood 74 = .ok (.goto (-35), 3) := by decide +kernel
theorem dX9_tryFlood_77 : decode cX9_tryFlood 77 = .ok (.iconst 0, 1) := by decide +kernel
theorem dX9_tryFlood_78 : decode cX9_tryFlood 78 = .ok (.istore 5, 2) := by decide +kernel
theorem dX9_tryFlood_80 : decode cX9_tryFlood 80 = .ok (.iconst 0, 1) := by decide +kernel
theorem dX9_tryFlood_81 : decode cX9_tryFlood 81 = .ok (.istore 6, 2) := by decide +kernel
theorem dX9_tryFlood_83 : decode cX9_tryFlood 83 = .ok (.iload 6, 2) := by decide +kernel
theorem dX9_tryFlood_85 : decode cX9_tryFlood 85 = .ok (.iconst 3, 1) := by decide +kernel
theorem dX9_tryFlood_86 : decode cX9_tryFlood 86 = .ok (.if_icmp .ge 38, 3) := by decide +kernel
theorem dX9_tryFlood_89 : decode cX9_tryFlood 89 = .ok (.iload 5, 2) := by decide +kernel
theorem dX9_tryFlood_91 : decode cX9_tryFlood 91 = .ok (.iload_n 1, 1) := by decide +kernel
theorem dX9_tryFlood_92 : decode cX9_tryFlood 92 = .ok (.bipush (-6), 2) := by decide +kernel
theorem dX9_tryFlood_94 : decode cX9_tryFlood 94 = .ok (.if_icmp .eq 9, 3) := by decide +kernel
theorem dX9_tryFlood_97 : decode cX9_tryFlood 97 = .ok (.iload_n 1, 1) := by decide +kernel
theorem dX9_tryFlood_98 : decode cX9_tryFlood 98 = .ok (.iload 6, 2) := by decide +kernel
theorem dX9_tryFlood_100 : decode cX9_tryFlood 100 = .ok (.if_icmp .ne 14, 3) := by decide +kernel
theorem dX9_tryFlood_103 : decode cX9_tryFlood 103 = .ok (.aload_n 0, 1) := by decide +kernel
theorem dX9_tryFlood_104 : decode cX9_tryFlood 104 = .ok (.iload 6, 2) := by decide +kernel
theorem dX9_tryFlood_106 : decode cX9_tryFlood 106 = .ok (.iload_n 2, 1) := by decide +kernel
theorem dX9_tryFlood_107 : decode cX9_tryFlood 107 = .ok (.iload_n 3, 1) := by decide +kernel
theorem dX9_tryFlood_108 : decode cX9_tryFlood 108 = .ok (.invokevirtual 147, 3) := by decide +kernel
theorem dX9_tryFlood_111 : decode cX9_tryFlood 111 = .ok (.goto 4, 3) := by decide +kernel
theorem dX9_tryFlood_114 : decode cX9_tryFlood 114 = .ok (.iconst 0, 1) := by decide +kernel
theorem dX9_tryFlood_115 : decode cX9_tryFlood 115 = .ok (.iadd, 1) := by decide +kernel
theorem dX9_tryFlood_116 : decode cX9_tryFlood 116 = .ok (.istore 5, 2) := by decide +kernel
theorem dX9_tryFlood_118 : decode cX9_tryFlood 118 = .ok (.iinc 6 1, 3) := by decide +kernel
theorem dX9_tryFlood_121 : decode cX9_tryFlood 121 = .ok (.goto (-38), 3) := by decide +kernel
theorem dX9_tryFlood_124 : decode cX9_tryFlood 124 = .ok (.aload_n 0, 1) := by decide +kernel
theorem dX9_tryFlood_125 : decode cX9_tryFlood 125 = .ok (.getfield 7, 3) := by decide +kernel
theorem dX9_tryFlood_128 : decode cX9_tryFlood 128 = .ok (.bipush 7, 2) := by decide +kernel
theorem dX9_tryFlood_130 : decode cX9_tryFlood 130 = .ok (.dup2, 1) := by decide +kernel
theorem dX9_tryFlood_131 : decode cX9_tryFlood 131 = .ok (.iaload, 1) := by decide +kernel
theorem dX9_tryFlood_132 : decode cX9_tryFlood 132 = .ok (.iconst 1, 1) := by decide +kernel
theorem dX9_tryFlood_133 : decode cX9_tryFlood 133 = .ok (.iadd, 1) := by decide +kernel
theorem dX9_tryFlood_134 : decode cX9_tryFlood 134 = .ok (.iastore, 1) := by decide +kernel
theorem dX9_tryFlood_135 : decode cX9_tryFlood 135 = .ok (.iconst 0, 1) := by decide +kernel
theorem dX9_tryFlood_136 : decode cX9_tryFlood 136 = .ok (.istore 6, 2) := by decide +kernel
theorem dX9_tryFlood_138 : decode cX9_tryFlood 138 = .ok (.iload 6, 2) := by decide +kernel
theorem dX9_tryFlood_140 : decode cX9_tryFlood 140 = .ok (.iconst 3, 1) := by decide +kernel
theorem dX9_tryFlood_141 : decode cX9_tryFlood 141 = .ok (.if_icmp .ge 15, 3) := by decide +kernel
theorem dX9_tryFlood_144 : decode cX9_tryFlood 144 = .ok (.aload_n 0, 1) := by decide +kernel
theorem dX9_tryFlood_145 : decode cX9_tryFlood 145 = .ok (.iload 6, 2) := by decide +kernel
theorem dX9_tryFlood_147 : decode cX9_tryFlood 147 = .ok (.invokevirtual 150, 3) := by decide +kernel
theorem dX9_tryFlood_150 : decode cX9_tryFlood 150 = .ok (.iinc 6 1, 3) := by decide +kernel
theorem dX9_tryFlood_153 : decode cX9_tryFlood 153 = .ok (.goto (-15), 3) := by decide +kernel
theorem dX9_tryFlood_156 : decode cX9_tryFlood 156 = .ok (.aload_n 0, 1) := by decide +kernel
theorem dX9_tryFlood_157 : decode cX9_tryFlood 157 = .ok (.invokevirtual 73, 3) := by decide +kernel
theorem dX9_tryFlood_160 : decode cX9_tryFlood 160 = .ok (.iload 5, 2) := by decide +kernel
theorem dX9_tryFlood_162 : decode cX9_tryFlood 162 = .ok (.ireturn, 1) := by decide +kernel
theorem eX9_tryFlood_0 {a : Int} {l0 l2 l3 l4 l5 l6 : Option VV} {S : MM} : rn xX9_tryFlood (0, [l0, some (vI a), l2, l3, l4, l5, l6], [], S) = rn xX9_tryFlood (1, [l0, some (vI a), l2, l3, l4, l5, l6], [vI a], S) := rn_step dX9_tryFlood_0 rfl rfl
theorem eX9_tryFlood_1 {l0 l1 l2 l3 l4 l5 l6 : Option VV} {v0 : VV} {S : MM} : rn xX9_tryFlood (1, [l0, l1, l2, l3, l4, l5, l6], [v0], S) = rn xX9_tryFlood (3, [l0, l1, l2, l3, l4, l5, l6], [vI (-6), v0], S) := rn_step dX9_tryFlood_1 rfl rfl
theorem eX9_tryFlood_3 {a b : Int} {l0 l1 l2 l3 l4 l5 l6 : Option VV} (h : -2147483648 ≤ a ∧ a ≤ 2147483647) (h1 : -2147483648 ≤ b ∧ b ≤ 2147483647) {S : MM} : rn xX9_tryFlood (3, [l0, l1, l2, l3, l4, l5, l6], [vI b, vI a], S) = if a = b then rn xX9_tryFlood (15, [l0, l1, l2, l3, l4, l5, l6], [], S) else rn xX9_tryFlood (6, [l0, l1, l2, l3, l4, l5, l6], [], S) := q_icmp_eq dX9_tryFlood_3 (by decide) rfl h h1
theorem eX9_tryFlood_6 {a : Int} {l0 l2 l3 l4 l5 l6 : Option VV} {S : MM} : rn xX9_tryFlood (6, [l0, some (vI a), l2, l3, l4, l5, l6], [], S) = rn xX9_tryFlood (7, [l0, some (vI a), l2, l3, l4, l5, l6], [vI a], S) := rn_step dX9_tryFlood_6 rfl rfl
theorem eX9_tryFlood_7 {a0 : Int} {l0 l1 l2 l3 l4 l5 l6 : Option VV} {S : MM} : rn xX9_tryFlood (7, [l0, l1, l2, l3, l4, l5, l6], [vI a0], S) = (fX9_isWalker [vI a0] S).bind (fun q => rn xX9_tryFlood (10, [l0, l1, l2, l3, l4, l5, l6], q.1.toList ++ [], q.2)) := q_callS (n := 1) (as := [vI a0]) (rest := []) dX9_tryFlood_7 rfl rfl rfl rfl
theorem eX9_tryFlood_10 {a : Int} {l0 l1 l2 l3 l4 l5 l6 : Option VV} (h : -2147483648 ≤ a ∧ a ≤ 2147483647) {S : MM} : rn xX9_tryFlood (10, [l0, l1, l2, l3, l4, l5, l6], [vI a], S) = if a = 0 then rn xX9_tryFlood (13, [l0, l1, l2, l3, l4, l5, l6], [], S) else rn xX9_tryFlood (15, [l0, l1, l2, l3, l4, l5, l6], [], S) := q_if_ne dX9_tryFlood_10 (by decide) rfl h
theorem eX9_tryFlood_13 {l0 l1 l2 l3 l4 l5 l6 : Option VV} {S : MM} : rn xX9_tryFlood (13, [l0, l1, l2, l3, l4, l5, l6], [], S) = rn xX9_tryFlood (14, [l0, l1, l2, l3, l4, l5, l6], [vI (-1)], S) := rn_step dX9_tryFlood_13 rfl rfl
theorem eX9_tryFlood_14 {z : Int} {l0 l1 l2 l3 l4 l5 l6 : Option VV} {S : MM} : rn xX9_tryFlood (14, [l0, l1, l2, l3, l4, l5, l6], [vI z], S) = some (some (vI z), S) := q_retI dX9_tryFlood_14 rfl
theorem eX9_tryFlood_15 {a : Int} {l0 l1 l3 l4 l5 l6 : Option VV} {S : MM} : rn xX9_tryFlood (15, [l0, l1, some (vI a), l3, l4, l5, l6], [], S) = rn xX9_tryFlood (16, [l0, l1, some (vI a), l3, l4, l5, l6], [vI a], S) := rn_step dX9_tryFlood_15 rfl rfl
theorem eX9_tryFlood_16 {a : Int} {l0 l1 l2 l4 l5 l6 : Option VV} {v0 : VV} {S : MM} : rn xX9_tryFlood (16, [l0, l1, l2, some (vI a), l4, l5, l6], [v0], S) = rn xX9_tryFlood (17, [l0, l1, l2, some (vI a), l4, l5, l6], [vI a, v0], S) := rn_step dX9_tryFlood_16 rfl rfl
theorem eX9_tryFlood_17 {a0 : Int} {a1 : Int} {l0 l1 l2 l3 l4 l5 l6 : Option VV} {S : MM} : rn xX9_tryFlood (17, [l0, l1, l2, l3, l4, l5, l6], [vI a1, vI a0], S) = (fX9_isRange [vI a0, vI a1] S).bind (fun q => rn xX9_tryFlood (20, [l0, l1, l2, l3, l4, l5, l6], q.1.toList ++ [], q.2)) := q_callS (n := 2) (as := [vI a0, vI a1]) (rest := []) dX9_tryFlood_17 rfl rfl rfl rfl
theorem eX9_tryFlood_20 {a : Int} {l0 l1 l2 l3 l4 l5 l6 : Option VV} (h : -2147483648 ≤ a ∧ a ≤ 2147483647) {S : MM} : rn xX9_tryFlood (20, [l0, l1, l2, l3, l4, l5, l6], [vI a], S) = if a = 0 then rn xX9_tryFlood (23, [l0, l1, l2, l3, l4, l5, l6], [], S) else rn xX9_tryFlood (26, [l0, l1, l2, l3, l4, l5, l6], [], S) := q_if_ne dX9_tryFlood_20 (by decide) rfl h
theorem eX9_tryFlood_23 {l0 l1 l2 l3 l4 l5 l6 : Option VV} {S : MM} : rn xX9_tryFlood (23, [l0, l1, l2, l3, l4, l5, l6], [], S) = rn xX9_tryFlood (25, [l0, l1, l2, l3, l4, l5, l6], [vI (-2)], S) := rn_step dX9_tryFlood_23 rfl rfl
theorem eX9_tryFlood_25 {z : Int} {l0 l1 l2 l3 l4 l5 l6 : Option VV} {S : MM} : rn xX9_tryFlood (25, [l0, l1, l2, l3, l4, l5, l6], [vI z], S) = some (some (vI z), S) := q_retI dX9_tryFlood_25 rfl
theorem eX9_tryFlood_26 {a : Option Nat} {l1 l2 l3 l4 l5 l6 : Option VV} {S : MM} : rn xX9_tryFlood (26, [some (.inr (.inl a)), l1, l2, l3, l4, l5, l6], [], S) = rn xX9_tryFlood (27, [some (.inr (.inl a)), l1, l2, l3, l4, l5, l6], [.inr (.inl a)], S) := rn_step dX9_tryFlood_26 rfl rfl
theorem eX9_tryFlood_27 {a : Int} {l0 l1 l2 l3 l5 l6 : Option VV} {v0 : VV} {S : MM} : rn xX9_tryFlood (27, [l0, l1, l2, l3, some (vI a), l5, l6], [v0], S) = rn xX9_tryFlood (29, [l0, l1, l2, l3, some (vI a), l5, l6], [vI a, v0], S) := rn_step dX9_tryFlood_27 rfl rfl
theorem eX9_tryFlood_29 {a0 : Int} {l0 l1 l2 l3 l4 l5 l6 : Option VV} {S : MM} : rn xX9_tryFlood (29, [l0, l1, l2, l3, l4, l5, l6], [vI a0, vR 593], S) = (fX9_keepIf [vR 593, vI a0] S).bind (fun q => rn xX9_tryFlood (32, [l0, l1, l2, l3, l4, l5, l6], q.1.toList ++ [], q.2)) := q_callV (n := 1) (as := [vI a0]) (rest := []) dX9_tryFlood_29 rfl rfl rfl rfl kd593
theorem eX9_tryFlood_32 {a : Option Nat} {l1 l2 l3 l4 l5 l6 : Option VV} {S : MM} : rn xX9_tryFlood (32, [some (.inr (.inl a)), l1, l2, l3, l4, l5, l6], [], S) = rn xX9_tryFlood (33, [some (.inr (.inl a)), l1, l2, l3, l4, l5, l6], [.inr (.inl a)], S) := rn_step dX9_tryFlood_32 rfl rfl
theorem eX9_tryFlood_33 {l0 l1 l2 l3 l4 l5 l6 : Option VV} {S : MM} : rn xX9_tryFlood (33, [l0, l1, l2, l3, l4, l5, l6], [vR 593], S) = (fX9_dropOldest [vR 593] S).bind (fun q => rn xX9_tryFlood (36, [l0, l1, l2, l3, l4, l5, l6], q.1.toList ++ [], q.2)) := q_callV (n := 0) (as := []) (rest := []) dX9_tryFlood_33 rfl rfl rfl rfl kd593
theorem eX9_tryFlood_36 {l0 l1 l2 l3 l4 l5 l6 : Option VV} {S : MM} : rn xX9_tryFlood (36, [l0, l1, l2, l3, l4, l5, l6], [], S) = rn xX9_tryFlood (37, [l0, l1, l2, l3, l4, l5, l6], [vI 0], S) := rn_step dX9_tryFlood_36 rfl rfl
theorem eX9_tryFlood_37 {a : Int} {w : Int} {l0 l1 l2 l3 l5 l6 : Option VV} {S : MM} : rn xX9_tryFlood (37, [l0, l1, l2, l3, some (vI w), l5, l6], [vI a], S) = rn xX9_tryFlood (39, [l0, l1, l2, l3, some (vI w), some (vI a), l6], [], S) := rn_step dX9_tryFlood_37 rfl rfl
theorem eX9_tryFlood_39 {a : Int} {l0 l1 l2 l3 l4 l6 : Option VV} {S : MM} : rn xX9_tryFlood (39, [l0, l1, l2, l3, l4, some (vI a), l6], [], S) = rn xX9_tryFlood (41, [l0, l1, l2, l3, l4, some (vI a), l6], [vI a], S) := rn_step dX9_tryFlood_39 rfl rfl
theorem eX9_tryFlood_41 {l0 l1 l2 l3 l4 l5 l6 : Option VV} {v0 : VV} {S : MM} : rn xX9_tryFlood (41, [l0, l1, l2, l3, l4, l5, l6], [v0], S) = rn xX9_tryFlood (44, [l0, l1, l2, l3, l4, l5, l6], [vI 900, v0], S) := rn_step dX9_tryFlood_41 rfl rfl
theorem eX9_tryFlood_44 {a b : Int} {l0 l1 l2 l3 l4 l5 l6 : Option VV} (h : -2147483648 ≤ a ∧ a ≤ 2147483647) (h1 : -2147483648 ≤ b ∧ b ≤ 2147483647) {S : MM} : rn xX9_tryFlood (44, [l0, l1, l2, l3, l4, l5, l6], [vI b, vI a], S) = if a < b then rn xX9_tryFlood (47, [l0, l1, l2, l3, l4, l5, l6], [], S) else rn xX9_tryFlood (77, [l0, l1, l2, l3, l4, l5, l6], [], S) := q_icmp_ge dX9_tryFlood_44 (by decide) rfl h h1
theorem eX9_tryFlood_47 {a : Option Nat} {l1 l2 l3 l4 l5 l6 : Option VV} {S : MM} : rn xX9_tryFlood (47, [some (.inr (.inl a)), l1, l2, l3, l4, l5, l6], [], S) = rn xX9_tryFlood (48, [some (.inr (.inl a)), l1, l2, l3, l4, l5, l6], [.inr (.inl a)], S) := rn_step dX9_tryFlood_47 rfl rfl
theorem eX9_tryFlood_48 {l0 l1 l2 l3 l4 l5 l6 : Option VV} {S : MM} : rn xX9_tryFlood (48, [l0, l1, l2, l3, l4, l5, l6], [vR 593], S) = rn xX9_tryFlood (51, [l0, l1, l2, l3, l4, l5, l6], [vR 594], S) := q_getR dX9_tryFlood_48 rfl ⟨⟨by decide, by decide⟩, by decide⟩ (fun _ => by decide +kernel) kd593
theorem eX9_tryFlood_51 {l0 l1 l2 l3 l4 l5 l6 : Option VV} {v0 : VV} {S : MM} : rn xX9_tryFlood (51, [l0, l1, l2, l3, l4, l5, l6], [v0], S) = rn xX9_tryFlood (54, [l0, l1, l2, l3, l4, l5, l6], [vI 1225, v0], S) := rn_step dX9_tryFlood_51 rfl rfl
theorem eX9_tryFlood_54 {l0 l1 l2 l3 l4 l5 l6 : Option VV} {v0 v1 : VV} {S : MM} : rn xX9_tryFlood (54, [l0, l1, l2, l3, l4, l5, l6], [v0, v1], S) = rn xX9_tryFlood (57, [l0, l1, l2, l3, l4, l5, l6], [vI 900, v0, v1], S) := rn_step dX9_tryFlood_54 rfl rfl
theorem eX9_tryFlood_57 {a : Option Nat} {l1 l2 l3 l4 l5 l6 : Option VV} {v0 v1 v2 : VV} {S : MM} : rn xX9_tryFlood (57, [some (.inr (.inl a)), l1, l2, l3, l4, l5, l6], [v0, v1, v2], S) = rn xX9_tryFlood (58, [some (.inr (.inl a)), l1, l2, l3, l4, l5, l6], [.inr (.inl a), v0, v1, v2], S) := rn_step dX9_tryFlood_57 rfl rfl
theorem eX9_tryFlood_58 {l0 l1 l2 l3 l4 l5 l6 : Option VV} {v1 v2 v3 : VV} {S : MM} : rn xX9_tryFlood (58, [l0, l1, l2, l3, l4, l5, l6], [vR 593, v1, v2, v3], S) = rn xX9_tryFlood (61, [l0, l1, l2, l3, l4, l5, l6], [vR 594, v1, v2, v3], S) := q_getR dX9_tryFlood_58 rfl ⟨⟨by decide, by decide⟩, by decide⟩ (fun _ => by decide +kernel) kd593
theorem eX9_tryFlood_61 {l0 l1 l2 l3 l4 l5 l6 : Option VV} {v0 v1 v2 v3 : VV} {S : MM} : rn xX9_tryFlood (61, [l0, l1, l2, l3, l4, l5, l6], [v0, v1, v2, v3], S) = rn xX9_tryFlood (63, [l0, l1, l2, l3, l4, l5, l6], [vI 7, v0, v1, v2, v3], S) := rn_step dX9_tryFlood_61 rfl rfl
theorem eX9_tryFlood_63 {i : Nat} {j : Int} {l0 l1 l2 l3 l4 l5 l6 : Option VV} {v2 v3 v4 : VV} (h : kd i = 10) (h0 : 0 ≤ j) (h1 : j < alen i) {S : MM} : rn xX9_tryFlood (63, [l0, l1, l2, l3, l4, l5, l6], [vI j, vR i, v2, v3, v4], S) = rn xX9_tryFlood (64, [l0, l1, l2, l3, l4, l5, l6], [vI (S i j.toNat), v2, v3, v4], S) := q_iald dX9_tryFlood_63 h h0 h1
theorem eX9_tryFlood_63x {j : Int} {l0 l1 l2 l3 l4 l5 l6 : Option VV} {v2 v3 v4 : VV} {S : MM} (h0 : 0 ≤ j) (h1 : j < S 604 0) : rn xX9_tryFlood (63, [l0, l1, l2, l3, l4, l5, l6], [vI j, vR 602, v2, v3, v4], S) = rn xX9_tryFlood (64, [l0, l1, l2, l3, l4, l5, l6], [vI (S 602 j.toNat), v2, v3, v4], S) := q_ialdX dX9_tryFlood_63 h0 h1
theorem eX9_tryFlood_63y {j : Int} {l0 l1 l2 l3 l4 l5 l6 : Option VV} {v2 v3 v4 : VV} {S : MM} (h0 : 0 ≤ j) (h1 : j < S 604 1) : rn xX9_tryFlood (63, [l0, l1, l2, l3, l4, l5, l6], [vI j, vR 603, v2, v3, v4], S) = rn xX9_tryFlood (64, [l0, l1, l2, l3, l4, l5, l6], [vI (S 603 j.toNat), v2, v3, v4], S) := q_ialdY dX9_tryFlood_63 h0 h1
theorem eX9_tryFlood_64 {a b : Int} {l0 l1 l2 l3 l4 l5 l6 : Option VV} {v2 v3 : VV} {S : MM} : rn xX9_tryFlood (64, [l0, l1, l2, l3, l4, l5, l6], [vI b, vI a, v2, v3], S) = rn xX9_tryFlood (65, [l0, l1, l2, l3, l4, l5, l6], [vI (a * b), v2, v3], S) := rn_step dX9_tryFlood_64 rfl rfl
theorem eX9_tryFlood_65 {a b : Int} {l0 l1 l2 l3 l4 l5 l6 : Option VV} {v2 : VV} {S : MM} : rn xX9_tryFlood (65, [l0, l1, l2, l3, l4, l5, l6], [vI b, vI a, v2], S) = rn xX9_tryFlood (66, [l0, l1, l2, l3, l4, l5, l6], [vI (a + b), v2], S) := rn_step dX9_tryFlood_65 rfl rfl
theorem eX9_tryFlood_66 {a : Int} {l0 l1 l2 l3 l4 l6 : Option VV} {v0 v1 : VV} {S : MM} : rn xX9_tryFlood (66, [l0, l1, l2, l3, l4, some (vI a), l6], [v0, v1], S) = rn xX9_tryFlood (68, [l0, l1, l2, l3, l4, some (vI a), l6], [vI a, v0, v1], S) := rn_step dX9_tryFlood_66 rfl rfl
theorem eX9_tryFlood_68 {a b : Int} {l0 l1 l2 l3 l4 l5 l6 : Option VV} {v2 : VV} {S : MM} : rn xX9_tryFlood (68, [l0, l1, l2, l3, l4, l5, l6], [vI b, vI a, v2], S) = rn xX9_tryFlood (69, [l0, l1, l2, l3, l4, l5, l6], [vI (a + b), v2], S) := rn_step dX9_tryFlood_68 rfl rfl
theorem eX9_tryFlood_69 {l0 l1 l2 l3 l4 l5 l6 : Option VV} {v0 v1 : VV} {S : MM} : rn xX9_tryFlood (69, [l0, l1, l2, l3, l4, l5, l6], [v0, v1], S) = rn xX9_tryFlood (70, [l0, l1, l2, l3, l4, l5, l6], [vI 0, v0, v1], S) := rn_step dX9_tryFlood_69 rfl rfl
theorem eX9_tryFlood_70 {i : Nat} {j z : Int} {l0 l1 l2 l3 l4 l5 l6 : Option VV} (h : kd i = 10) (h0 : 0 ≤ j) (h1 : j < alen i) {S : MM} : rn xX9_tryFlood (70, [l0, l1, l2, l3, l4, l5, l6], [vI z, vI j, vR i], S) = rn xX9_tryFlood (71, [l0, l1, l2, l3, l4, l5, l6], [], updM S i j.toNat z) := q_iast dX9_tryFlood_70 h h0 h1
theorem eX9_tryFlood_71 {a : Int} {w : Int} {l0 l1 l2 l3 l6 : Option VV} {S : MM} : rn xX9_tryFlood (71, [l0, l1, l2, l3, some (vI w), some (vI a), l6], [], S) = rn xX9_tryFlood (74, [l0, l1, l2, l3, some (vI w), some (vI (a + 1)), l6], [], S) := rn_step dX9_tryFlood_71 rfl rfl
theorem eX9_tryFlood_74 {l0 l1 l2 l3 l4 l5 l6 : Option VV} {S : MM} : rn xX9_tryFlood (74, [l0, l1, l2, l3, l4, l5, l6], [], S) = rn xX9_tryFlood (39, [l0, l1, l2, l3, l4, l5, l6], [], S) := rn_step dX9_tryFlood_74 rfl rfl
theorem eX9_tryFlood_77 {l0 l1 l2 l3 l4 l5 l6 : Option VV} {S : MM} : rn xX9_tryFlood (77, [l0, l1, l2, l3, l4, l5, l6], [], S) = rn xX9_tryFlood (78, [l0, l1, l2, l3, l4, l5, l6], [vI 0], S) := rn_step dX9_tryFlood_77 rfl rfl
theorem eX9_tryFlood_78 {a : Int} {w : Int} {l0 l1 l2 l3 l5 l6 : Option VV} {S : MM} : rn xX9_tryFlood (78, [l0, l1, l2, l3, some (vI w), l5, l6], [vI a], S) = rn xX9_tryFlood (80, [l0, l1, l2, l3, some (vI w), some (vI a), l6], [], S) := rn_step dX9_tryFlood_78 rfl rfl
theorem eX9_tryFlood_80 {l0 l1 l2 l3 l4 l5 l6 : Option VV} {S : MM} : rn xX9_tryFlood (80, [l0, l1, l2, l3, l4, l5, l6], [], S) = rn xX9_tryFlood (81, [l0, l1, l2, l3, l4, l5, l6], [vI 0], S) := rn_step dX9_tryFlood_80 rfl rfl
theorem eX9_tryFlood_81 {a : Int} {w : Int} {l0 l1 l2 l3 l4 l6 : Option VV} {S : MM} : rn xX9_tryFlood (81, [l0, l1, l2, l3, l4, some (vI w), l6], [vI a], S) = rn xX9_tryFlood (83, [l0, l1, l2, l3, l4, some (vI w), some (vI a)], [], S) := rn_step dX9_tryFlood_81 rfl rfl
theorem eX9_tryFlood_83 {a : Int} {l0 l1 l2 l3 l4 l5 : Option VV} {S : MM} : rn xX9_tryFlood (83, [l0, l1, l2, l3, l4, l5, some (vI a)], [], S) = rn xX9_tryFlood (85, [l0, l1, l2, l3, l4, l5, some (vI a)], [vI a], S) := rn_step dX9_tryFlood_83 rfl rfl
theorem eX9_tryFlood_85 {l0 l1 l2 l3 l4 l5 l6 : Option VV} {v0 : VV} {S : MM} : rn xX9_tryFlood (85, [l0, l1, l2, l3, l4, l5, l6], [v0], S) = rn xX9_tryFlood (86, [l0, l1, l2, l3, l4, l5, l6], [vI 3, v0], S) := rn_step dX9_tryFlood_85 rfl rfl
theorem eX9_tryFlood_86 {a b : Int} {l0 l1 l2 l3 l4 l5 l6 : Option VV} (h : -2147483648 ≤ a ∧ a ≤ 2147483647) (h1 : -2147483648 ≤ b ∧ b ≤ 2147483647) {S : MM} : rn xX9_tryFlood (86, [l0, l1, l2, l3, l4, l5, l6], [vI b, vI a], S) = if a < b then rn xX9_tryFlood (89, [l0, l1, l2, l3, l4, l5, l6], [], S) else rn xX9_tryFlood (124, [l0, l1, l2, l3, l4, l5, l6], [], S) := q_icmp_ge dX9_tryFlood_86 (by decide) rfl h h1
theorem eX9_tryFlood_89 {a : Int} {l0 l1 l2 l3 l4 l6 : Option VV} {S : MM} : rn xX9_tryFlood (89, [l0, l1, l2, l3, l4, some (vI a), l6], [], S) = rn xX9_tryFlood (91, [l0, l1, l2, l3, l4, some (vI a), l6], [vI a], S) := rn_step dX9_tryFlood_89 rfl rfl
theorem eX9_tryFlood_91 {a : Int} {l0 l2 l3 l4 l5 l6 : Option VV} {v0 : VV} {S : MM} : rn xX9_tryFlood (91, [l0, some (vI a), l2, l3, l4, l5, l6], [v0], S) = rn xX9_tryFlood (92, [l0, some (vI a), l2, l3, l4, l5, l6], [vI a, v0], S) := rn_step dX9_tryFlood_91 rfl rfl
theorem eX9_tryFlood_92 {l0 l1 l2 l3 l4 l5 l6 : Option VV} {v0 v1 : VV} {S : MM} : rn xX9_tryFlood (92, [l0, l1, l2, l3, l4, l5, l6], [v0, v1], S) = rn xX9_tryFlood (94, [l0, l1, l2, l3, l4, l5, l6], [vI (-6), v0, v1], S) := rn_step dX9_tryFlood_92 rfl rfl
theorem eX9_tryFlood_94 {a b : Int} {l0 l1 l2 l3 l4 l5 l6 : Option VV} {v2 : VV} (h : -2147483648 ≤ a ∧ a ≤ 2147483647) (h1 : -2147483648 ≤ b ∧ b ≤ 2147483647) {S : MM} : rn xX9_tryFlood (94, [l0, l1, l2, l3, l4, l5, l6], [vI b, vI a, v2], S) = if a = b then rn xX9_tryFlood (103, [l0, l1, l2, l3, l4, l5, l6], [v2], S) else rn xX9_tryFlood (97, [l0, l1, l2, l3, l4, l5, l6], [v2], S) := q_icmp_eq dX9_tryFlood_94 (by decide) rfl h h1
theorem eX9_tryFlood_97 {a : Int} {l0 l2 l3 l4 l5 l6 : Option VV} {v0 : VV} {S : MM} : rn xX9_tryFlood (97, [l0, some (vI a), l2, l3, l4, l5, l6], [v0], S) = rn xX9_tryFlood (98, [l0, some (vI a), l2, l3, l4, l5, l6], [vI a, v0], S) := rn_step dX9_tryFlood_97 rfl rfl
theorem eX9_tryFlood_98 {a : Int} {l0 l1 l2 l3 l4 l5 : Option VV} {v0 v1 : VV} {S : MM} : rn xX9_tryFlood (98, [l0, l1, l2, l3, l4, l5, some (vI a)], [v0, v1], S) = rn xX9_tryFlood (100, [l0, l1, l2, l3, l4, l5, some (vI a)], [vI a, v0, v1], S) := rn_step dX9_tryFlood_98 rfl rfl
theorem eX9_tryFlood_100 {a b : Int} {l0 l1 l2 l3 l4 l5 l6 : Option VV} {v2 : VV} (h : -2147483648 ≤ a ∧ a ≤ 2147483647) (h1 : -2147483648 ≤ b ∧ b ≤ 2147483647) {S : MM} : rn xX9_tryFlood (100, [l0, l1, l2, l3, l4, l5, l6], [vI b, vI a, v2], S) = if a = b then rn xX9_tryFlood (103, [l0, l1, l2, l3, l4, l5, l6], [v2], S) else rn xX9_tryFlood (114, [l0, l1, l2, l3, l4, l5, l6], [v2], S) := q_icmp_ne dX9_tryFlood_100 (by decide) rfl h h1
theorem eX9_tryFlood_103 {a : Option Nat} {l1 l2 l3 l4 l5 l6 : Option VV} {v0 : VV} {S : MM} : rn xX9_tryFlood (103, [some (.inr (.inl a)), l1, l2, l3, l4, l5, l6], [v0], S) = rn xX9_tryFlood (104, [some (.inr (.inl a)), l1, l2, l3, l4, l5, l6], [.inr (.inl a), v0], S) := rn_step dX9_tryFlood_103 rfl rfl
theorem eX9_tryFlood_104 {a : Int} {l0 l1 l2 l3 l4 l5 : Option VV} {v0 v1 : VV} {S : MM} : rn xX9_tryFlood (104, [l0, l1, l2, l3, l4, l5, some (vI a)], [v0, v1], S) = rn xX9_tryFlood (106, [l0, l1, l2, l3, l4, l5, some (vI a)], [vI a, v0, v1], S) := rn_step dX9_tryFlood_104 rfl rfl
theorem eX9_tryFlood_106 {a : Int} {l0 l1 l3 l4 l5 l6 : Option VV} {v0 v1 v2 : VV} {S : MM} : rn xX9_tryFlood (106, [l0, l1, some (vI a), l3, l4, l5, l6], [v0, v1, v2], S) = rn xX9_tryFlood (107, [l0, l1, some (vI a), l3, l4, l5, l6], [vI a, v0, v1, v2], S) := rn_step dX9_tryFlood_106 rfl rfl
theorem eX9_tryFlood_107 {a : Int} {l0 l1 l2 l4 l5 l6 : Option VV} {v0 v1 v2 v3 : VV} {S : MM} : rn xX9_tryFlood (107, [l0, l1, l2, some (vI a), l4, l5, l6], [v0, v1, v2, v3], S) = rn xX9_tryFlood (108, [l0, l1, l2, some (vI a), l4, l5, l6], [vI a, v0, v1, v2, v3], S) := rn_step dX9_tryFlood_107 rfl rfl
theorem eX9_tryFlood_108 {a0 : Int} {a1 : Int} {a2 : Int} {l0 l1 l2 l3 l4 l5 l6 : Option VV} {v4 : VV} {S : MM} : rn xX9_tryFlood (108, [l0, l1, l2, l3, l4, l5, l6], [vI a2, vI a1, vI a0, vR 593, v4], S) = (fX9_take [vR 593, vI a0, vI a1, vI a2] S).bind (fun q => rn xX9_tryFlood (111, [l0, l1, l2, l3, l4, l5, l6], q.1.toList ++ [v4], q.2)) := q_callV (n := 3) (as := [vI a0, vI a1, vI a2]) (rest := [v4]) dX9_tryFlood_108 rfl rfl rfl rfl kd593
theorem eX9_tryFlood_111 {l0 l1 l2 l3 l4 l5 l6 : Option VV} {v0 v1 : VV} {S : MM} : rn xX9_tryFlood (111, [l0, l1, l2, l3, l4, l5, l6], [v0, v1], S) = rn xX9_tryFlood (115, [l0, l1, l2, l3, l4, l5, l6], [v0, v1], S) := rn_step dX9_tryFlood_111 rfl rfl
theorem eX9_tryFlood_114 {l0 l1 l2 l3 l4 l5 l6 : Option VV} {v0 : VV} {S : MM} : rn xX9_tryFlood (114, [l0, l1, l2, l3, l4, l5, l6], [v0], S) = rn xX9_tryFlood (115, [l0, l1, l2, l3, l4, l5, l6], [vI 0, v0], S) := rn_step dX9_tryFlood_114 rfl rfl
theorem eX9_tryFlood_115 {a b : Int} {l0 l1 l2 l3 l4 l5 l6 : Option VV} {S : MM} : rn xX9_tryFlood (115, [l0, l1, l2, l3, l4, l5, l6], [vI b, vI a], S) = rn xX9_tryFlood (116, [l0, l1, l2, l3, l4, l5, l6], [vI (a + b)], S) := rn_step dX9_tryFlood_115 rfl rfl
theorem eX9_tryFlood_116 {a : Int} {w : Int} {l0 l1 l2 l3 l5 l6 : Option VV} {S : MM} : rn xX9_tryFlood (116, [l0, l1, l2, l3, some (vI w), l5, l6], [vI a], S) = rn xX9_tryFlood (118, [l0, l1, l2, l3, some (vI w), some (vI a), l6], [], S) := rn_step dX9_tryFlood_116 rfl rfl
theorem eX9_tryFlood_118 {a : Int} {w : Int} {l0 l1 l2 l3 l4 : Option VV} {S : MM} : rn xX9_tryFlood (118, [l0, l1, l2, l3, l4, some (vI w), some (vI a)], [], S) = rn xX9_tryFlood (121, [l0, l1, l2, l3, l4, some (vI w), some (vI (a + 1))], [], S) := rn_step dX9_tryFlood_118 rfl rfl
theorem eX9_tryFlood_121 {l0 l1 l2 l3 l4 l5 l6 : Option VV} {S : MM} : rn xX9_tryFlood (121, [l0, l1, l2, l3, l4, l5, l6], [], S) = rn xX9_tryFlood (83, [l0, l1, l2, l3, l4, l5, l6], [], S) := rn_step dX9_tryFlood_121 rfl rfl
theorem eX9_tryFlood_124 {a : Option Nat} {l1 l2 l3 l4 l5 l6 : Option VV} {S : MM} : rn xX9_tryFlood (124, [some (.inr (.inl a)), l1, l2, l3, l4, l5, l6], [], S) = rn xX9_tryFlood (125, [some (.inr (.inl a)), l1, l2, l3, l4, l5, l6], [.inr (.inl a)], S) := rn_step dX9_tryFlood_124 rfl rfl
theorem eX9_tryFlood_125 {l0 l1 l2 l3 l4 l5 l6 : Option VV} {S : MM} : rn xX9_tryFlood (125, [l0, l1, l2, l3, l4, l5, l6], [vR 593], S) = rn xX9_tryFlood (128, [l0, l1, l2, l3, l4, l5, l6], [vR 594], S) := q_getR dX9_tryFlood_125 rfl ⟨⟨by decide, by decide⟩, by decide⟩ (fun _ => by decide +kernel) kd593
theorem eX9_tryFlood_128 {l0 l1 l2 l3 l4 l5 l6 : Option VV} {v0 : VV} {S : MM} : rn xX9_tryFlood (128, [l0, l1, l2, l3, l4, l5, l6], [v0], S) = rn xX9_tryFlood (130, [l0, l1, l2, l3, l4, l5, l6], [vI 7, v0], S) := rn_step dX9_tryFlood_128 rfl rfl
theorem eX9_tryFlood_130 {a : Int} {b : Option Nat} {l0 l1 l2 l3 l4 l5 l6 : Option VV} {S : MM} : rn xX9_tryFlood (130, [l0, l1, l2, l3, l4, l5, l6], [vI a, .inr (.inl b)], S) = rn xX9_tryFlood (131, [l0, l1, l2, l3, l4, l5, l6], [vI a, .inr (.inl b), vI a, .inr (.inl b)], S) := rn_step dX9_tryFlood_130 rfl rfl
theorem eX9_tryFlood_131 {i : Nat} {j : Int} {l0 l1 l2 l3 l4 l5 l6 : Option VV} {v2 v3 : VV} (h : kd i = 10) (h0 : 0 ≤ j) (h1 : j < alen i) {S : MM} : rn xX9_tryFlood (131, [l0, l1, l2, l3, l4, l5, l6], [vI j, vR i, v2, v3], S) = rn xX9_tryFlood (132, [l0, l1, l2, l3, l4, l5, l6], [vI (S i j.toNat), v2, v3], S) := q_iald dX9_tryFlood_131 h h0 h1
theorem eX9_tryFlood_131x {j : Int} {l0 l1 l2 l3 l4 l5 l6 : Option VV} {v2 v3 : VV} {S : MM} (h0 : 0 ≤ j) (h1 : j < S 604 0) : rn xX9_tryFlood (131, [l0, l1, l2, l3, l4, l5, l6], [vI j, vR 602, v2, v3], S) = rn xX9_tryFlood (132, [l0, l1, l2, l3, l4, l5, l6], [vI (S 602 j.toNat), v2, v3], S) := q_ialdX dX9_tryFlood_131 h0 h1
theorem eX9_tryFlood_131y {j : Int} {l0 l1 l2 l3 l4 l5 l6 : Option VV} {v2 v3 : VV} {S : MM} (h0 : 0 ≤ j) (h1 : j < S 604 1) : rn xX9_tryFlood (131, [l0, l1, l2, l3, l4, l5, l6], [vI j, vR 603, v2, v3], S) = rn xX9_tryFlood (132, [l0, l1, l2, l3, l4, l5, l6], [vI (S 603 j.toNat), v2, v3], S) := q_ialdY dX9_tryFlood_131 h0 h1
theorem eX9_tryFlood_132 {l0 l1 l2 l3 l4 l5 l6 : Option VV} {v0 v1 v2 : VV} {S : MM} : rn xX9_tryFlood (132, [l0, l1, l2, l3, l4, l5, l6], [v0, v1, v2], S) = rn xX9_tryFlood (133, [l0, l1, l2, l3, l4, l5, l6], [vI 1, v0, v1, v2], S) := rn_step dX9_tryFlood_132 rfl rfl
theorem eX9_tryFlood_133 {a b : Int} {l0 l1 l2 l3 l4 l5 l6 : Option VV} {v2 v3 : VV} {S : MM} : rn xX9_tryFlood (133, [l0, l1, l2, l3, l4, l5, l6], [vI b, vI a, v2, v3], S) = rn xX9_tryFlood (134, [l0, l1, l2, l3, l4, l5, l6], [vI (a + b), v2, v3], S) := rn_step dX9_tryFlood_133 rfl rfl
theorem eX9_tryFlood_134 {i : Nat} {j z : Int} {l0 l1 l2 l3 l4 l5 l6 : Option VV} (h : kd i = 10) (h0 : 0 ≤ j) (h1 : j < alen i) {S : MM} : rn xX9_tryFlood (134, [l0, l1, l2, l3, l4, l5, l6], [vI z, vI j, vR i], S) = rn xX9_tryFlood (135, [l0, l1, l2, l3, l4, l5, l6], [], updM S i j.toNat z) := q_iast dX9_tryFlood_134 h h0 h1
theorem eX9_tryFlood_135 {l0 l1 l2 l3 l4 l5 l6 : Option VV} {S : MM} : rn xX9_tryFlood (135, [l0, l1, l2, l3, l4, l5, l6], [], S) = rn xX9_tryFlood (136, [l0, l1, l2, l3, l4, l5, l6], [vI 0], S) := rn_step dX9_tryFlood_135 rfl rfl
theorem eX9_tryFlood_136 {a : Int} {w : Int} {l0 l1 l2 l3 l4 l6 : Option VV} {S : MM} : rn xX9_tryFlood (136, [l0, l1, l2, l3, l4, some (vI w), l6], [vI a], S) = rn xX9_tryFlood (138, [l0, l1, l2, l3, l4, some (vI w), some (vI a)], [], S) := rn_step dX9_tryFlood_136 rfl rfl
theorem eX9_tryFlood_138 {a : Int} {l0 l1 l2 l3 l4 l5 : Option VV} {S : MM} : rn xX9_tryFlood (138, [l0, l1, l2, l3, l4, l5, some (vI a)], [], S) = rn xX9_tryFlood (140, [l0, l1, l2, l3, l4, l5, some (vI a)], [vI a], S) := rn_step dX9_tryFlood_138 rfl rfl
theorem eX9_tryFlood_140 {l0 l1 l2 l3 l4 l5 l6 : Option VV} {v0 : VV} {S : MM} : rn xX9_tryFlood (140, [l0, l1, l2, l3, l4, l5, l6], [v0], S) = rn xX9_tryFlood (141, [l0, l1, l2, l3, l4, l5, l6], [vI 3, v0], S) := rn_step dX9_tryFlood_140 rfl rfl
theorem eX9_tryFlood_141 {a b : Int} {l0 l1 l2 l3 l4 l5 l6 : Option VV} (h : -2147483648 ≤ a ∧ a ≤ 2147483647) (h1 : -2147483648 ≤ b ∧ b ≤ 2147483647) {S : MM} : rn xX9_tryFlood (141, [l0, l1, l2, l3, l4, l5, l6], [vI b, vI a], S) = if a < b then rn xX9_tryFlood (144, [l0, l1, l2, l3, l4, l5, l6], [], S) else rn xX9_tryFlood (156, [l0, l1, l2, l3, l4, l5, l6], [], S) := q_icmp_ge dX9_tryFlood_141 (by decide) rfl h h1
theorem eX9_tryFlood_144 {a : Option Nat} {l1 l2 l3 l4 l5 l6 : Option VV} {S : MM} : rn xX9_tryFlood (144, [some (.inr (.inl a)), l1, l2, l3, l4, l5, l6], [], S) = rn xX9_tryFlood (145, [some (.inr (.inl a)), l1, l2, l3, l4, l5, l6], [.inr (.inl a)], S) := rn_step dX9_tryFlood_144 rfl rfl
theorem eX9_tryFlood_145 {a : Int} {l0 l1 l2 l3 l4 l5 : Option VV} {v0 : VV} {S : MM} : rn xX9_tryFlood (145, [l0, l1, l2, l3, l4, l5, some (vI a)], [v0], S) = rn xX9_tryFlood (147, [l0, l1, l2, l3, l4, l5, some (vI a)], [vI a, v0], S) := rn_step dX9_tryFlood_145 rfl rfl
theorem eX9_tryFlood_147 {a0 : Int} {l0 l1 l2 l3 l4 l5 l6 : Option VV} {S : MM} : rn xX9_tryFlood (147, [l0, l1, l2, l3, l4, l5, l6], [vI a0, vR 593], S) = (fX9_slip [vR 593, vI a0] S).bind (fun q => rn xX9_tryFlood (150, [l0, l1, l2, l3, l4, l5, l6], q.1.toList ++ [], q.2)) := q_callV (n := 1) (as := [vI a0]) (rest := []) dX9_tryFlood_147 rfl rfl rfl rfl kd593
theorem eX9_tryFlood_150 {a : Int} {w : Int} {l0 l1 l2 l3 l4 : Option VV} {S : MM} : rn xX9_tryFlood (150, [l0, l1, l2, l3, l4, some (vI w), some (vI a)], [], S) = rn xX9_tryFlood (153, [l0, l1, l2, l3, l4, some (vI w), some (vI (a + 1))], [], S) := rn_step dX9_tryFlood_150 rfl rfl
theorem eX9_tryFlood_153 {l0 l1 l2 l3 l4 l5 l6 : Option VV} {S : MM} : rn xX9_tryFlood (153, [l0, l1, l2, l3, l4, l5, l6], [], S) = rn xX9_tryFlood (138, [l0, l1, l2, l3, l4, l5, l6], [], S) := rn_step dX9_tryFlood_153 rfl rfl
theorem eX9_tryFlood_156 {a : Option Nat} {l1 l2 l3 l4 l5 l6 : Option VV} {S : MM} : rn xX9_tryFlood (156, [some (.inr (.inl a)), l1, l2, l3, l4, l5, l6], [], S) = rn xX9_tryFlood (157, [some (.inr (.inl a)), l1, l2, l3, l4, l5, l6], [.inr (.inl a)], S) := rn_step dX9_tryFlood_156 rfl rfl
theorem eX9_tryFlood_157 {l0 l1 l2 l3 l4 l5 l6 : Option VV} {S : MM} : rn xX9_tryFlood (157, [l0, l1, l2, l3, l4, l5, l6], [vR 593], S) = (fX9_lookRound [vR 593] S).bind (fun q => rn xX9_tryFlood (160, [l0, l1, l2, l3, l4, l5, l6], q.1.toList ++ [], q.2)) := q_callV (n := 0) (as := []) (rest := []) dX9_tryFlood_157 rfl rfl rfl rfl kd593
theorem eX9_tryFlood_160 {a : Int} {l0 l1 l2 l3 l4 l6 : Option VV} {S : MM} : rn xX9_tryFlood (160, [l0, l1, l2, l3, l4, some (vI a), l6], [], S) = rn xX9_tryFlood (162, [l0, l1, l2, l3, l4, some (vI a), l6], [vI a], S) := rn_step dX9_tryFlood_160 rfl rfl
theorem eX9_tryFlood_162 {z : Int} {l0 l1 l2 l3 l4 l5 l6 : Option VV} {S : MM} : rn xX9_tryFlood (162, [l0, l1, l2, l3, l4, l5, l6], [vI z], S) = some (some (vI z), S) := q_retI dX9_tryFlood_162 rfl
noncomputable def qlX9_flood : List CE := [(0, 153, 9, 5, fX9_tryFlood)]
noncomputable def xX9_flood : XX := (cX9_flood, fcF fcl9, mcF qlX9_flood, 1)
noncomputable def fX9_flood : FN := fnX xX9_flood 4
set_option maxRecDepth 100000 in
theorem cwX9_flood : Cond.code yX9_flood cX9_flood 4 (some .int) ∈ lw_g := lw_gm 1071 (by decide +kernel) (by decide +kernel)
set_option maxRecDepth 100000 in
theorem conX9_flood : Con yX9_flood cX9_flood 4 (some .int) { frames := 4, cells := 0, slots := 0, locals := 93 } fX9_flood := con_of (X := xX9_flood) (own := "LeapStonesModel") (ql := qlX9_flood) (by decide) rfl FOK9 rfl (List.forall_mem_cons.mpr ⟨call_V conX9_tryFlood cwX9_tryFlood (lw_gl _ [1072, 1074, 44, 84] (by decide +kernel) (by decide +kernel)) (by decide) rfl ⟨by decide, by decide, by decide +kernel⟩ ⟨rfl, rfl⟩ ⟨by decide, by decide⟩ ⟨Nat.le_refl _, Nat.le_refl _⟩, fun _ h => absurd h List.not_mem_nil⟩) (Or.inr (Or.inl ⟨rfl, rfl⟩))
theorem uX9_flood {i : Nat} {a0 : Int} {a1 : Int} {a2 : Int} {S : MM} : fX9_flood [vR i, vI a0, vI a1, vI a2] S = rn xX9_flood (0, [some (vR i), some (vI a0), some (vI a1), some (vI a2)], [], S) := rfl
theorem dX9_flood_0 : decode cX9_flood 0 = .ok (.aload_n 0, 1) := by decide +kernel
theorem dX9_flood_1 : decode cX9_flood 1 = .ok (.iload_n 1, 1) := by decide +kernel
theorem dX9_flood_2 : decode cX9_flood 2 = .ok (.iload_n 2, 1) := by decide +kernel
theorem dX9_flood_3 : decode cX9_flood 3 = .ok (.iload_n 3, 1) := by decide +kernel
theorem dX9_flood_4 : decode cX9_flood 4 = .ok (.iconst 1, 1) := by decide +kernel
theorem dX9_flood_5 : decode cX9_flood 5 = .ok (.invokevirtual 153, 3) := by decide +kernel
theorem dX9_flood_8 : decode cX9_flood 8 = .ok (.ireturn, 1) := by decide +kernel
theorem eX9_flood_0 {a : Option Nat} {l1 l2 l3 : Option VV} {S : MM} : rn xX9_flood (0, [some (.inr (.inl a)), l1, l2, l3], [], S) = rn xX9_flood (1, [some (.inr (.inl a)), l1, l2, l3], [.inr (.inl a)], S) := rn_step dX9_flood_0 rfl rfl
theorem eX9_flood_1 {a : Int} {l0 l2 l3 : Option VV} {v0 : VV} {S : MM} : rn xX9_flood (1, [l0, some (vI a), l2, l3], [v0], S) = rn xX9_flood (2, [l0, some (vI a), l2, l3], [vI a, v0], S) := rn_step dX9_flood_1 rfl rfl
theorem eX9_flood_2 {a : Int} {l0 l1 l3 : Option VV} {v0 v1 : VV} {S : MM} : rn xX9_flood (2, [l0, l1, some (vI a), l3], [v0, v1], S) = rn xX9_flood (3, [l0, l1, some (vI a), l3], [vI a, v0, v1], S) := rn_step dX9_flood_2 rfl rfl
theorem eX9_flood_3 {a : Int} {l0 l1 l2 : Option VV} {v0 v1 v2 : VV} {S : MM} : rn xX9_flood (3, [l0, l1, l2, some (vI a)], [v0, v1, v2], S) = rn xX9_flood (4, [l0, l1, l2, some (vI a)], [vI a, v0, v1, v2], S) := rn_step dX9_flood_3 rfl rfl
theorem eX9_flood_4 {l0 l1 l2 l3 : Option VV} {v0 v1 v2 v3 : VV} {S : MM} : rn xX9_flood (4, [l0, l1, l2, l3], [v0, v1, v2, v3], S) = rn xX9_flood (5, [l0, l1, l2, l3], [vI 1, v0, v1, v2, v3], S) := rn_step dX9_flood_4 rfl rfl
theorem eX9_flood_5 {a0 : Int} {a1 : Int} {a2 : Int} {a3 : Int} {l0 l1 l2 l3 : Option VV} {S : MM} : rn xX9_flood (5, [l0, l1, l2, l3], [vI a3, vI a2, vI a1, vI a0, vR 593], S) = (fX9_tryFlood [vR 593, vI a0, vI a1, vI a2, vI a3] S).bind (fun q => rn xX9_flood (8, [l0, l1, l2, l3], q.1.toList ++ [], q.2)) := q_callV (n := 4) (as := [vI a0, vI a1, vI a2, vI a3]) (rest := []) dX9_flood_5 rfl rfl rfl rfl kd593
theorem eX9_flood_8 {z : Int} {l0 l1 l2 l3 : Option VV} {S : MM} : rn xX9_flood (8, [l0, l1, l2, l3], [vI z], S) = some (some (vI z), S) := q_retI dX9_flood_8 rfl
noncomputable def qlX9_taken : List CE := []
noncomputable def xX9_taken : XX := (cX9_taken, fcF fcl9, mcF qlX9_taken, 1)
noncomputable def fX9_taken : FN := fnX xX9_taken 3
set_option maxRecDepth 100000 in
theorem cwX9_taken : Cond.code yX9_taken cX9_taken 3 (some .int) ∈ lw_g := lw_gm 1106 (by decide +kernel) (by decide +kernel)
set_option maxRecDepth 100000 in
theorem conX9_taken : Con yX9_taken cX9_taken 3 (some .int) { frames := 0, cells := 0, slots := 0, locals := 0 } fX9_taken := con_of (X := xX9_taken) (own := "LeapStonesModel") (ql := qlX9_taken) (by decide) rfl FOK9 rfl (fun _ h => absurd h List.not_mem_nil) (Or.inr (Or.inl ⟨rfl, rfl⟩))
theorem uX9_taken {i : Nat} {a0 : Int} {a1 : Int} {S : MM} : fX9_taken [vR i, vI a0, vI a1] S = rn xX9_taken (0, [some (vR i), some (vI a0), some (vI a1)], [], S) := rfl
theorem dX9_taken_0 : decode cX9_taken 0 = .ok (.aload_n 0, 1) := by decide +kernel
theorem dX9_taken_1 : decode cX9_taken 1 = .ok (.getfield 7, 3) := by decide +kernel
theorem dX9_taken_4 : decode cX9_taken 4 = .ok (.sipush 1225, 3) := by decide +kernel
theorem dX9_taken_7 : decode cX9_taken 7 = .ok (.sipush 900, 3) := by decide +kernel
theorem dX9_taken_10 : decode cX9_taken 10 = .ok (.aload_n 0, 1) := by decide +kernel
theorem dX9_taken_11 : decode cX9_taken 11 = .ok (.getfield 7, 3) := by decide +kernel
theorem dX9_taken_14 : decode cX9_taken 14 = .ok (.bipush 7, 2) := by decide +kernel
theorem dX9_taken_16 : decode cX9_taken 16 = .ok (.iaload, 1) := by decide +kernel
theorem dX9_taken_17 : decode cX9_taken 17 = .ok (.iconst 1, 1) := by decide +kernel
theorem dX9_taken_18 : decode cX9_taken 18 = .ok (.isub, 1) := by decide +kernel
theorem dX9_taken_19 : decode cX9_taken 19 = .ok (.imul, 1) := by decide +kernel
theorem dX9_taken_20 : decode cX9_taken 20 = .ok (.iadd, 1) := by decide +kernel
theorem dX9_taken_21 : decode cX9_taken 21 = .ok (.sipush 300, 3) := by decide +kernel
theorem dX9_taken_24 : decode cX9_taken 24 = .ok (.iload_n 1, 1) := by decide +kernel
theorem dX9_taken_25 : decode cX9_taken 25 = .ok (.imul, 1) := by decide +kernel
theorem dX9_taken_26 : decode cX9_taken 26 = .ok (.iadd, 1) := by decide +kernel
theorem dX9_taken_27 : decode cX9_taken 27 = .ok (.iload_n 2, 1) := by decide +kernel
theorem dX9_taken_28 : decode cX9_taken 28 = .ok (.iadd, 1) := by decide +kernel
theorem dX9_taken_29 : decode cX9_taken 29 = .ok (.iaload, 1) := by decide +kernel
theorem dX9_taken_30 : decode cX9_taken 30 = .ok (.ireturn, 1) := by decide +kernel
theorem eX9_taken_0 {a : Option Nat} {l1 l2 : Option VV} {S : MM} : rn xX9_taken (0, [some (.inr (.inl a)), l1, l2], [], S) = rn xX9_taken (1, [some (.inr (.inl a)), l1, l2], [.inr (.inl a)], S) := rn_step dX9_taken_0 rfl rfl
theorem eX9_taken_1 {l0 l1 l2 : Option VV} {S : MM} : rn xX9_taken (1, [l0, l1, l2], [vR 593], S) = rn xX9_taken (4, [l0, l1, l2], [vR 594], S) := q_getR dX9_taken_1 rfl ⟨⟨by decide, by decide⟩, by decide⟩ (fun _ => by decide +kernel) kd593
theorem eX9_taken_4 {l0 l1 l2 : Option VV} {v0 : VV} {S : MM} : rn xX9_taken (4, [l0, l1, l2], [v0], S) = rn xX9_taken (7, [l0, l1, l2], [vI 1225, v0], S) := rn_step dX9_taken_4 rfl rfl
theorem eX9_taken_7 {l0 l1 l2 : Option VV} {v0 v1 : VV} {S : MM} : rn xX9_taken (7, [l0, l1, l2], [v0, v1], S) = rn xX9_taken (10, [l0, l1, l2], [vI 900, v0, v1], S) := rn_step dX9_taken_7 rfl rfl
theorem eX9_taken_10 {a : Option Nat} {l1 l2 : Option VV} {v0 v1 v2 : VV} {S : MM} : rn xX9_taken (10, [some (.inr (.inl a)), l1, l2], [v0, v1, v2], S) = rn xX9_taken (11, [some (.inr (.inl a)), l1, l2], [.inr (.inl a), v0, v1, v2], S) := rn_step dX9_taken_10 rfl rfl
theorem eX9_taken_11 {l0 l1 l2 : Option VV} {v1 v2 v3 : VV} {S : MM} : rn xX9_taken (11, [l0, l1, l2], [vR 593, v1, v2, v3], S) = rn xX9_taken (14, [l0, l1, l2], [vR 594, v1, v2, v3], S) := q_getR dX9_taken_11 rfl ⟨⟨by decide, by decide⟩, by decide⟩ (fun _ => by decide +kernel) kd593
theorem eX9_taken_14 {l0 l1 l2 : Option VV} {v0 v1 v2 v3 : VV} {S : MM} : rn xX9_taken (14, [l0, l1, l2], [v0, v1, v2, v3], S) = rn xX9_taken (16, [l0, l1, l2], [vI 7, v0, v1, v2, v3], S) := rn_step dX9_taken_14 rfl rfl
theorem eX9_taken_16 {i : Nat} {j : Int} {l0 l1 l2 : Option VV} {v2 v3 v4 : VV} (h : kd i = 10) (h0 : 0 ≤ j) (h1 : j < alen i) {S : MM} : rn xX9_taken (16, [l0, l1, l2], [vI j, vR i, v2, v3, v4], S) = rn xX9_taken (17, [l0, l1, l2], [vI (S i j.toNat), v2, v3, v4], S) := q_iald dX9_taken_16 h h0 h1
theorem eX9_taken_16x {j : Int} {l0 l1 l2 : Option VV} {v2 v3 v4 : VV} {S : MM} (h0 : 0 ≤ j) (h1 : j < S 604 0) : rn xX9_taken (16, [l0, l1, l2], [vI j, vR 602, v2, v3, v4], S) = rn xX9_taken (17, [l0, l1, l2], [vI (S 602 j.toNat), v2, v3, v4], S) := q_ialdX dX9_taken_16 h0 h1
theorem eX9_taken_16y {j : Int} {l0 l1 l2 : Option VV} {v2 v3 v4 : VV} {S : MM} (h0 : 0 ≤ j) (h1 : j < S 604 1) : rn xX9_taken (16, [l0, l1, l2], [vI j, vR 603, v2, v3, v4], S) = rn xX9_taken (17, [l0, l1, l2], [vI (S 603 j.toNat), v2, v3, v4], S) := q_ialdY dX9_taken_16 h0 h1
theorem eX9_taken_17 {l0 l1 l2 : Option VV} {v0 v1 v2 v3 : VV} {S : MM} : rn xX9_taken (17, [l0, l1, l2], [v0, v1, v2, v3], S) = rn xX9_taken (18, [l0, l1, l2], [vI 1, v0, v1, v2, v3], S) := rn_step dX9_taken_17 rfl rfl
theorem eX9_taken_18 {a b : Int} {l0 l1 l2 : Option VV} {v2 v3 v4 : VV} {S : MM} : rn xX9_taken (18, [l0, l1, l2], [vI b, vI a, v2, v3, v4], S) = rn xX9_taken (19, [l0, l1, l2], [vI (a - b), v2, v3, v4], S) := rn_step dX9_taken_18 rfl rfl
theorem eX9_taken_19 {a b : Int} {l0 l1 l2 : Option VV} {v2 v3 : VV} {S : MM} : rn xX9_taken (19, [l0, l1, l2], [vI b, vI a, v2, v3], S) = rn xX9_taken (20, [l0, l1, l2], [vI (a * b), v2, v3], S) := rn_step dX9_taken_19 rfl rfl
theorem eX9_taken_20 {a b : Int} {l0 l1 l2 : Option VV} {v2 : VV} {S : MM} : rn xX9_taken (20, [l0, l1, l2], [vI b, vI a, v2], S) = rn xX9_taken (21, [l0, l1, l2], [vI (a + b), v2], S) := rn_step dX9_taken_20 rfl rfl
theorem eX9_taken_21 {l0 l1 l2 : Option VV} {v0 v1 : VV} {S : MM} : rn xX9_taken (21, [l0, l1, l2], [v0, v1], S) = rn xX9_taken (24, [l0, l1, l2], [vI 300, v0, v1], S) := rn_step dX9_taken_21 rfl rfl
theorem eX9_taken_24 {a : Int} {l0 l2 : Option VV} {v0 v1 v2 : VV} {S : MM} : rn xX9_taken (24, [l0, some (vI a), l2], [v0, v1, v2], S) = rn xX9_taken (25, [l0, some (vI a), l2], [vI a, v0, v1, v2], S) := rn_step dX9_taken_24 rfl rfl
theorem eX9_taken_25 {a b : Int} {l0 l1 l2 : Option VV} {v2 v3 : VV} {S : MM} : rn xX9_taken (25, [l0, l1, l2], [vI b, vI a, v2, v3], S) = rn xX9_taken (26, [l0, l1, l2], [vI (a * b), v2, v3], S) := rn_step dX9_taken_25 rfl rfl
theorem eX9_taken_26 {a b : Int} {l0 l1 l2 : Option VV} {v2 : VV} {S : MM} : rn xX9_taken (26, [l0, l1, l2], [vI b, vI a, v2], S) = rn xX9_taken (27, [l0, l1, l2], [vI (a + b), v2], S) := rn_step dX9_taken_26 rfl rfl
theorem eX9_taken_27 {a : Int} {l0 l1 : Option VV} {v0 v1 : VV} {S : MM} : rn xX9_taken (27, [l0, l1, some (vI a)], [v0, v1], S) = rn xX9_taken (28, [l0, l1, some (vI a)], [vI a, v0, v1], S) := rn_step dX9_taken_27 rfl rfl
theorem eX9_taken_28 {a b : Int} {l0 l1 l2 : Option VV} {v2 : VV} {S : MM} : rn xX9_taken (28, [l0, l1, l2], [vI b, vI a, v2], S) = rn xX9_taken (29, [l0, l1, l2], [vI (a + b), v2], S) := rn_step dX9_taken_28 rfl rfl
theorem eX9_taken_29 {i : Nat} {j : Int} {l0 l1 l2 : Option VV} (h : kd i = 10) (h0 : 0 ≤ j) (h1 : j < alen i) {S : MM} : rn xX9_taken (29, [l0, l1, l2], [vI j, vR i], S) = rn xX9_taken (30, [l0, l1, l2], [vI (S i j.toNat)], S) := q_iald dX9_taken_29 h h0 h1
theorem eX9_taken_29x {j : Int} {l0 l1 l2 : Option VV} {S : MM} (h0 : 0 ≤ j) (h1 : j < S 604 0) : rn xX9_taken (29, [l0, l1, l2], [vI j, vR 602], S) = rn xX9_taken (30, [l0, l1, l2], [vI (S 602 j.toNat)], S) := q_ialdX dX9_taken_29 h0 h1
theorem eX9_taken_29y {j : Int} {l0 l1 l2 : Option VV} {S : MM} (h0 : 0 ≤ j) (h1 : j < S 604 1) : rn xX9_taken (29, [l0, l1, l2], [vI j, vR 603], S) = rn xX9_taken (30, [l0, l1, l2], [vI (S 603 j.toNat)], S) := q_ialdY dX9_taken_29 h0 h1
theorem eX9_taken_30 {z : Int} {l0 l1 l2 : Option VV} {S : MM} : rn xX9_taken (30, [l0, l1, l2], [vI z], S) = some (some (vI z), S) := q_retI dX9_taken_30 rfl
noncomputable def qlX9_wouldBeTooMany : List CE := [(0, 129, 9, 2, fX9_stonesOf), (0, 157, 9, 3, fX9_taken), (0, 39, 9, 3, fX9_repeats)]
noncomputable def xX9_wouldBeTooMany : XX := (cX9_wouldBeTooMany, fcF fcl9, mcF qlX9_wouldBeTooMany, 2)
noncomputable def fX9_wouldBeTooMany : FN := fnX xX9_wouldBeTooMany 4
set_option maxRecDepth 100000 in
theorem cwX9_wouldBeTooMany : Cond.code yX9_wouldBeTooMany cX9_wouldBeTooMany 4 (some .boolean) ∈ lw_g := lw_gm 1102 (by decide +kernel) (by decide +kernel)
set_option maxRecDepth 100000 in
theorem conX9_wouldBeTooMany : Con yX9_wouldBeTooMany cX9_wouldBeTooMany 4 (some .boolean) { frames := 2, cells := 0, slots := 0, locals := 45 } fX9_wouldBeTooMany := con_of (X := xX9_wouldBeTooMany) (own := "LeapStonesModel") (ql := qlX9_wouldBeTooMany) (by decide) rfl FOK9 rfl (List.forall_mem_cons.mpr ⟨call_V conX9_stonesOf cwX9_stonesOf (lw_gl _ [1060, 1062, 42, 84] (by decide +kernel) (by decide +kernel)) (by decide) rfl ⟨by decide, by decide, by decide +kernel⟩ ⟨rfl, rfl⟩ ⟨by decide, by decide⟩ ⟨Nat.le_refl _, Nat.le_refl _⟩, List.forall_mem_cons.mpr ⟨call_V conX9_taken cwX9_taken (lw_gl _ [1103, 1105, 50, 84] (by decide +kernel) (by decide +kernel)) (by decide) rfl ⟨by decide, by decide, by decide +kernel⟩ ⟨rfl, rfl⟩ ⟨by decide, by decide⟩ ⟨Nat.le_refl _, Nat.le_refl _⟩, List.forall_mem_cons.mpr ⟨call_V conX9_repeats cwX9_repeats (lw_gl _ [959, 961, 23, 84] (by decide +kernel) (by decide +kernel)) (by decide) rfl ⟨by decide, by decide, by decide +kernel⟩ ⟨rfl, rfl⟩ ⟨by decide, by decide⟩ ⟨Nat.le_refl _, Nat.le_refl _⟩, fun _ h => absurd h List.not_mem_nil⟩⟩⟩) (Or.inr (Or.inr (Or.inl ⟨rfl, rfl⟩)))
theorem uX9_wouldBeTooMany {i : Nat} {a0 : Int} {S : MM} : fX9_wouldBeTooMany [vR i, vI a0] S = rn xX9_wouldBeTooMany (0, [some (vR i), some (vI a0), none, none], [], S) := rfl
theorem dX9_wouldBeTooMany_0 : decode cX9_wouldBeTooMany 0 = .ok (.aload_n 0, 1) := by decide +kernel
theorem dX9_wouldBeTooMany_1 : decode cX9_wouldBeTooMany 1 = .ok (.iload_n 1, 1) := by decide +kernel
theorem dX9_wouldBeTooMany_2 : decode cX9_wouldBeTooMany 2 = .ok (.invokevirtual 129, 3) := by decide +kernel
theorem dX9_wouldBeTooMany_5 : decode cX9_wouldBeTooMany 5 = .ok (.istore_n 2, 1) := by decide +kernel
theorem dX9_wouldBeTooMany_6 : decode cX9_wouldBeTooMany 6 = .ok (.iconst 0, 1) := by decide +kernel
theorem dX9_wouldBeTooMany_7 : decode cX9_wouldBeTooMany 7 = .ok (.istore_n 3, 1) := by decide +kernel
theorem dX9_wouldBeTooMany_8 : decode cX9_wouldBeTooMany 8 = .ok (.iload_n 3, 1) := by decide +kernel
theorem dX9_wouldBeTooMany_9 : decode cX9_wouldBeTooMany 9 = .ok (.sipush 300, 3) := by decide +kernel
theorem dX9_wouldBeTooMany_12 : decode cX9_wouldBeTooMany 12 = .ok (.if_icmp .ge 35, 3) := by decide +kernel
theorem dX9_wouldBeTooMany_15 : decode cX9_wouldBeTooMany 15 = .ok (.iload_n 2, 1) := by decide +kernel
theorem dX9_wouldBeTooMany_16 : decode cX9_wouldBeTooMany 16 = .ok (.aload_n 0, 1) := by decide +kernel
theorem dX9_wouldBeTooMany_17 : decode cX9_wouldBeTooMany 17 = .ok (.iload_n 1, 1) := by decide +kernel
theorem dX9_wouldBeTooMany_18 : decode cX9_wouldBeTooMany 18 = .ok (.iload_n 3, 1) := by decide +kernel
theorem dX9_wouldBeTooMany_19 : decode cX9_wouldBeTooMany 19 = .ok (.invokevirtual 157, 3) := by decide +kernel
theorem dX9_wouldBeTooMany_22 : decode cX9_wouldBeTooMany 22 = .ok (.ifCond .le 16, 3) := by decide +kernel
theorem dX9_wouldBeTooMany_25 : decode cX9_wouldBeTooMany 25 = .ok (.aload_n 0, 1) := by decide +kernel
theorem dX9_wouldBeTooMany_26 : decode cX9_wouldBeTooMany 26 = .ok (.iload_n 1, 1) := by decide +kernel
theorem dX9_wouldBeTooMany_27 : decode cX9_wouldBeTooMany 27 = .ok (.iload_n 3, 1) := by decide +kernel
theorem dX9_wouldBeTooMany_28 : decode cX9_wouldBeTooMany 28 = .ok (.invokevirtual 39, 3) := by decide +kernel
theorem dX9_wouldBeTooMany_31 : decode cX9_wouldBeTooMany 31 = .ok (.ifCond .ne 7, 3) := by decide +kernel
theorem dX9_wouldBeTooMany_34 : decode cX9_wouldBeTooMany 34 = .ok (.iconst 1, 1) := by decide +kernel
theorem dX9_wouldBeTooMany_35 : decode cX9_wouldBeTooMany 35 = .ok (.goto 4, 3) := by decide +kernel
theorem dX9_wouldBeTooMany_38 : decode cX9_wouldBeTooMany 38 = .ok (.iconst 0, 1) := by decide +kernel
theorem dX9_wouldBeTooMany_39 : decode cX9_wouldBeTooMany 39 = .ok (.iadd, 1) := by decide +kernel
theorem dX9_wouldBeTooMany_40 : decode cX9_wouldBeTooMany 40 = .ok (.istore_n 2, 1) := by decide +kernel
theorem dX9_wouldBeTooMany_41 : decode cX9_wouldBeTooMany 41 = .ok (.iinc 3 1, 3) := by decide +kernel
theorem dX9_wouldBeTooMany_44 : decode cX9_wouldBeTooMany 44 = .ok (.goto (-36), 3) := by decide +kernel
theorem dX9_wouldBeTooMany_47 : decode cX9_wouldBeTooMany 47 = .ok (.iload_n 2, 1) := by decide +kernel
theorem dX9_wouldBeTooMany_48 : decode cX9_wouldBeTooMany 48 = .ok (.bipush 40, 2) := by decide +kernel
theorem dX9_wouldBeTooMany_50 : decode cX9_wouldBeTooMany 50 = .ok (.if_icmp .le 7, 3) := by decide +kernel
theorem dX9_wouldBeTooMany_53 : decode cX9_wouldBeTooMany 53 = .ok (.iconst 1, 1) := by decide +kernel
theorem dX9_wouldBeTooMany_54 : decode cX9_wouldBeTooMany 54 = .ok (.goto 4, 3) := by decide +kernel
theorem dX9_wouldBeTooMany_57 : decode cX9_wouldBeTooMany 57 = .ok (.iconst 0, 1) := by decide +kernel
theorem dX9_wouldBeTooMany_58 : decode cX9_wouldBeTooMany 58 = .ok (.ireturn, 1) := by decide +kernel
theorem eX9_wouldBeTooMany_0 {a : Option Nat} {l1 l2 l3 : Option VV} {S : MM} : rn xX9_wouldBeTooMany (0, [some (.inr (.inl a)), l1, l2, l3], [], S) = rn xX9_wouldBeTooMany (1, [some (.inr (.inl a)), l1, l2, l3], [.inr (.inl a)], S) := rn_step dX9_wouldBeTooMany_0 rfl rfl
theorem eX9_wouldBeTooMany_1 {a : Int} {l0 l2 l3 : Option VV} {v0 : VV} {S : MM} : rn xX9_wouldBeTooMany (1, [l0, some (vI a), l2, l3], [v0], S) = rn xX9_wouldBeTooMany (2, [l0, some (vI a), l2, l3], [vI a, v0], S) := rn_step dX9_wouldBeTooMany_1 rfl rfl
theorem eX9_wouldBeTooMany_2 {a0 : Int} {l0 l1 l2 l3 : Option VV} {S : MM} : rn xX9_wouldBeTooMany (2, [l0, l1, l2, l3], [vI a0, vR 593], S) = (fX9_stonesOf [vR 593, vI a0] S).bind (fun q => rn xX9_wouldBeTooMany (5, [l0, l1, l2, l3], q.1.toList ++ [], q.2)) := q_callV (n := 1) (as := [vI a0]) (rest := []) dX9_wouldBeTooMany_2 rfl rfl rfl rfl kd593
theorem eX9_wouldBeTooMany_5 {a : Int} {w : Int} {l0 l2 l3 : Option VV} {S : MM} : rn xX9_wouldBeTooMany (5, [l0, some (vI w), l2, l3], [vI a], S) = rn xX9_wouldBeTooMany (6, [l0, some (vI w), some (vI a), l3], [], S) := rn_step dX9_wouldBeTooMany_5 rfl rfl
theorem eX9_wouldBeTooMany_6 {l0 l1 l2 l3 : Option VV} {S : MM} : rn xX9_wouldBeTooMany (6, [l0, l1, l2, l3], [], S) = rn xX9_wouldBeTooMany (7, [l0, l1, l2, l3], [vI 0], S) := rn_step dX9_wouldBeTooMany_6 rfl rfl
theorem eX9_wouldBeTooMany_7 {a : Int} {w : Int} {l0 l1 l3 : Option VV} {S : MM} : rn xX9_wouldBeTooMany (7, [l0, l1, some (vI w), l3], [vI a], S) = rn xX9_wouldBeTooMany (8, [l0, l1, some (vI w), some (vI a)], [], S) := rn_step dX9_wouldBeTooMany_7 rfl rfl
theorem eX9_wouldBeTooMany_8 {a : Int} {l0 l1 l2 : Option VV} {S : MM} : rn xX9_wouldBeTooMany (8, [l0, l1, l2, some (vI a)], [], S) = rn xX9_wouldBeTooMany (9, [l0, l1, l2, some (vI a)], [vI a], S) := rn_step dX9_wouldBeTooMany_8 rfl rfl
theorem eX9_wouldBeTooMany_9 {l0 l1 l2 l3 : Option VV} {v0 : VV} {S : MM} : rn xX9_wouldBeTooMany (9, [l0, l1, l2, l3], [v0], S) = rn xX9_wouldBeTooMany (12, [l0, l1, l2, l3], [vI 300, v0], S) := rn_step dX9_wouldBeTooMany_9 rfl rfl
theorem eX9_wouldBeTooMany_12 {a b : Int} {l0 l1 l2 l3 : Option VV} (h : -2147483648 ≤ a ∧ a ≤ 2147483647) (h1 : -2147483648 ≤ b ∧ b ≤ 2147483647) {S : MM} : rn xX9_wouldBeTooMany (12, [l0, l1, l2, l3], [vI b, vI a], S) = if a < b then rn xX9_wouldBeTooMany (15, [l0, l1, l2, l3], [], S) else rn xX9_wouldBeTooMany (47, [l0, l1, l2, l3], [], S) := q_icmp_ge dX9_wouldBeTooMany_12 (by decide) rfl h h1
theorem eX9_wouldBeTooMany_15 {a : Int} {l0 l1 l3 : Option VV} {S : MM} : rn xX9_wouldBeTooMany (15, [l0, l1, some (vI a), l3], [], S) = rn xX9_wouldBeTooMany (16, [l0, l1, some (vI a), l3], [vI a], S) := rn_step dX9_wouldBeTooMany_15 rfl rfl
theorem eX9_wouldBeTooMany_16 {a : Option Nat} {l1 l2 l3 : Option VV} {v0 : VV} {S : MM} : rn xX9_wouldBeTooMany (16, [some (.inr (.inl a)), l1, l2, l3], [v0], S) = rn xX9_wouldBeTooMany (17, [some (.inr (.inl a)), l1, l2, l3], [.inr (.inl a), v0], S) := rn_step dX9_wouldBeTooMany_16 rfl rfl
theorem eX9_wouldBeTooMany_17 {a : Int} {l0 l2 l3 : Option VV} {v0 v1 : VV} {S : MM} : rn xX9_wouldBeTooMany (17, [l0, some (vI a), l2, l3], [v0, v1], S) = rn xX9_wouldBeTooMany (18, [l0, some (vI a), l2, l3], [vI a, v0, v1], S) := rn_step dX9_wouldBeTooMany_17 rfl rfl
theorem eX9_wouldBeTooMany_18 {a : Int} {l0 l1 l2 : Option VV} {v0 v1 v2 : VV} {S : MM} : rn xX9_wouldBeTooMany (18, [l0, l1, l2, some (vI a)], [v0, v1, v2], S) = rn xX9_wouldBeTooMany (19, [l0, l1, l2, some (vI a)], [vI a, v0, v1, v2], S) := rn_step dX9_wouldBeTooMany_18 rfl rfl
theorem eX9_wouldBeTooMany_19 {a0 : Int} {a1 : Int} {l0 l1 l2 l3 : Option VV} {v3 : VV} {S : MM} : rn xX9_wouldBeTooMany (19, [l0, l1, l2, l3], [vI a1, vI a0, vR 593, v3], S) = (fX9_taken [vR 593, vI a0, vI a1] S).bind (fun q => rn xX9_wouldBeTooMany (22, [l0, l1, l2, l3], q.1.toList ++ [v3], q.2)) := q_callV (n := 2) (as := [vI a0, vI a1]) (rest := [v3]) dX9_wouldBeTooMany_19 rfl rfl rfl rfl kd593
theorem eX9_wouldBeTooMany_22 {a : Int} {l0 l1 l2 l3 : Option VV} {v1 : VV} (h : -2147483648 ≤ a ∧ a ≤ 2147483647) {S : MM} : rn xX9_wouldBeTooMany (22, [l0, l1, l2, l3], [vI a, v1], S) = if 0 < a then rn xX9_wouldBeTooMany (25, [l0, l1, l2, l3], [v1], S) else rn xX9_wouldBeTooMany (38, [l0, l1, l2, l3], [v1], S) := q_if_le dX9_wouldBeTooMany_22 (by decide) rfl h
theorem eX9_wouldBeTooMany_25 {a : Option Nat} {l1 l2 l3 : Option VV} {v0 : VV} {S : MM} : rn xX9_wouldBeTooMany (25, [some (.inr (.inl a)), l1, l2, l3], [v0], S) = rn xX9_wouldBeTooMany (26, [some (.inr (.inl a)), l1, l2, l3], [.inr (.inl a), v0], S) := rn_step dX9_wouldBeTooMany_25 rfl rfl
theorem eX9_wouldBeTooMany_26 {a : Int} {l0 l2 l3 : Option VV} {v0 v1 : VV} {S : MM} : rn xX9_wouldBeTooMany (26, [l0, some (vI a), l2, l3], [v0, v1], S) = rn xX9_wouldBeTooMany (27, [l0, some (vI a), l2, l3], [vI a, v0, v1], S) := rn_step dX9_wouldBeTooMany_26 rfl rfl
theorem eX9_wouldBeTooMany_27 {a : Int} {l0 l1 l2 : Option VV} {v0 v1 v2 : VV} {S : MM} : rn xX9_wouldBeTooMany (27, [l0, l1, l2, some (vI a)], [v0, v1, v2], S) = rn xX9_wouldBeTooMany (28, [l0, l1, l2, some (vI a)], [vI a, v0, v1, v2], S) := rn_step dX9_wouldBeTooMany_27 rfl rfl
theorem eX9_wouldBeTooMany_28 {a0 : Int} {a1 : Int} {l0 l1 l2 l3 : Option VV} {v3 : VV} {S : MM} : rn xX9_wouldBeTooMany (28, [l0, l1, l2, l3], [vI a1, vI a0, vR 593, v3], S) = (fX9_repeats [vR 593, vI a0, vI a1] S).bind (fun q => rn xX9_wouldBeTooMany (31, [l0, l1, l2, l3], q.1.toList ++ [v3], q.2)) := q_callV (n := 2) (as := [vI a0, vI a1]) (rest := [v3]) dX9_wouldBeTooMany_28 rfl rfl rfl rfl kd593
theorem eX9_wouldBeTooMany_31 {a : Int} {l0 l1 l2 l3 : Option VV} {v1 : VV} (h : -2147483648 ≤ a ∧ a ≤ 2147483647) {S : MM} : rn xX9_wouldBeTooMany (31, [l0, l1, l2, l3], [vI a, v1], S) = if a = 0 then rn xX9_wouldBeTooMany (34, [l0, l1, l2, l3], [v1], S) else rn xX9_wouldBeTooMany (38, [l0, l1, l2, l3], [v1], S) := q_if_ne dX9_wouldBeTooMany_31 (by decide) rfl h
theorem eX9_wouldBeTooMany_34 {l0 l1 l2 l3 : Option VV} {v0 : VV} {S : MM} : rn xX9_wouldBeTooMany (34, [l0, l1, l2, l3], [v0], S) = rn xX9_wouldBeTooMany (35, [l0, l1, l2, l3], [vI 1, v0], S) := rn_step dX9_wouldBeTooMany_34 rfl rfl
theorem eX9_wouldBeTooMany_35 {l0 l1 l2 l3 : Option VV} {v0 v1 : VV} {S : MM} : rn xX9_wouldBeTooMany (35, [l0, l1, l2, l3], [v0, v1], S) = rn xX9_wouldBeTooMany (39, [l0, l1, l2, l3], [v0, v1], S) := rn_step dX9_wouldBeTooMany_35 rfl rfl
theorem eX9_wouldBeTooMany_38 {l0 l1 l2 l3 : Option VV} {v0 : VV} {S : MM} : rn xX9_wouldBeTooMany (38, [l0, l1, l2, l3], [v0], S) = rn xX9_wouldBeTooMany (39, [l0, l1, l2, l3], [vI 0, v0], S) := rn_step dX9_wouldBeTooMany_38 rfl rfl
theorem eX9_wouldBeTooMany_39 {a b : Int} {l0 l1 l2 l3 : Option VV} {S : MM} : rn xX9_wouldBeTooMany (39, [l0, l1, l2, l3], [vI b, vI a], S) = rn xX9_wouldBeTooMany (40, [l0, l1, l2, l3], [vI (a + b)], S) := rn_step dX9_wouldBeTooMany_39 rfl rfl
theorem eX9_wouldBeTooMany_40 {a : Int} {w : Int} {l0 l2 l3 : Option VV} {S : MM} : rn xX9_wouldBeTooMany (40, [l0, some (vI w), l2, l3], [vI a], S) = rn xX9_wouldBeTooMany (41, [l0, some (vI w), some (vI a), l3], [], S) := rn_step dX9_wouldBeTooMany_40 rfl rfl
theorem eX9_wouldBeTooMany_41 {a : Int} {w : Int} {l0 l1 : Option VV} {S : MM} : rn xX9_wouldBeTooMany (41, [l0, l1, some (vI w), some (vI a)], [], S) = rn xX9_wouldBeTooMany (44, [l0, l1, some (vI w), some (vI (a + 1))], [], S) := rn_step dX9_wouldBeTooMany_41 rfl rfl
theorem eX9_wouldBeTooMany_44 {l0 l1 l2 l3 : Option VV} {S : MM} : rn xX9_wouldBeTooMany (44, [l0, l1, l2, l3], [], S) = rn xX9_wouldBeTooMany (8, [l0, l1, l2, l3], [], S) := rn_step dX9_wouldBeTooMany_44 rfl rfl
theorem eX9_wouldBeTooMany_47 {a : Int} {l0 l1 l3 : Option VV} {S : MM} : rn xX9_wouldBeTooMany (47, [l0, l1, some (vI a), l3], [], S) = rn xX9_wouldBeTooMany (48, [l0, l1, some (vI a), l3], [vI a], S) := rn_step dX9_wouldBeTooMany_47 rfl rfl
theorem eX9_wouldBeTooMany_48 {l0 l1 l2 l3 : Option VV} {v0 : VV} {S : MM} : rn xX9_wouldBeTooMany (48, [l0, l1, l2, l3], [v0], S) = rn xX9_wouldBeTooMany (50, [l0, l1, l2, l3], [vI 40, v0], S) := rn_step dX9_wouldBeTooMany_48 rfl rfl
theorem eX9_wouldBeTooMany_50 {a b : Int} {l0 l1 l2 l3 : Option VV} (h : -2147483648 ≤ a ∧ a ≤ 2147483647) (h1 : -2147483648 ≤ b ∧ b ≤ 2147483647) {S : MM} : rn xX9_wouldBeTooMany (50, [l0, l1, l2, l3], [vI b, vI a], S) = if b < a then rn xX9_wouldBeTooMany (53, [l0, l1, l2, l3], [], S) else rn xX9_wouldBeTooMany (57, [l0, l1, l2, l3], [], S) := q_icmp_le dX9_wouldBeTooMany_50 (by decide) rfl h h1
theorem eX9_wouldBeTooMany_53 {l0 l1 l2 l3 : Option VV} {S : MM} : rn xX9_wouldBeTooMany (53, [l0, l1, l2, l3], [], S) = rn xX9_wouldBeTooMany (54, [l0, l1, l2, l3], [vI 1], S) := rn_step dX9_wouldBeTooMany_53 rfl rfl
theorem eX9_wouldBeTooMany_54 {l0 l1 l2 l3 : Option VV} {v0 : VV} {S : MM} : rn xX9_wouldBeTooMany (54, [l0, l1, l2, l3], [v0], S) = rn xX9_wouldBeTooMany (58, [l0, l1, l2, l3], [v0], S) := rn_step dX9_wouldBeTooMany_54 rfl rfl
theorem eX9_wouldBeTooMany_57 {l0 l1 l2 l3 : Option VV} {S : MM} : rn xX9_wouldBeTooMany (57, [l0, l1, l2, l3], [], S) = rn xX9_wouldBeTooMany (58, [l0, l1, l2, l3], [vI 0], S) := rn_step dX9_wouldBeTooMany_57 rfl rfl
theorem eX9_wouldBeTooMany_58 {z : Int} {l0 l1 l2 l3 : Option VV} (hz : z = 0 ∨ z = 1) {S : MM} : rn xX9_wouldBeTooMany (58, [l0, l1, l2, l3], [vI z], S) = some (some (vI z), S) := q_retZ dX9_wouldBeTooMany_58 rfl hz
noncomputable def qlX9_giveBack : List CE := [(0, 157, 9, 3, fX9_taken), (0, 39, 9, 3, fX9_repeats), (0, 136, 9, 4, fX9_lay)]
noncomputable def xX9_giveBack : XX := (cX9_giveBack, fcF fcl9, mcF qlX9_giveBack, 1)
noncomputable def fX9_giveBack : FN := fnX xX9_giveBack 5
set_option maxRecDepth 100000 in
theorem cwX9_giveBack : Cond.code yX9_giveBack cX9_giveBack 5 (some .int) ∈ lw_g := lw_gm 1110 (by decide +kernel) (by decide +kernel)
set_option maxRecDepth 100000 in
theorem conX9_giveBack : Con yX9_giveBack cX9_giveBack 5 (some .int) { frames := 1, cells := 0, slots := 0, locals := 23 } fX9_giveBack := con_of (X := xX9_giveBack) (own := "LeapStonesModel") (ql := qlX9_giveBack) (by decide) rfl FOK9 rfl (List.forall_mem_cons.mpr ⟨call_V conX9_taken cwX9_taken (lw_gl _ [1103, 1105, 50, 84] (by decide +kernel) (by decide +kernel)) (by decide) rfl ⟨by decide, by decide, by decide +kernel⟩ ⟨rfl, rfl⟩ ⟨by decide, by decide⟩ ⟨Nat.le_refl _, Nat.le_refl _⟩, List.forall_mem_cons.mpr ⟨call_V conX9_repeats cwX9_repeats (lw_gl _ [959, 961, 23, 84] (by decide +kernel) (by decide +kernel)) (by decide) rfl ⟨by decide, by decide, by decide +kernel⟩ ⟨rfl, rfl⟩ ⟨by decide, by decide⟩ ⟨Nat.le_refl _, Nat.le_refl _⟩, List.forall_mem_cons.mpr ⟨call_V conX9_lay cwX9_lay (lw_gl _ [1064, 1066, 43, 84] (by decide +kernel) (by decide +kernel)) (by decide) rfl ⟨by decide, by decide, by decide +kernel⟩ ⟨rfl, rfl⟩ ⟨by decide, by decide⟩ ⟨Nat.le_refl _, Nat.le_refl _⟩, fun _ h => absurd h List.not_mem_nil⟩⟩⟩) (Or.inr (Or.inl ⟨rfl, rfl⟩))
theorem uX9_giveBack {i : Nat} {a0 : Int} {S : MM} : fX9_giveBack [vR i, vI a0] S = rn xX9_giveBack (0, [some (vR i), some (vI a0), none, none, none], [], S) := rfl
theorem dX9_giveBack_0 : decode cX9_giveBack 0 = .ok (.iconst 0, 1) := by decide +kernel
theorem dX9_giveBack_1 : decode cX9_giveBack 1 = .ok (.istore_n 2, 1) := by decide +kernel
theorem dX9_giveBack_2 : decode cX9_giveBack 2 = .ok (.iconst 0, 1) := by decide +kernel
theorem dX9_giveBack_3 : decode cX9_giveBack 3 = .ok (.istore_n 3, 1) := by decide +kernel
theorem dX9_giveBack_4 : decode cX9_giveBack 4 = .ok (.iload_n 3, 1) := by decide +kernel
theorem dX9_giveBack_5 : decode cX9_giveBack 5 = .ok (.sipush 300, 3) := by decide +kernel
theorem dX9_giveBack_8 : decode cX9_giveBack 8 = .ok (.if_icmp .ge 56, 3) := by decide +kernel
theorem dX9_giveBack_11 : decode cX9_giveBack 11 = .ok (.aload_n 0, 1) := by decide +kernel
theorem dX9_giveBack_12 : decode cX9_giveBack 12 = .ok (.iload_n 1, 1) := by decide +kernel
theorem dX9_giveBack_13 : decode cX9_giveBack 13 = .ok (.iload_n 3, 1) := by decide +kernel
theorem dX9_giveBack_14 : decode cX9_giveBack 14 = .ok (.invokevirtual 157, 3) := by decide +kernel
theorem dX9_giveBack_17 : decode cX9_giveBack 17 = .ok (.aload_n 0, 1) := by decide +kernel
theorem dX9_giveBack_18 : decode cX9_giveBack 18 = .ok (.iload_n 1, 1) := by decide +kernel
theorem dX9_giveBack_19 : decode cX9_giveBack 19 = .ok (.iload_n 3, 1) := by decide +kernel
theorem dX9_giveBack_20 : decode cX9_giveBack 20 = .ok (.invokevirtual 39, 3) := by decide +kernel
theorem dX9_giveBack_23 : decode cX9_giveBack 23 = .ok (.iadd, 1) := by decide +kernel
theorem dX9_giveBack_24 : decode cX9_giveBack 24 = .ok (.istore 4, 2) := by decide +kernel
theorem dX9_giveBack_26 : decode cX9_giveBack 26 = .ok (.aload_n 0, 1) := by decide +kernel
theorem dX9_giveBack_27 : decode cX9_giveBack 27 = .ok (.iload_n 1, 1) := by decide +kernel
theorem dX9_giveBack_28 : decode cX9_giveBack 28 = .ok (.iload_n 3, 1) := by decide +kernel
theorem dX9_giveBack_29 : decode cX9_giveBack 29 = .ok (.invokevirtual 157, 3) := by decide +kernel
theorem dX9_giveBack_32 : decode cX9_giveBack 32 = .ok (.ifCond .le 26, 3) := by decide +kernel
theorem dX9_giveBack_35 : decode cX9_giveBack 35 = .ok (.aload_n 0, 1) := by decide +kernel
theorem dX9_giveBack_36 : decode cX9_giveBack 36 = .ok (.iload_n 1, 1) := by decide +kernel
theorem dX9_giveBack_37 : decode cX9_giveBack 37 = .ok (.iload_n 3, 1) := by decide +kernel
theorem dX9_giveBack_38 : decode cX9_giveBack 38 = .ok (.iload 4, 2) := by decide +kernel
theorem dX9_giveBack_40 : decode cX9_giveBack 40 = .ok (.bipush 9, 2) := by decide +kernel
theorem dX9_giveBack_42 : decode cX9_giveBack 42 = .ok (.if_icmp .le 8, 3) := by decide +kernel
theorem dX9_giveBack_45 : decode cX9_giveBack 45 = .ok (.bipush 9, 2) := by decide +kernel
theorem dX9_giveBack_47 : decode cX9_giveBack 47 = .ok (.goto 5, 3) := by decide +kernel
theorem dX9_giveBack_50 : decode cX9_giveBack 50 = .ok (.iload 4, 2) := by decide +kernel
theorem dX9_giveBack_52 : decode cX9_giveBack 52 = .ok (.invokevirtual 136, 3) := by decide +kernel
theorem dX9_giveBack_55 : decode cX9_giveBack 55 = .ok (.iinc 2 1, 3) := by decide +kernel
theorem dX9_giveBack_58 : decode cX9_giveBack 58 = .ok (.iinc 3 1, 3) := by decide +kernel
theorem dX9_giveBack_61 : decode cX9_giveBack 61 = .ok (.goto (-57), 3) := by decide +kernel
theorem dX9_giveBack_64 : decode cX9_giveBack 64 = .ok (.iload_n 2, 1) := by decide +kernel
theorem dX9_giveBack_65 : decode cX9_giveBack 65 = .ok (.ireturn, 1) := by decide +kernel
theorem eX9_giveBack_0 {l0 l1 l2 l3 l4 : Option VV} {S : MM} : rn xX9_giveBack (0, [l0, l1, l2, l3, l4], [], S) = rn xX9_giveBack (1, [l0, l1, l2, l3, l4], [vI 0], S) := rn_step dX9_giveBack_0 rfl rfl
theorem eX9_giveBack_1 {a : Int} {w : Int} {l0 l2 l3 l4 : Option VV} {S : MM} : rn xX9_giveBack (1, [l0, some (vI w), l2, l3, l4], [vI a], S) = rn xX9_giveBack (2, [l0, some (vI w), some (vI a), l3, l4], [], S) := rn_step dX9_giveBack_1 rfl rfl
theorem eX9_giveBack_2 {l0 l1 l2 l3 l4 : Option VV} {S : MM} : rn xX9_giveBack (2, [l0, l1, l2, l3, l4], [], S) = rn xX9_giveBack (3, [l0, l1, l2, l3, l4], [vI 0], S) := rn_step dX9_giveBack_2 rfl rfl
theorem eX9_giveBack_3 {a : Int} {w : Int} {l0 l1 l3 l4 : Option VV} {S : MM} : rn xX9_giveBack (3, [l0, l1, some (vI w), l3, l4], [vI a], S) = rn xX9_giveBack (4, [l0, l1, some (vI w), some (vI a), l4], [], S) := rn_step dX9_giveBack_3 rfl rfl
theorem eX9_giveBack_4 {a : Int} {l0 l1 l2 l4 : Option VV} {S : MM} : rn xX9_giveBack (4, [l0, l1, l2, some (vI a), l4], [], S) = rn xX9_giveBack (5, [l0, l1, l2, some (vI a), l4], [vI a], S) := rn_step dX9_giveBack_4 rfl rfl
theorem eX9_giveBack_5 {l0 l1 l2 l3 l4 : Option VV} {v0 : VV} {S : MM} : rn xX9_giveBack (5, [l0, l1, l2, l3, l4], [v0], S) = rn xX9_giveBack (8, [l0, l1, l2, l3, l4], [vI 300, v0], S) := rn_step dX9_giveBack_5 rfl rfl
theorem eX9_giveBack_8 {a b : Int} {l0 l1 l2 l3 l4 : Option VV} (h : -2147483648 ≤ a ∧ a ≤ 2147483647) (h1 : -2147483648 ≤ b ∧ b ≤ 2147483647) {S : MM} : rn xX9_giveBack (8, [l0, l1, l2, l3, l4], [vI b, vI a], S) = if a < b then rn xX9_giveBack (11, [l0, l1, l2, l3, l4], [], S) else rn xX9_giveBack (64, [l0, l1, l2, l3, l4], [], S) := q_icmp_ge dX9_giveBack_8 (by decide) rfl h h1
theorem eX9_giveBack_11 {a : Option Nat} {l1 l2 l3 l4 : Option VV} {S : MM} : rn xX9_giveBack (11, [some (.inr (.inl a)), l1, l2, l3, l4], [], S) = rn xX9_giveBack (12, [some (.inr (.inl a)), l1, l2, l3, l4], [.inr (.inl a)], S) := rn_step dX9_giveBack_11 rfl rfl
theorem eX9_giveBack_12 {a : Int} {l0 l2 l3 l4 : Option VV} {v0 : VV} {S : MM} : rn xX9_giveBack (12, [l0, some (vI a), l2, l3, l4], [v0], S) = rn xX9_giveBack (13, [l0, some (vI a), l2, l3, l4], [vI a, v0], S) := rn_step dX9_giveBack_12 rfl rfl
theorem eX9_giveBack_13 {a : Int} {l0 l1 l2 l4 : Option VV} {v0 v1 : VV} {S : MM} : rn xX9_giveBack (13, [l0, l1, l2, some (vI a), l4], [v0, v1], S) = rn xX9_giveBack (14, [l0, l1, l2, some (vI a), l4], [vI a, v0, v1], S) := rn_step dX9_giveBack_13 rfl rfl
theorem eX9_giveBack_14 {a0 : Int} {a1 : Int} {l0 l1 l2 l3 l4 : Option VV} {S : MM} : rn xX9_giveBack (14, [l0, l1, l2, l3, l4], [vI a1, vI a0, vR 593], S) = (fX9_taken [vR 593, vI a0, vI a1] S).bind (fun q => rn xX9_giveBack (17, [l0, l1, l2, l3, l4], q.1.toList ++ [], q.2)) := q_callV (n := 2) (as := [vI a0, vI a1]) (rest := []) dX9_giveBack_14 rfl rfl rfl rfl kd593
theorem eX9_giveBack_17 {a : Option Nat} {l1 l2 l3 l4 : Option VV} {v0 : VV} {S : MM} : rn xX9_giveBack (17, [some (.inr (.inl a)), l1, l2, l3, l4], [v0], S) = rn xX9_giveBack (18, [some (.inr (.inl a)), l1, l2, l3, l4], [.inr (.inl a), v0], S) := rn_step dX9_giveBack_17 rfl rfl
theorem eX9_giveBack_18 {a : Int} {l0 l2 l3 l4 : Option VV} {v0 v1 : VV} {S : MM} : rn xX9_giveBack (18, [l0, some (vI a), l2, l3, l4], [v0, v1], S) = rn xX9_giveBack (19, [l0, some (vI a), l2, l3, l4], [vI a, v0, v1], S) := rn_step dX9_giveBack_18 rfl rfl
theorem eX9_giveBack_19 {a : Int} {l0 l1 l2 l4 : Option VV} {v0 v1 v2 : VV} {S : MM} : rn xX9_giveBack (19, [l0, l1, l2, some (vI a), l4], [v0, v1, v2], S) = rn xX9_giveBack (20, [l0, l1, l2, some (vI a), l4], [vI a, v0, v1, v2], S) := rn_step dX9_giveBack_19 rfl rfl
theorem eX9_giveBack_20 {a0 : Int} {a1 : Int} {l0 l1 l2 l3 l4 : Option VV} {v3 : VV} {S : MM} : rn xX9_giveBack (20, [l0, l1, l2, l3, l4], [vI a1, vI a0, vR 593, v3], S) = (fX9_repeats [vR 593, vI a0, vI a1] S).bind (fun q => rn xX9_giveBack (23, [l0, l1, l2, l3, l4], q.1.toList ++ [v3], q.2)) := q_callV (n := 2) (as := [vI a0, vI a1]) (rest := [v3]) dX9_giveBack_20 rfl rfl rfl rfl kd593
theorem eX9_giveBack_23 {a b : Int} {l0 l1 l2 l3 l4 : Option VV} {S : MM} : rn xX9_giveBack (23, [l0, l1, l2, l3, l4], [vI b, vI a], S) = rn xX9_giveBack (24, [l0, l1, l2, l3, l4], [vI (a + b)], S) := rn_step dX9_giveBack_23 rfl rfl
theorem eX9_giveBack_24 {a : Int} {w : Int} {l0 l1 l2 l4 : Option VV} {S : MM} : rn xX9_giveBack (24, [l0, l1, l2, some (vI w), l4], [vI a], S) = rn xX9_giveBack (26, [l0, l1, l2, some (vI w), some (vI a)], [], S) := rn_step dX9_giveBack_24 rfl rfl
theorem eX9_giveBack_26 {a : Option Nat} {l1 l2 l3 l4 : Option VV} {S : MM} : rn xX9_giveBack (26, [some (.inr (.inl a)), l1, l2, l3, l4], [], S) = rn xX9_giveBack (27, [some (.inr (.inl a)), l1, l2, l3, l4], [.inr (.inl a)], S) := rn_step dX9_giveBack_26 rfl rfl
theorem eX9_giveBack_27 {a : Int} {l0 l2 l3 l4 : Option VV} {v0 : VV} {S : MM} : rn xX9_giveBack (27, [l0, some (vI a), l2, l3, l4], [v0], S) = rn xX9_giveBack (28, [l0, some (vI a), l2, l3, l4], [vI a, v0], S) := rn_step dX9_giveBack_27 rfl rfl
theorem eX9_giveBack_28 {a : Int} {l0 l1 l2 l4 : Option VV} {v0 v1 : VV} {S : MM} : rn xX9_giveBack (28, [l0, l1, l2, some (vI a), l4], [v0, v1], S) = rn xX9_giveBack (29, [l0, l1, l2, some (vI a), l4], [vI a, v0, v1], S) := rn_step dX9_giveBack_28 rfl rfl
theorem eX9_giveBack_29 {a0 : Int} {a1 : Int} {l0 l1 l2 l3 l4 : Option VV} {S : MM} : rn xX9_giveBack (29, [l0, l1, l2, l3, l4], [vI a1, vI a0, vR 593], S) = (fX9_taken [vR 593, vI a0, vI a1] S).bind (fun q => rn xX9_giveBack (32, [l0, l1, l2, l3, l4], q.1.toList ++ [], q.2)) := q_callV (n := 2) (as := [vI a0, vI a1]) (rest := []) dX9_giveBack_29 rfl rfl rfl rfl kd593
theorem eX9_giveBack_32 {a : Int} {l0 l1 l2 l3 l4 : Option VV} (h : -2147483648 ≤ a ∧ a ≤ 2147483647) {S : MM} : rn xX9_giveBack (32, [l0, l1, l2, l3, l4], [vI a], S) = if 0 < a then rn xX9_giveBack (35, [l0, l1, l2, l3, l4], [], S) else rn xX9_giveBack (58, [l0, l1, l2, l3, l4], [], S) := q_if_le dX9_giveBack_32 (by decide) rfl h
theorem eX9_giveBack_35 {a : Option Nat} {l1 l2 l3 l4 : Option VV} {S : MM} : rn xX9_giveBack (35, [some (.inr (.inl a)), l1, l2, l3, l4], [], S) = rn xX9_giveBack (36, [some (.inr (.inl a)), l1, l2, l3, l4], [.inr (.inl a)], S) := rn_step dX9_giveBack_35 rfl rfl
theorem eX9_giveBack_36 {a : Int} {l0 l2 l3 l4 : Option VV} {v0 : VV} {S : MM} : rn xX9_giveBack (36, [l0, some (vI a), l2, l3, l4], [v0], S) = rn xX9_giveBack (37, [l0, some (vI a), l2, l3, l4], [vI a, v0], S) := rn_step dX9_giveBack_36 rfl rfl
theorem eX9_giveBack_37 {a : Int} {l0 l1 l2 l4 : Option VV} {v0 v1 : VV} {S : MM} : rn xX9_giveBack (37, [l0, l1, l2, some (vI a), l4], [v0, v1], S) = rn xX9_giveBack (38, [l0, l1, l2, some (vI a), l4], [vI a, v0, v1], S) := rn_step dX9_giveBack_37 rfl rfl
theorem eX9_giveBack_38 {a : Int} {l0 l1 l2 l3 : Option VV} {v0 v1 v2 : VV} {S : MM} : rn xX9_giveBack (38, [l0, l1, l2, l3, some (vI a)], [v0, v1, v2], S) = rn xX9_giveBack (40, [l0, l1, l2, l3, some (vI a)], [vI a, v0, v1, v2], S) := rn_step dX9_giveBack_38 rfl rfl
theorem eX9_giveBack_40 {l0 l1 l2 l3 l4 : Option VV} {v0 v1 v2 v3 : VV} {S : MM} : rn xX9_giveBack (40, [l0, l1, l2, l3, l4], [v0, v1, v2, v3], S) = rn xX9_giveBack (42, [l0, l1, l2, l3, l4], [vI 9, v0, v1, v2, v3], S) := rn_step dX9_giveBack_40 rfl rfl
theorem eX9_giveBack_42 {a b : Int} {l0 l1 l2 l3 l4 : Option VV} {v2 v3 v4 : VV} (h : -2147483648 ≤ a ∧ a ≤ 2147483647) (h1 : -2147483648 ≤ b ∧ b ≤ 2147483647) {S : MM} : rn xX9_giveBack (42, [l0, l1, l2, l3, l4], [vI b, vI a, v2, v3, v4], S) = if b < a then rn xX9_giveBack (45, [l0, l1, l2, l3, l4], [v2, v3, v4], S) else rn xX9_giveBack (50, [l0, l1, l2, l3, l4], [v2, v3, v4], S) := q_icmp_le dX9_giveBack_42 (by decide) rfl h h1
theorem eX9_giveBack_45 {l0 l1 l2 l3 l4 : Option VV} {v0 v1 v2 : VV} {S : MM} : rn xX9_giveBack (45, [l0, l1, l2, l3, l4], [v0, v1, v2], S) = rn xX9_giveBack (47, [l0, l1, l2, l3, l4], [vI 9, v0, v1, v2], S) := rn_step dX9_giveBack_45 rfl rfl
theorem eX9_giveBack_47 {l0 l1 l2 l3 l4 : Option VV} {v0 v1 v2 v3 : VV} {S : MM} : rn xX9_giveBack (47, [l0, l1, l2, l3, l4], [v0, v1, v2, v3], S) = rn xX9_giveBack (52, [l0, l1, l2, l3, l4], [v0, v1, v2, v3], S) := rn_step dX9_giveBack_47 rfl rfl
theorem eX9_giveBack_50 {a : Int} {l0 l1 l2 l3 : Option VV} {v0 v1 v2 : VV} {S : MM} : rn xX9_giveBack (50, [l0, l1, l2, l3, some (vI a)], [v0, v1, v2], S) = rn xX9_giveBack (52, [l0, l1, l2, l3, some (vI a)], [vI a, v0, v1, v2], S) := rn_step dX9_giveBack_50 rfl rfl
theorem eX9_giveBack_52 {a0 : Int} {a1 : Int} {a2 : Int} {l0 l1 l2 l3 l4 : Option VV} {S : MM} : rn xX9_giveBack (52, [l0, l1, l2, l3, l4], [vI a2, vI a1, vI a0, vR 593], S) = (fX9_lay [vR 593, vI a0, vI a1, vI a2] S).bind (fun q => rn xX9_giveBack (55, [l0, l1, l2, l3, l4], q.1.toList ++ [], q.2)) := q_callV (n := 3) (as := [vI a0, vI a1, vI a2]) (rest := []) dX9_giveBack_52 rfl rfl rfl rfl kd593
theorem eX9_giveBack_55 {a : Int} {w : Int} {l0 l3 l4 : Option VV} {S : MM} : rn xX9_giveBack (55, [l0, some (vI w), some (vI a), l3, l4], [], S) = rn xX9_giveBack (58, [l0, some (vI w), some (vI (a + 1)), l3, l4], [], S) := rn_step dX9_giveBack_55 rfl rfl
theorem eX9_giveBack_58 {a : Int} {w : Int} {l0 l1 l4 : Option VV} {S : MM} : rn xX9_giveBack (58, [l0, l1, some (vI w), some (vI a), l4], [], S) = rn xX9_giveBack (61, [l0, l1, some (vI w), some (vI (a + 1)), l4], [], S) := rn_step dX9_giveBack_58 rfl rfl
theorem eX9_giveBack_61 {l0 l1 l2 l3 l4 : Option VV} {S : MM} : rn xX9_giveBack (61, [l0, l1, l2, l3, l4], [], S) = rn xX9_giveBack (4, [l0, l1, l2, l3, l4], [], S) := rn_step dX9_giveBack_61 rfl rfl
theorem eX9_giveBack_64 {a : Int} {l0 l1 l3 l4 : Option VV} {S : MM} : rn xX9_giveBack (64, [l0, l1, some (vI a), l3, l4], [], S) = rn xX9_giveBack (65, [l0, l1, some (vI a), l3, l4], [vI a], S) := rn_step dX9_giveBack_64 rfl rfl
theorem eX9_giveBack_65 {z : Int} {l0 l1 l2 l3 l4 : Option VV} {S : MM} : rn xX9_giveBack (65, [l0, l1, l2, l3, l4], [vI z], S) = some (some (vI z), S) := q_retI dX9_giveBack_65 rfl
noncomputable def qlX9_tryDry : List CE := [(0, 160, 9, 2, fX9_wouldBeTooMany), (0, 109, 9, 2, fX9_keepIf), (0, 163, 9, 2, fX9_giveBack)]
noncomputable def xX9_tryDry : XX := (cX9_tryDry, fcF fcl9, mcF qlX9_tryDry, 1)
noncomputable def fX9_tryDry : FN := fnX xX9_tryDry 4
set_option maxRecDepth 100000 in
theorem cwX9_tryDry : Cond.code yX9_tryDry cX9_tryDry 4 (some .int) ∈ lw_g := lw_gm 1098 (by decide +kernel) (by decide +kernel)
set_option maxRecDepth 100000 in
theorem conX9_tryDry : Con yX9_tryDry cX9_tryDry 4 (some .int) { frames := 3, cells := 0, slots := 0, locals := 68 } fX9_tryDry := con_of (X := xX9_tryDry) (own := "LeapStonesModel") (ql := qlX9_tryDry) (by decide) rfl FOK9 rfl (List.forall_mem_cons.mpr ⟨call_V conX9_wouldBeTooMany cwX9_wouldBeTooMany (lw_gl _ [1099, 1101, 49, 84] (by decide +kernel) (by decide +kernel)) (by decide) rfl ⟨by decide, by decide, by decide +kernel⟩ ⟨rfl, rfl⟩ ⟨by decide, by decide⟩ ⟨Nat.le_refl _, Nat.le_refl _⟩, List.forall_mem_cons.mpr ⟨call_V conX9_keepIf cwX9_keepIf (lw_gl _ [995, 997, 31, 84] (by decide +kernel) (by decide +kernel)) (by decide) rfl ⟨by decide, by decide, by decide +kernel⟩ ⟨rfl, rfl⟩ ⟨by decide, by decide⟩ ⟨Nat.le_refl _, Nat.le_refl _⟩, List.forall_mem_cons.mpr ⟨call_V conX9_giveBack cwX9_giveBack (lw_gl _ [1107, 1109, 51, 84] (by decide +kernel) (by decide +kernel)) (by decide) rfl ⟨by decide, by decide, by decide +kernel⟩ ⟨rfl, rfl⟩ ⟨by decide, by decide⟩ ⟨Nat.le_refl _, Nat.le_refl _⟩, fun _ h => absurd h List.not_mem_nil⟩⟩⟩) (Or.inr (Or.inl ⟨rfl, rfl⟩))
theorem uX9_tryDry {i : Nat} {a0 : Int} {S : MM} : fX9_tryDry [vR i, vI a0] S = rn xX9_tryDry (0, [some (vR i), some (vI a0), none, none], [], S) := rfl
theorem dX9_tryDry_0 : decode cX9_tryDry 0 = .ok (.aload_n 0, 1) := by decide +kernel
theorem dX9_tryDry_1 : decode cX9_tryDry 1 = .ok (.getfield 7, 3) := by decide +kernel
theorem dX9_tryDry_4 : decode cX9_tryDry 4 = .ok (.bipush 7, 2) := by decide +kernel
theorem dX9_tryDry_6 : decode cX9_tryDry 6 = .ok (.iaload, 1) := by decide +kernel
theorem dX9_tryDry_7 : decode cX9_tryDry 7 = .ok (.ifCond .ne 6, 3) := by decide +kernel
theorem dX9_tryDry_10 : decode cX9_tryDry 10 = .ok (.bipush (-5), 2) := by decide +kernel
theorem dX9_tryDry_12 : decode cX9_tryDry 12 = .ok (.ireturn, 1) := by decide +kernel
theorem dX9_tryDry_13 : decode cX9_tryDry 13 = .ok (.iconst 0, 1) := by decide +kernel
theorem dX9_tryDry_14 : decode cX9_tryDry 14 = .ok (.istore_n 2, 1) := by decide +kernel
theorem dX9_tryDry_15 : decode cX9_tryDry 15 = .ok (.iload_n 2, 1) := by decide +kernel
theorem dX9_tryDry_16 : decode cX9_tryDry 16 = .ok (.iconst 3, 1) := by decide +kernel
theorem dX9_tryDry_17 : decode cX9_tryDry 17 = .ok (.if_icmp .ge 20, 3) := by decide +kernel
theorem dX9_tryDry_20 : decode cX9_tryDry 20 = .ok (.aload_n 0, 1) := by decide +kernel
theorem dX9_tryDry_21 : decode cX9_tryDry 21 = .ok (.iload_n 2, 1) := by decide +kernel
theorem dX9_tryDry_22 : decode cX9_tryDry 22 = .ok (.invokevirtual 160, 3) := by decide +kernel
theorem dX9_tryDry_25 : decode cX9_tryDry 25 = .ok (.ifCond .eq 6, 3) := by decide +kernel
theorem dX9_tryDry_28 : decode cX9_tryDry 28 = .ok (.bipush (-4), 2) := by decide +kernel
theorem dX9_tryDry_30 : decode cX9_tryDry 30 = .ok (.ireturn, 1) := by decide +kernel
theorem dX9_tryDry_31 : decode cX9_tryDry 31 = .ok (.iinc 2 1, 3) := by decide +kernel
theorem dX9_tryDry_34 : decode cX9_tryDry 34 = .ok (.goto (-19), 3) := by decide +kernel
theorem dX9_tryDry_37 : decode cX9_tryDry 37 = .ok (.aload_n 0, 1) := by decide +kernel
theorem dX9_tryDry_38 : decode cX9_tryDry 38 = .ok (.iload_n 1, 1) := by decide +kernel
theorem dX9_tryDry_39 : decode cX9_tryDry 39 = .ok (.invokevirtual 109, 3) := by decide +kernel
theorem dX9_tryDry_42 : decode cX9_tryDry 42 = .ok (.iconst 0, 1) := by decide +kernel
theorem dX9_tryDry_43 : decode cX9_tryDry 43 = .ok (.istore_n 2, 1) := by decide +kernel
theorem dX9_tryDry_44 : decode cX9_tryDry 44 = .ok (.iconst 0, 1) := by decide +kernel
theorem dX9_tryDry_45 : decode cX9_tryDry 45 = .ok (.istore_n 3, 1) := by decide +kernel
theorem dX9_tryDry_46 : decode cX9_tryDry 46 = .ok (.iload_n 3, 1) := by decide +kernel
theorem dX9_tryDry_47 : decode cX9_tryDry 47 = .ok (.iconst 3, 1) := by decide +kernel
theorem dX9_tryDry_48 : decode cX9_tryDry 48 = .ok (.if_icmp .ge 17, 3) := by decide +kernel
theorem dX9_tryDry_51 : decode cX9_tryDry 51 = .ok (.iload_n 2, 1) := by decide +kernel
theorem dX9_tryDry_52 : decode cX9_tryDry 52 = .ok (.aload_n 0, 1) := by decide +kernel
theorem dX9_tryDry_53 : decode cX9_tryDry 53 = .ok (.iload_n 3, 1) := by decide +kernel
theorem dX9_tryDry_54 : decode cX9_tryDry 54 = .ok (.invokevirtual 163, 3) := by decide +kernel
theorem dX9_tryDry_57 : decode cX9_tryDry 57 = .ok (.iadd, 1) := by decide +kernel
theorem dX9_tryDry_58 : decode cX9_tryDry 58 = .ok (.istore_n 2, 1) := by decide +kernel
theorem dX9_tryDry_59 : decode cX9_tryDry 59 = .ok (.iinc 3 1, 3) := by decide +kernel
theorem dX9_tryDry_62 : decode cX9_tryDry 62 = .ok (.goto (-16), 3) := by decide +kernel
theorem dX9_tryDry_65 : decode cX9_tryDry 65 = .ok (.aload_n 0, 1) := by decide +kernel
theorem dX9_tryDry_66 : decode cX9_tryDry 66 = .ok (.getfield 7, 3) := by decide +kernel
theorem dX9_tryDry_69 : decode cX9_tryDry 69 = .ok (.bipush 7, 2) := by decide +kernel
theorem dX9_tryDry_71 : decode cX9_tryDry 71 = .ok (.dup2, 1) := by decide +kernel
theorem dX9_tryDry_72 : decode cX9_tryDry 72 = .ok (.iaload, 1) := by decide +kernel
theorem dX9_tryDry_73 : decode cX9_tryDry 73 = .ok (.iconst 1, 1) := by decide +kernel
theorem dX9_tryDry_74 : decode cX9_tryDry 74 = .ok (.isub, 1) := by decide +kernel
theorem dX9_tryDry_75 : decode cX9_tryDry 75 = .ok (.iastore, 1) := by decide +kernel
theorem dX9_tryDry_76 : decode cX9_tryDry 76 = .ok (.iload_n 2, 1) := by decide +kernel
theorem dX9_tryDry_77 : decode cX9_tryDry 77 = .ok (.ireturn, 1) := by decide +kernel
theorem eX9_tryDry_0 {a : Option Nat} {l1 l2 l3 : Option VV} {S : MM} : rn xX9_tryDry (0, [some (.inr (.inl a)), l1, l2, l3], [], S) = rn xX9_tryDry (1, [some (.inr (.inl a)), l1, l2, l3], [.inr (.inl a)], S) := rn_step dX9_tryDry_0 rfl rfl
theorem eX9_tryDry_1 {l0 l1 l2 l3 : Option VV} {S : MM} : rn xX9_tryDry (1, [l0, l1, l2, l3], [vR 593], S) = rn xX9_tryDry (4, [l0, l1, l2, l3], [vR 594], S) := q_getR dX9_tryDry_1 rfl ⟨⟨by decide, by decide⟩, by decide⟩ (fun _ => by decide +kernel) kd593
theorem eX9_tryDry_4 {l0 l1 l2 l3 : Option VV} {v0 : VV} {S : MM} : rn xX9_tryDry (4, [l0, l1, l2, l3], [v0], S) = rn xX9_tryDry (6, [l0, l1, l2, l3], [vI 7, v0], S) := rn_step dX9_tryDry_4 rfl rfl
theorem eX9_tryDry_6 {i : Nat} {j : Int} {l0 l1 l2 l3 : Option VV} (h : kd i = 10) (h0 : 0 ≤ j) (h1 : j < alen i) {S : MM} : rn xX9_tryDry (6, [l0, l1, l2, l3], [vI j, vR i], S) = rn xX9_tryDry (7, [l0, l1, l2, l3], [vI (S i j.toNat)], S) := q_iald dX9_tryDry_6 h h0 h1
theorem eX9_tryDry_6x {j : Int} {l0 l1 l2 l3 : Option VV} {S : MM} (h0 : 0 ≤ j) (h1 : j < S 604 0) : rn xX9_tryDry (6, [l0, l1, l2, l3], [vI j, vR 602], S) = rn xX9_tryDry (7, [l0, l1, l2, l3], [vI (S 602 j.toNat)], S) := q_ialdX dX9_tryDry_6 h0 h1
theorem eX9_tryDry_6y {j : Int} {l0 l1 l2 l3 : Option VV} {S : MM} (h0 : 0 ≤ j) (h1 : j < S 604 1) : rn xX9_tryDry (6, [l0, l1, l2, l3], [vI j, vR 603], S) = rn xX9_tryDry (7, [l0, l1, l2, l3], [vI (S 603 j.toNat)], S) := q_ialdY dX9_tryDry_6 h0 h1
theorem eX9_tryDry_7 {a : Int} {l0 l1 l2 l3 : Option VV} (h : -2147483648 ≤ a ∧ a ≤ 2147483647) {S : MM} : rn xX9_tryDry (7, [l0, l1, l2, l3], [vI a], S) = if a = 0 then rn xX9_tryDry (10, [l0, l1, l2, l3], [], S) else rn xX9_tryDry (13, [l0, l1, l2, l3], [], S) := q_if_ne dX9_tryDry_7 (by decide) rfl h
theorem eX9_tryDry_10 {l0 l1 l2 l3 : Option VV} {S : MM} : rn xX9_tryDry (10, [l0, l1, l2, l3], [], S) = rn xX9_tryDry (12, [l0, l1, l2, l3], [vI (-5)], S) := rn_step dX9_tryDry_10 rfl rfl
theorem eX9_tryDry_12 {z : Int} {l0 l1 l2 l3 : Option VV} {S : MM} : rn xX9_tryDry (12, [l0, l1, l2, l3], [vI z], S) = some (some (vI z), S) := q_retI dX9_tryDry_12 rfl
theorem eX9_tryDry_13 {l0 l1 l2 l3 : Option VV} {S : MM} : rn xX9_tryDry (13, [l0, l1, l2, l3], [], S) = rn xX9_tryDry (14, [l0, l1, l2, l3], [vI 0], S) := rn_step dX9_tryDry_13 rfl rfl
theorem eX9_tryDry_14 {a : Int} {w : Int} {l0 l2 l3 : Option VV} {S : MM} : rn xX9_tryDry (14, [l0, some (vI w), l2, l3], [vI a], S) = rn xX9_tryDry (15, [l0, some (vI w), some (vI a), l3], [], S) := rn_step dX9_tryDry_14 rfl rfl
theorem eX9_tryDry_15 {a : Int} {l0 l1 l3 : Option VV} {S : MM} : rn xX9_tryDry (15, [l0, l1, some (vI a), l3], [], S) = rn xX9_tryDry (16, [l0, l1, some (vI a), l3], [vI a], S) := rn_step dX9_tryDry_15 rfl rfl
theorem eX9_tryDry_16 {l0 l1 l2 l3 : Option VV} {v0 : VV} {S : MM} : rn xX9_tryDry (16, [l0, l1, l2, l3], [v0], S) = rn xX9_tryDry (17, [l0, l1, l2, l3], [vI 3, v0], S) := rn_step dX9_tryDry_16 rfl rfl
theorem eX9_tryDry_17 {a b : Int} {l0 l1 l2 l3 : Option VV} (h : -2147483648 ≤ a ∧ a ≤ 2147483647) (h1 : -2147483648 ≤ b ∧ b ≤ 2147483647) {S : MM} : rn xX9_tryDry (17, [l0, l1, l2, l3], [vI b, vI a], S) = if a < b then rn xX9_tryDry (20, [l0, l1, l2, l3], [], S) else rn xX9_tryDry (37, [l0, l1, l2, l3], [], S) := q_icmp_ge dX9_tryDry_17 (by decide) rfl h h1
theorem eX9_tryDry_20 {a : Option Nat} {l1 l2 l3 : Option VV} {S : MM} : rn xX9_tryDry (20, [some (.inr (.inl a)), l1, l2, l3], [], S) = rn xX9_tryDry (21, [some (.inr (.inl a)), l1, l2, l3], [.inr (.inl a)], S) := rn_step dX9_tryDry_20 rfl rfl
theorem eX9_tryDry_21 {a : Int} {l0 l1 l3 : Option VV} {v0 : VV} {S : MM} : rn xX9_tryDry (21, [l0, l1, some (vI a), l3], [v0], S) = rn xX9_tryDry (22, [l0, l1, some (vI a), l3], [vI a, v0], S) := rn_step dX9_tryDry_21 rfl rfl
theorem eX9_tryDry_22 {a0 : Int} {l0 l1 l2 l3 : Option VV} {S : MM} : rn xX9_tryDry (22, [l0, l1, l2, l3], [vI a0, vR 593], S) = (fX9_wouldBeTooMany [vR 593, vI a0] S).bind (fun q => rn xX9_tryDry (25, [l0, l1, l2, l3], q.1.toList ++ [], q.2)) := q_callV (n := 1) (as := [vI a0]) (rest := []) dX9_tryDry_22 rfl rfl rfl rfl kd593
theorem eX9_tryDry_25 {a : Int} {l0 l1 l2 l3 : Option VV} (h : -2147483648 ≤ a ∧ a ≤ 2147483647) {S : MM} : rn xX9_tryDry (25, [l0, l1, l2, l3], [vI a], S) = if a = 0 then rn xX9_tryDry (31, [l0, l1, l2, l3], [], S) else rn xX9_tryDry (28, [l0, l1, l2, l3], [], S) := q_if_eq dX9_tryDry_25 (by decide) rfl h
theorem eX9_tryDry_28 {l0 l1 l2 l3 : Option VV} {S : MM} : rn xX9_tryDry (28, [l0, l1, l2, l3], [], S) = rn xX9_tryDry (30, [l0, l1, l2, l3], [vI (-4)], S) := rn_step dX9_tryDry_28 rfl rfl
theorem eX9_tryDry_30 {z : Int} {l0 l1 l2 l3 : Option VV} {S : MM} : rn xX9_tryDry (30, [l0, l1, l2, l3], [vI z], S) = some (some (vI z), S) := q_retI dX9_tryDry_30 rfl
theorem eX9_tryDry_31 {a : Int} {w : Int} {l0 l3 : Option VV} {S : MM} : rn xX9_tryDry (31, [l0, some (vI w), some (vI a), l3], [], S) = rn xX9_tryDry (34, [l0, some (vI w), some (vI (a + 1)), l3], [], S) := rn_step dX9_tryDry_31 rfl rfl
theorem eX9_tryDry_34 {l0 l1 l2 l3 : Option VV} {S : MM} : rn xX9_tryDry (34, [l0, l1, l2, l3], [], S) = rn xX9_tryDry (15, [l0, l1, l2, l3], [], S) := rn_step dX9_tryDry_34 rfl rfl
theorem eX9_tryDry_37 {a : Option Nat} {l1 l2 l3 : Option VV} {S : MM} : rn xX9_tryDry (37, [some (.inr (.inl a)), l1, l2, l3], [], S) = rn xX9_tryDry (38, [some (.inr (.inl a)), l1, l2, l3], [.inr (.inl a)], S) := rn_step dX9_tryDry_37 rfl rfl
theorem eX9_tryDry_38 {a : Int} {l0 l2 l3 : Option VV} {v0 : VV} {S : MM} : rn xX9_tryDry (38, [l0, some (vI a), l2, l3], [v0], S) = rn xX9_tryDry (39, [l0, some (vI a), l2, l3], [vI a, v0], S) := rn_step dX9_tryDry_38 rfl rfl
theorem eX9_tryDry_39 {a0 : Int} {l0 l1 l2 l3 : Option VV} {S : MM} : rn xX9_tryDry (39, [l0, l1, l2, l3], [vI a0, vR 593], S) = (fX9_keepIf [vR 593, vI a0] S).bind (fun q => rn xX9_tryDry (42, [l0, l1, l2, l3], q.1.toList ++ [], q.2)) := q_callV (n := 1) (as := [vI a0]) (rest := []) dX9_tryDry_39 rfl rfl rfl rfl kd593
theorem eX9_tryDry_42 {l0 l1 l2 l3 : Option VV} {S : MM} : rn xX9_tryDry (42, [l0, l1, l2, l3], [], S) = rn xX9_tryDry (43, [l0, l1, l2, l3], [vI 0], S) := rn_step dX9_tryDry_42 rfl rfl
theorem eX9_tryDry_43 {a : Int} {w : Int} {l0 l2 l3 : Option VV} {S : MM} : rn xX9_tryDry (43, [l0, some (vI w), l2, l3], [vI a], S) = rn xX9_tryDry (44, [l0, some (vI w), some (vI a), l3], [], S) := rn_step dX9_tryDry_43 rfl rfl
theorem eX9_tryDry_44 {l0 l1 l2 l3 : Option VV} {S : MM} : rn xX9_tryDry (44, [l0, l1, l2, l3], [], S) = rn xX9_tryDry (45, [l0, l1, l2, l3], [vI 0], S) := rn_step dX9_tryDry_44 rfl rfl
theorem eX9_tryDry_45 {a : Int} {w : Int} {l0 l1 l3 : Option VV} {S : MM} : rn xX9_tryDry (45, [l0, l1, some (vI w), l3], [vI a], S) = rn xX9_tryDry (46, [l0, l1, some (vI w), some (vI a)], [], S) := rn_step dX9_tryDry_45 rfl rfl
theorem eX9_tryDry_46 {a : Int} {l0 l1 l2 : Option VV} {S : MM} : rn xX9_tryDry (46, [l0, l1, l2, some (vI a)], [], S) = rn xX9_tryDry (47, [l0, l1, l2, some (vI a)], [vI a], S) := rn_step dX9_tryDry_46 rfl rfl
theorem eX9_tryDry_47 {l0 l1 l2 l3 : Option VV} {v0 : VV} {S : MM} : rn xX9_tryDry (47, [l0, l1, l2, l3], [v0], S) = rn xX9_tryDry (48, [l0, l1, l2, l3], [vI 3, v0], S) := rn_step dX9_tryDry_47 rfl rfl
theorem eX9_tryDry_48 {a b : Int} {l0 l1 l2 l3 : Option VV} (h : -2147483648 ≤ a ∧ a ≤ 2147483647) (h1 : -2147483648 ≤ b ∧ b ≤ 2147483647) {S : MM} : rn xX9_tryDry (48, [l0, l1, l2, l3], [vI b, vI a], S) = if a < b then rn xX9_tryDry (51, [l0, l1, l2, l3], [], S) else rn xX9_tryDry (65, [l0, l1, l2, l3], [], S) := q_icmp_ge dX9_tryDry_48 (by decide) rfl h h1
theorem eX9_tryDry_51 {a : Int} {l0 l1 l3 : Option VV} {S : MM} : rn xX9_tryDry (51, [l0, l1, some (vI a), l3], [], S) = rn xX9_tryDry (52, [l0, l1, some (vI a), l3], [vI a], S) := rn_step dX9_tryDry_51 rfl rfl
theorem eX9_tryDry_52 {a : Option Nat} {l1 l2 l3 : Option VV} {v0 : VV} {S : MM} : rn xX9_tryDry (52, [some (.inr (.inl a)), l1, l2, l3], [v0], S) = rn xX9_tryDry (53, [some (.inr (.inl a)), l1, l2, l3], [.inr (.inl a), v0], S) := rn_step dX9_tryDry_52 rfl rfl
theorem eX9_tryDry_53 {a : Int} {l0 l1 l2 : Option VV} {v0 v1 : VV} {S : MM} : rn xX9_tryDry (53, [l0, l1, l2, some (vI a)], [v0, v1], S) = rn xX9_tryDry (54, [l0, l1, l2, some (vI a)], [vI a, v0, v1], S) := rn_step dX9_tryDry_53 rfl rfl
theorem eX9_tryDry_54 {a0 : Int} {l0 l1 l2 l3 : Option VV} {v2 : VV} {S : MM} : rn xX9_tryDry (54, [l0, l1, l2, l3], [vI a0, vR 593, v2], S) = (fX9_giveBack [vR 593, vI a0] S).bind (fun q => rn xX9_tryDry (57, [l0, l1, l2, l3], q.1.toList ++ [v2], q.2)) := q_callV (n := 1) (as := [vI a0]) (rest := [v2]) dX9_tryDry_54 rfl rfl rfl rfl kd593
theorem eX9_tryDry_57 {a b : Int} {l0 l1 l2 l3 : Option VV} {S : MM} : rn xX9_tryDry (57, [l0, l1, l2, l3], [vI b, vI a], S) = rn xX9_tryDry (58, [l0, l1, l2, l3], [vI (a + b)], S) := rn_step dX9_tryDry_57 rfl rfl
theorem eX9_tryDry_58 {a : Int} {w : Int} {l0 l2 l3 : Option VV} {S : MM} : rn xX9_tryDry (58, [l0, some (vI w), l2, l3], [vI a], S) = rn xX9_tryDry (59, [l0, some (vI w), some (vI a), l3], [], S) := rn_step dX9_tryDry_58 rfl rfl
theorem eX9_tryDry_59 {a : Int} {w : Int} {l0 l1 : Option VV} {S : MM} : rn xX9_tryDry (59, [l0, l1, some (vI w), some (vI a)], [], S) = rn xX9_tryDry (62, [l0, l1, some (vI w), some (vI (a + 1))], [], S) := rn_step dX9_tryDry_59 rfl rfl
theorem eX9_tryDry_62 {l0 l1 l2 l3 : Option VV} {S : MM} : rn xX9_tryDry (62, [l0, l1, l2, l3], [], S) = rn xX9_tryDry (46, [l0, l1, l2, l3], [], S) := rn_step dX9_tryDry_62 rfl rfl
theorem eX9_tryDry_65 {a : Option Nat} {l1 l2 l3 : Option VV} {S : MM} : rn xX9_tryDry (65, [some (.inr (.inl a)), l1, l2, l3], [], S) = rn xX9_tryDry (66, [some (.inr (.inl a)), l1, l2, l3], [.inr (.inl a)], S) := rn_step dX9_tryDry_65 rfl rfl
theorem eX9_tryDry_66 {l0 l1 l2 l3 : Option VV} {S : MM} : rn xX9_tryDry (66, [l0, l1, l2, l3], [vR 593], S) = rn xX9_tryDry (69, [l0, l1, l2, l3], [vR 594], S) := q_getR dX9_tryDry_66 rfl ⟨⟨by decide, by decide⟩, by decide⟩ (fun _ => by decide +kernel) kd593
theorem eX9_tryDry_69 {l0 l1 l2 l3 : Option VV} {v0 : VV} {S : MM} : rn xX9_tryDry (69, [l0, l1, l2, l3], [v0], S) = rn xX9_tryDry (71, [l0, l1, l2, l3], [vI 7, v0], S) := rn_step dX9_tryDry_69 rfl rfl
theorem eX9_tryDry_71 {a : Int} {b : Option Nat} {l0 l1 l2 l3 : Option VV} {S : MM} : rn xX9_tryDry (71, [l0, l1, l2, l3], [vI a, .inr (.inl b)], S) = rn xX9_tryDry (72, [l0, l1, l2, l3], [vI a, .inr (.inl b), vI a, .inr (.inl b)], S) := rn_step dX9_tryDry_71 rfl rfl
theorem eX9_tryDry_72 {i : Nat} {j : Int} {l0 l1 l2 l3 : Option VV} {v2 v3 : VV} (h : kd i = 10) (h0 : 0 ≤ j) (h1 : j < alen i) {S : MM} : rn xX9_tryDry (72, [l0, l1, l2, l3], [vI j, vR i, v2, v3], S) = rn xX9_tryDry (73, [l0, l1, l2, l3], [vI (S i j.toNat), v2, v3], S) := q_iald dX9_tryDry_72 h h0 h1
theorem eX9_tryDry_72x {j : Int} {l0 l1 l2 l3 : Option VV} {v2 v3 : VV} {S : MM} (h0 : 0 ≤ j) (h1 : j < S 604 0) : rn xX9_tryDry (72, [l0, l1, l2, l3], [vI j, vR 602, v2, v3], S) = rn xX9_tryDry (73, [l0, l1, l2, l3], [vI (S 602 j.toNat), v2, v3], S) := q_ialdX dX9_tryDry_72 h0 h1
theorem eX9_tryDry_72y {j : Int} {l0 l1 l2 l3 : Option VV} {v2 v3 : VV} {S : MM} (h0 : 0 ≤ j) (h1 : j < S 604 1) : rn xX9_tryDry (72, [l0, l1, l2, l3], [vI j, vR 603, v2, v3], S) = rn xX9_tryDry (73, [l0, l1, l2, l3], [vI (S 603 j.toNat), v2, v3], S) := q_ialdY dX9_tryDry_72 h0 h1
theorem eX9_tryDry_73 {l0 l1 l2 l3 : Option VV} {v0 v1 v2 : VV} {S : MM} : rn xX9_tryDry (73, [l0, l1, l2, l3], [v0, v1, v2], S) = rn xX9_tryDry (74, [l0, l1, l2, l3], [vI 1, v0, v1, v2], S) := rn_step dX9_tryDry_73 rfl rfl
theorem eX9_tryDry_74 {a b : Int} {l0 l1 l2 l3 : Option VV} {v2 v3 : VV} {S : MM} : rn xX9_tryDry (74, [l0, l1, l2, l3], [vI b, vI a, v2, v3], S) = rn xX9_tryDry (75, [l0, l1, l2, l3], [vI (a - b), v2, v3], S) := rn_step dX9_tryDry_74 rfl rfl
theorem eX9_tryDry_75 {i : Nat} {j z : Int} {l0 l1 l2 l3 : Option VV} (h : kd i = 10) (h0 : 0 ≤ j) (h1 : j < alen i) {S : MM} : rn xX9_tryDry (75, [l0, l1, l2, l3], [vI z, vI j, vR i], S) = rn xX9_tryDry (76, [l0, l1, l2, l3], [], updM S i j.toNat z) := q_iast dX9_tryDry_75 h h0 h1
theorem eX9_tryDry_76 {a : Int} {l0 l1 l3 : Option VV} {S : MM} : rn xX9_tryDry (76, [l0, l1, some (vI a), l3], [], S) = rn xX9_tryDry (77, [l0, l1, some (vI a), l3], [vI a], S) := rn_step dX9_tryDry_76 rfl rfl
theorem eX9_tryDry_77 {z : Int} {l0 l1 l2 l3 : Option VV} {S : MM} : rn xX9_tryDry (77, [l0, l1, l2, l3], [vI z], S) = some (some (vI z), S) := q_retI dX9_tryDry_77 rfl
noncomputable def qlX9_dry : List CE := [(0, 166, 9, 2, fX9_tryDry)]
noncomputable def xX9_dry : XX := (cX9_dry, fcF fcl9, mcF qlX9_dry, 1)
noncomputable def fX9_dry : FN := fnX xX9_dry 1
set_option maxRecDepth 100000 in
theorem cwX9_dry : Cond.code yX9_dry cX9_dry 1 (some .int) ∈ lw_g := lw_gm 1094 (by decide +kernel) (by decide +kernel)
set_option maxRecDepth 100000 in
theorem conX9_dry : Con yX9_dry cX9_dry 1 (some .int) { frames := 4, cells := 0, slots := 0, locals := 91 } fX9_dry := con_of (X := xX9_dry) (own := "LeapStonesModel") (ql := qlX9_dry) (by decide) rfl FOK9 rfl (List.forall_mem_cons.mpr ⟨call_V conX9_tryDry cwX9_tryDry (lw_gl _ [1095, 1097, 48, 84] (by decide +kernel) (by decide +kernel)) (by decide) rfl ⟨by decide, by decide, by decide +kernel⟩ ⟨rfl, rfl⟩ ⟨by decide, by decide⟩ ⟨Nat.le_refl _, Nat.le_refl _⟩, fun _ h => absurd h List.not_mem_nil⟩) (Or.inr (Or.inl ⟨rfl, rfl⟩))
theorem uX9_dry {i : Nat} {S : MM} : fX9_dry [vR i] S = rn xX9_dry (0, [some (vR i)], [], S) := rfl
theorem dX9_dry_0 : decode cX9_dry 0 = .ok (.aload_n 0, 1) := by decide +kernel
theorem dX9_dry_1 : decode cX9_dry 1 = .ok (.iconst 1, 1) := by decide +kernel
theorem dX9_dry_2 : decode cX9_dry 2 = .ok (.invokevirtual 166, 3) := by decide +kernel
theorem dX9_dry_5 : decode cX9_dry 5 = .ok (.ireturn, 1) := by decide +kernel
theorem eX9_dry_0 {a : Option Nat} {S : MM} : rn xX9_dry (0, [some (.inr (.inl a))], [], S) = rn xX9_dry (1, [some (.inr (.inl a))], [.inr (.inl a)], S) := rn_step dX9_dry_0 rfl rfl
theorem eX9_dry_1 {l0 : Option VV} {v0 : VV} {S : MM} : rn xX9_dry (1, [l0], [v0], S) = rn xX9_dry (2, [l0], [vI 1, v0], S) := rn_step dX9_dry_1 rfl rfl
theorem eX9_dry_2 {a0 : Int} {l0 : Option VV} {S : MM} : rn xX9_dry (2, [l0], [vI a0, vR 593], S) = (fX9_tryDry [vR 593, vI a0] S).bind (fun q => rn xX9_dry (5, [l0], q.1.toList ++ [], q.2)) := q_callV (n := 1) (as := [vI a0]) (rest := []) dX9_dry_2 rfl rfl rfl rfl kd593
theorem eX9_dry_5 {z : Int} {l0 : Option VV} {S : MM} : rn xX9_dry (5, [l0], [vI z], S) = some (some (vI z), S) := q_retI dX9_dry_5 rfl
noncomputable def qlX9_placeOf : List CE := [(0, 57, 9, 2, fX9_stands), (0, 39, 9, 3, fX9_repeats)]
noncomputable def xX9_placeOf : XX := (cX9_placeOf, fcF fcl9, mcF qlX9_placeOf, 1)
noncomputable def fX9_placeOf : FN := fnX xX9_placeOf 4
set_option maxRecDepth 100000 in
theorem cwX9_placeOf : Cond.code yX9_placeOf cX9_placeOf 4 (some .int) ∈ lw_g := lw_gm 1122 (by decide +kernel) (by decide +kernel)
set_option maxRecDepth 100000 in
theorem conX9_placeOf : Con yX9_placeOf cX9_placeOf 4 (some .int) { frames := 1, cells := 0, slots := 0, locals := 22 } fX9_placeOf := con_of (X := xX9_placeOf) (own := "LeapStonesModel") (ql := qlX9_placeOf) (by decide) rfl FOK9 rfl (List.forall_mem_cons.mpr ⟨call_V conX9_stands cwX9_stands (lw_gl _ [975, 977, 27, 84] (by decide +kernel) (by decide +kernel)) (by decide) rfl ⟨by decide, by decide, by decide +kernel⟩ ⟨rfl, rfl⟩ ⟨by decide, by decide⟩ ⟨Nat.le_refl _, Nat.le_refl _⟩, List.forall_mem_cons.mpr ⟨call_V conX9_repeats cwX9_repeats (lw_gl _ [959, 961, 23, 84] (by decide +kernel) (by decide +kernel)) (by decide) rfl ⟨by decide, by decide, by decide +kernel⟩ ⟨rfl, rfl⟩ ⟨by decide, by decide⟩ ⟨Nat.le_refl _, Nat.le_refl _⟩, fun _ h => absurd h List.not_mem_nil⟩⟩) (Or.inr (Or.inl ⟨rfl, rfl⟩))
theorem uX9_placeOf {i : Nat} {a0 : Int} {S : MM} : fX9_placeOf [vR i, vI a0] S = rn xX9_placeOf (0, [some (vR i), some (vI a0), none, none], [], S) := rfl
theorem dX9_placeOf_0 : decode cX9_placeOf 0 = .ok (.iconst 0, 1) := by decide +kernel
theorem dX9_placeOf_1 : decode cX9_placeOf 1 = .ok (.istore_n 2, 1) := by decide +kernel
theorem dX9_placeOf_2 : decode cX9_placeOf 2 = .ok (.iconst 0, 1) := by decide +kernel
theorem dX9_placeOf_3 : decode cX9_placeOf 3 = .ok (.istore_n 3, 1) := by decide +kernel
theorem dX9_placeOf_4 : decode cX9_placeOf 4 = .ok (.iload_n 3, 1) := by decide +kernel
theorem dX9_placeOf_5 : decode cX9_placeOf 5 = .ok (.aload_n 0, 1) := by decide +kernel
theorem dX9_placeOf_6 : decode cX9_placeOf 6 = .ok (.iload_n 1, 1) := by decide +kernel
theorem dX9_placeOf_7 : decode cX9_placeOf 7 = .ok (.invokevirtual 57, 3) := by decide +kernel
theorem dX9_placeOf_10 : decode cX9_placeOf 10 = .ok (.if_icmp .ge 26, 3) := by decide +kernel
theorem dX9_placeOf_13 : decode cX9_placeOf 13 = .ok (.iload_n 2, 1) := by decide +kernel
theorem dX9_placeOf_14 : decode cX9_placeOf 14 = .ok (.aload_n 0, 1) := by decide +kernel
theorem dX9_placeOf_15 : decode cX9_placeOf 15 = .ok (.iload_n 1, 1) := by decide +kernel
theorem dX9_placeOf_16 : decode cX9_placeOf 16 = .ok (.iload_n 3, 1) := by decide +kernel
theorem dX9_placeOf_17 : decode cX9_placeOf 17 = .ok (.invokevirtual 39, 3) := by decide +kernel
theorem dX9_placeOf_20 : decode cX9_placeOf 20 = .ok (.ifCond .le 7, 3) := by decide +kernel
theorem dX9_placeOf_23 : decode cX9_placeOf 23 = .ok (.iconst 1, 1) := by decide +kernel
theorem dX9_placeOf_24 : decode cX9_placeOf 24 = .ok (.goto 4, 3) := by decide +kernel
theorem dX9_placeOf_27 : decode cX9_placeOf 27 = .ok (.iconst 0, 1) := by decide +kernel
theorem dX9_placeOf_28 : decode cX9_placeOf 28 = .ok (.iadd, 1) := by decide +kernel
theorem dX9_placeOf_29 : decode cX9_placeOf 29 = .ok (.istore_n 2, 1) := by decide +kernel
theorem dX9_placeOf_30 : decode cX9_placeOf 30 = .ok (.iinc 3 1, 3) := by decide +kernel
theorem dX9_placeOf_33 : decode cX9_placeOf 33 = .ok (.goto (-29), 3) := by decide +kernel
theorem dX9_placeOf_36 : decode cX9_placeOf 36 = .ok (.iload_n 2, 1) := by decide +kernel
theorem dX9_placeOf_37 : decode cX9_placeOf 37 = .ok (.ireturn, 1) := by decide +kernel
theorem eX9_placeOf_0 {l0 l1 l2 l3 : Option VV} {S : MM} : rn xX9_placeOf (0, [l0, l1, l2, l3], [], S) = rn xX9_placeOf (1, [l0, l1, l2, l3], [vI 0], S) := rn_step dX9_placeOf_0 rfl rfl
theorem eX9_placeOf_1 {a : Int} {w : Int} {l0 l2 l3 : Option VV} {S : MM} : rn xX9_placeOf (1, [l0, some (vI w), l2, l3], [vI a], S) = rn xX9_placeOf (2, [l0, some (vI w), some (vI a), l3], [], S) := rn_step dX9_placeOf_1 rfl rfl
theorem eX9_placeOf_2 {l0 l1 l2 l3 : Option VV} {S : MM} : rn xX9_placeOf (2, [l0, l1, l2, l3], [], S) = rn xX9_placeOf (3, [l0, l1, l2, l3], [vI 0], S) := rn_step dX9_placeOf_2 rfl rfl
theorem eX9_placeOf_3 {a : Int} {w : Int} {l0 l1 l3 : Option VV} {S : MM} : rn xX9_placeOf (3, [l0, l1, some (vI w), l3], [vI a], S) = rn xX9_placeOf (4, [l0, l1, some (vI w), some (vI a)], [], S) := rn_step dX9_placeOf_3 rfl rfl
theorem eX9_placeOf_4 {a : Int} {l0 l1 l2 : Option VV} {S : MM} : rn xX9_placeOf (4, [l0, l1, l2, some (vI a)], [], S) = rn xX9_placeOf (5, [l0, l1, l2, some (vI a)], [vI a], S) := rn_step dX9_placeOf_4 rfl rfl
theorem eX9_placeOf_5 {a : Option Nat} {l1 l2 l3 : Option VV} {v0 : VV} {S : MM} : rn xX9_placeOf (5, [some (.inr (.inl a)), l1, l2, l3], [v0], S) = rn xX9_placeOf (6, [some (.inr (.inl a)), l1, l2, l3], [.inr (.inl a), v0], S) := rn_step dX9_placeOf_5 rfl rfl
theorem eX9_placeOf_6 {a : Int} {l0 l2 l3 : Option VV} {v0 v1 : VV} {S : MM} : rn xX9_placeOf (6, [l0, some (vI a), l2, l3], [v0, v1], S) = rn xX9_placeOf (7, [l0, some (vI a), l2, l3], [vI a, v0, v1], S) := rn_step dX9_placeOf_6 rfl rfl
theorem eX9_placeOf_7 {a0 : Int} {l0 l1 l2 l3 : Option VV} {v2 : VV} {S : MM} : rn xX9_placeOf (7, [l0, l1, l2, l3], [vI a0, vR 593, v2], S) = (fX9_stands [vR 593, vI a0] S).bind (fun q => rn xX9_placeOf (10, [l0, l1, l2, l3], q.1.toList ++ [v2], q.2)) := q_callV (n := 1) (as := [vI a0]) (rest := [v2]) dX9_placeOf_7 rfl rfl rfl rfl kd593
theorem eX9_placeOf_10 {a b : Int} {l0 l1 l2 l3 : Option VV} (h : -2147483648 ≤ a ∧ a ≤ 2147483647) (h1 : -2147483648 ≤ b ∧ b ≤ 2147483647) {S : MM} : rn xX9_placeOf (10, [l0, l1, l2, l3], [vI b, vI a], S) = if a < b then rn xX9_placeOf (13, [l0, l1, l2, l3], [], S) else rn xX9_placeOf (36, [l0, l1, l2, l3], [], S) := q_icmp_ge dX9_placeOf_10 (by decide) rfl h h1
theorem eX9_placeOf_13 {a : Int} {l0 l1 l3 : Option VV} {S : MM} : rn xX9_placeOf (13, [l0, l1, some (vI a), l3], [], S) = rn xX9_placeOf (14, [l0, l1, some (vI a), l3], [vI a], S) := rn_step dX9_placeOf_13 rfl rfl
theorem eX9_placeOf_14 {a : Option Nat} {l1 l2 l3 : Option VV} {v0 : VV} {S : MM} : rn xX9_placeOf (14, [some (.inr (.inl a)), l1, l2, l3], [v0], S) = rn xX9_placeOf (15, [some (.inr (.inl a)), l1, l2, l3], [.inr (.inl a), v0], S) := rn_step dX9_placeOf_14 rfl rfl
theorem eX9_placeOf_15 {a : Int} {l0 l2 l3 : Option VV} {v0 v1 : VV} {S : MM} : rn xX9_placeOf (15, [l0, some (vI a), l2, l3], [v0, v1], S) = rn xX9_placeOf (16, [l0, some (vI a), l2, l3], [vI a, v0, v1], S) := rn_step dX9_placeOf_15 rfl rfl
theorem eX9_placeOf_16 {a : Int} {l0 l1 l2 : Option VV} {v0 v1 v2 : VV} {S : MM} : rn xX9_placeOf (16, [l0, l1, l2, some (vI a)], [v0, v1, v2], S) = rn xX9_placeOf (17, [l0, l1, l2, some (vI a)], [vI a, v0, v1, v2], S) := rn_step dX9_placeOf_16 rfl rfl
theorem eX9_placeOf_17 {a0 : Int} {a1 : Int} {l0 l1 l2 l3 : Option VV} {v3 : VV} {S : MM} : rn xX9_placeOf (17, [l0, l1, l2, l3], [vI a1, vI a0, vR 593, v3], S) = (fX9_repeats [vR 593, vI a0, vI a1] S).bind (fun q => rn xX9_placeOf (20, [l0, l1, l2, l3], q.1.toList ++ [v3], q.2)) := q_callV (n := 2) (as := [vI a0, vI a1]) (rest := [v3]) dX9_placeOf_17 rfl rfl rfl rfl kd593
theorem eX9_placeOf_20 {a : Int} {l0 l1 l2 l3 : Option VV} {v1 : VV} (h : -2147483648 ≤ a ∧ a ≤ 2147483647) {S : MM} : rn xX9_placeOf (20, [l0, l1, l2, l3], [vI a, v1], S) = if 0 < a then rn xX9_placeOf (23, [l0, l1, l2, l3], [v1], S) else rn xX9_placeOf (27, [l0, l1, l2, l3], [v1], S) := q_if_le dX9_placeOf_20 (by decide) rfl h
theorem eX9_placeOf_23 {l0 l1 l2 l3 : Option VV} {v0 : VV} {S : MM} : rn xX9_placeOf (23, [l0, l1, l2, l3], [v0], S) = rn xX9_placeOf (24, [l0, l1, l2, l3], [vI 1, v0], S) := rn_step dX9_placeOf_23 rfl rfl
theorem eX9_placeOf_24 {l0 l1 l2 l3 : Option VV} {v0 v1 : VV} {S : MM} : rn xX9_placeOf (24, [l0, l1, l2, l3], [v0, v1], S) = rn xX9_placeOf (28, [l0, l1, l2, l3], [v0, v1], S) := rn_step dX9_placeOf_24 rfl rfl
theorem eX9_placeOf_27 {l0 l1 l2 l3 : Option VV} {v0 : VV} {S : MM} : rn xX9_placeOf (27, [l0, l1, l2, l3], [v0], S) = rn xX9_placeOf (28, [l0, l1, l2, l3], [vI 0, v0], S) := rn_step dX9_placeOf_27 rfl rfl
theorem eX9_placeOf_28 {a b : Int} {l0 l1 l2 l3 : Option VV} {S : MM} : rn xX9_placeOf (28, [l0, l1, l2, l3], [vI b, vI a], S) = rn xX9_placeOf (29, [l0, l1, l2, l3], [vI (a + b)], S) := rn_step dX9_placeOf_28 rfl rfl
theorem eX9_placeOf_29 {a : Int} {w : Int} {l0 l2 l3 : Option VV} {S : MM} : rn xX9_placeOf (29, [l0, some (vI w), l2, l3], [vI a], S) = rn xX9_placeOf (30, [l0, some (vI w), some (vI a), l3], [], S) := rn_step dX9_placeOf_29 rfl rfl
theorem eX9_placeOf_30 {a : Int} {w : Int} {l0 l1 : Option VV} {S : MM} : rn xX9_placeOf (30, [l0, l1, some (vI w), some (vI a)], [], S) = rn xX9_placeOf (33, [l0, l1, some (vI w), some (vI (a + 1))], [], S) := rn_step dX9_placeOf_30 rfl rfl
theorem eX9_placeOf_33 {l0 l1 l2 l3 : Option VV} {S : MM} : rn xX9_placeOf (33, [l0, l1, l2, l3], [], S) = rn xX9_placeOf (4, [l0, l1, l2, l3], [], S) := rn_step dX9_placeOf_33 rfl rfl
theorem eX9_placeOf_36 {a : Int} {l0 l1 l3 : Option VV} {S : MM} : rn xX9_placeOf (36, [l0, l1, some (vI a), l3], [], S) = rn xX9_placeOf (37, [l0, l1, some (vI a), l3], [vI a], S) := rn_step dX9_placeOf_36 rfl rfl
theorem eX9_placeOf_37 {z : Int} {l0 l1 l2 l3 : Option VV} {S : MM} : rn xX9_placeOf (37, [l0, l1, l2, l3], [vI z], S) = some (some (vI z), S) := q_retI dX9_placeOf_37 rfl

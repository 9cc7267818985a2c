/-! the law's own methods -/
noncomputable def qlL_sound : List CE := [(0, 58, 8, 2, fX8_ofRun), (0, 50, 8, 3, fX8_ofWalker), (0, 55, 8, 4, fX8_ofStone), (1, 69, 0, 3, fL_repeats), (1, 65, 0, 3, fL_from), (0, 62, 8, 2, fX8_count), (0, 88, 8, 1, fX8_leap), (0, 91, 8, 1, fX8_run), (0, 99, 8, 3, fX8_meeting)]
noncomputable def xL_sound : XX := (cL_sound, fcF fclL, mcF qlL_sound, 2)
noncomputable def fL_sound : FN := fnX xL_sound 9
set_option maxRecDepth 100000 in
theorem cwL_sound : Cond.code yL_sound cL_sound 9 (some .boolean) ∈ lw_g := lw_gm 797 (by exact rfl) (by decide +kernel)
set_option maxRecDepth 100000 in
theorem conL_sound : Con yL_sound cL_sound 9 (some .boolean) { frames := 8, cells := 0, slots := 0, locals := 177 } fL_sound := con_of (X := xL_sound) (own := "LeapStonesLaw") (ql := qlL_sound) (by decide) rfl FOKL rfl (List.forall_mem_cons.mpr ⟨call_V conX8_ofRun cwX8_ofRun (lw_gl _ [498, 499, 500, 21] (by decide +kernel) (by decide +kernel)) (by decide) rfl ⟨by decide, by decide, by decide +kernel⟩ ⟨rfl, rfl⟩ ⟨by decide, by decide⟩ ⟨Nat.le_refl _, Nat.le_refl _⟩, List.forall_mem_cons.mpr ⟨call_V conX8_ofWalker cwX8_ofWalker (lw_gl _ [392, 393, 394, 21] (by decide +kernel) (by decide +kernel)) (by decide) rfl ⟨by decide, by decide, by decide +kernel⟩ ⟨rfl, rfl⟩ ⟨by decide, by decide⟩ ⟨Nat.le_refl _, Nat.le_refl _⟩, List.forall_mem_cons.mpr ⟨call_V conX8_ofStone cwX8_ofStone (lw_gl _ [416, 417, 418, 21] (by decide +kernel) (by decide +kernel)) (by decide) rfl ⟨by decide, by decide, by decide +kernel⟩ ⟨rfl, rfl⟩ ⟨by decide, by decide⟩ ⟨Nat.le_refl _, Nat.le_refl _⟩, List.forall_mem_cons.mpr ⟨call_S conL_repeats cwL_repeats (lw_gl _ [386, 387, 20] (by decide +kernel) (by decide +kernel)) ⟨by decide, by decide, by decide +kernel⟩ ⟨rfl, rfl⟩ ⟨by decide, by decide⟩ ⟨Nat.le_refl _, Nat.le_refl _⟩, List.forall_mem_cons.mpr ⟨call_S conL_from cwL_from (lw_gl _ [389, 390, 20] (by decide +kernel) (by decide +kernel)) ⟨by decide, by decide, by decide +kernel⟩ ⟨rfl, rfl⟩ ⟨by decide, by decide⟩ ⟨Nat.le_refl _, Nat.le_refl _⟩, List.forall_mem_cons.mpr ⟨call_V conX8_count cwX8_count (lw_gl _ [518, 519, 520, 21] (by decide +kernel) (by decide +kernel)) (by decide) rfl ⟨by decide, by decide, by decide +kernel⟩ ⟨rfl, rfl⟩ ⟨by decide, by decide⟩ ⟨Nat.le_refl _, Nat.le_refl _⟩, List.forall_mem_cons.mpr ⟨call_V conX8_leap cwX8_leap (lw_gl _ [602, 603, 604, 21] (by decide +kernel) (by decide +kernel)) (by decide) rfl ⟨by decide, by decide, by decide +kernel⟩ ⟨rfl, rfl⟩ ⟨by decide, by decide⟩ ⟨Nat.le_refl _, Nat.le_refl _⟩, List.forall_mem_cons.mpr ⟨call_V conX8_run cwX8_run (lw_gl _ [641, 642, 643, 21] (by decide +kernel) (by decide +kernel)) (by decide) rfl ⟨by decide, by decide, by decide +kernel⟩ ⟨rfl, rfl⟩ ⟨by decide, by decide⟩ ⟨Nat.le_refl _, Nat.le_refl _⟩, List.forall_mem_cons.mpr ⟨call_V conX8_meeting cwX8_meeting (lw_gl _ [653, 654, 655, 21] (by decide +kernel) (by decide +kernel)) (by decide) rfl ⟨by decide, by decide, by decide +kernel⟩ ⟨rfl, rfl⟩ ⟨by decide, by decide⟩ ⟨Nat.le_refl _, Nat.le_refl _⟩, fun _ h => absurd h List.not_mem_nil⟩⟩⟩⟩⟩⟩⟩⟩⟩) (Or.inr (Or.inr (Or.inl ⟨rfl, rfl⟩)))
theorem uL_sound {a0 : Option Nat} {S : MM} : fL_sound [.inr (.inl a0)] S = rn xL_sound (0, [some (.inr (.inl a0)), none, none, none, none, none, none, none, none], [], S) := rfl
set_option maxRecDepth 100000 in
theorem eL_sound_0 {l0 l1 l2 l3 l4 l5 l6 l7 l8 : Option VV} {S : MM} : rn xL_sound (0, [l0, l1, l2, l3, l4, l5, l6, l7, l8], [], S) = rn xL_sound (1, [l0, l1, l2, l3, l4, l5, l6, l7, l8], [vI 0], S) := rn_step dL_sound_0 rfl rfl
set_option maxRecDepth 100000 in
theorem eL_sound_1 {a : Int} {w : Option Nat} {l1 l2 l3 l4 l5 l6 l7 l8 : Option VV} {S : MM} : rn xL_sound (1, [some (.inr (.inl w)), l1, l2, l3, l4, l5, l6, l7, l8], [vI a], S) = rn xL_sound (2, [some (.inr (.inl w)), some (vI a), l2, l3, l4, l5, l6, l7, l8], [], S) := rn_step dL_sound_1 rfl rfl
set_option maxRecDepth 100000 in
theorem eL_sound_2 {l0 l1 l2 l3 l4 l5 l6 l7 l8 : Option VV} {S : MM} : rn xL_sound (2, [l0, l1, l2, l3, l4, l5, l6, l7, l8], [], S) = rn xL_sound (3, [l0, l1, l2, l3, l4, l5, l6, l7, l8], [vI 0], S) := rn_step dL_sound_2 rfl rfl
set_option maxRecDepth 100000 in
theorem eL_sound_3 {a : Int} {w : Int} {l0 l2 l3 l4 l5 l6 l7 l8 : Option VV} {S : MM} : rn xL_sound (3, [l0, some (vI w), l2, l3, l4, l5, l6, l7, l8], [vI a], S) = rn xL_sound (4, [l0, some (vI w), some (vI a), l3, l4, l5, l6, l7, l8], [], S) := rn_step dL_sound_3 rfl rfl
set_option maxRecDepth 100000 in
theorem eL_sound_4 {l0 l1 l2 l3 l4 l5 l6 l7 l8 : Option VV} {S : MM} : rn xL_sound (4, [l0, l1, l2, l3, l4, l5, l6, l7, l8], [], S) = rn xL_sound (5, [l0, l1, l2, l3, l4, l5, l6, l7, l8], [vI 0], S) := rn_step dL_sound_4 rfl rfl
set_option maxRecDepth 100000 in
theorem eL_sound_5 {a : Int} {w : Int} {l0 l1 l3 l4 l5 l6 l7 l8 : Option VV} {S : MM} : rn xL_sound (5, [l0, l1, some (vI w), l3, l4, l5, l6, l7, l8], [vI a], S) = rn xL_sound (6, [l0, l1, some (vI w), some (vI a), l4, l5, l6, l7, l8], [], S) := rn_step dL_sound_5 rfl rfl
set_option maxRecDepth 100000 in
theorem eL_sound_6 {l0 l1 l2 l3 l4 l5 l6 l7 l8 : Option VV} {S : MM} : rn xL_sound (6, [l0, l1, l2, l3, l4, l5, l6, l7, l8], [], S) = rn xL_sound (7, [l0, l1, l2, l3, l4, l5, l6, l7, l8], [vI 0], S) := rn_step dL_sound_6 rfl rfl
set_option maxRecDepth 100000 in
theorem eL_sound_7 {a : Int} {w : Int} {l0 l1 l2 l4 l5 l6 l7 l8 : Option VV} {S : MM} : rn xL_sound (7, [l0, l1, l2, some (vI w), l4, l5, l6, l7, l8], [vI a], S) = rn xL_sound (9, [l0, l1, l2, some (vI w), some (vI a), l5, l6, l7, l8], [], S) := rn_step dL_sound_7 rfl rfl
set_option maxRecDepth 100000 in
theorem eL_sound_9 {a : Option Nat} {l1 l2 l3 l4 l5 l6 l7 l8 : Option VV} {S : MM} : rn xL_sound (9, [some (.inr (.inl a)), l1, l2, l3, l4, l5, l6, l7, l8], [], S) = rn xL_sound (10, [some (.inr (.inl a)), l1, l2, l3, l4, l5, l6, l7, l8], [.inr (.inl a)], S) := rn_step dL_sound_9 rfl rfl
set_option maxRecDepth 100000 in
theorem eL_sound_10 {l0 l1 l2 l3 l4 l5 l6 l7 l8 : Option VV} {v0 : VV} {S : MM} : rn xL_sound (10, [l0, l1, l2, l3, l4, l5, l6, l7, l8], [v0], S) = rn xL_sound (11, [l0, l1, l2, l3, l4, l5, l6, l7, l8], [vI 0, v0], S) := rn_step dL_sound_10 rfl rfl
set_option maxRecDepth 100000 in
theorem eL_sound_11 {a0 : Int} {l0 l1 l2 l3 l4 l5 l6 l7 l8 : Option VV} {S : MM} : rn xL_sound (11, [l0, l1, l2, l3, l4, l5, l6, l7, l8], [vI a0, vR 0], S) = (fX8_ofRun [vR 0, vI a0] S).bind (fun q => rn xL_sound (14, [l0, l1, l2, l3, l4, l5, l6, l7, l8], q.1.toList ++ [], q.2)) := q_callV (n := 1) (as := [vI a0]) (rest := []) dL_sound_11 rfl rfl rfl rfl kd0
set_option maxRecDepth 100000 in
theorem eL_sound_14 {a : Int} {w : Int} {l0 l1 l2 l3 l5 l6 l7 l8 : Option VV} {S : MM} : rn xL_sound (14, [l0, l1, l2, l3, some (vI w), l5, l6, l7, l8], [vI a], S) = rn xL_sound (16, [l0, l1, l2, l3, some (vI w), some (vI a), l6, l7, l8], [], S) := rn_step dL_sound_14 rfl rfl
set_option maxRecDepth 100000 in
theorem eL_sound_16 {l0 l1 l2 l3 l4 l5 l6 l7 l8 : Option VV} {S : MM} : rn xL_sound (16, [l0, l1, l2, l3, l4, l5, l6, l7, l8], [], S) = rn xL_sound (17, [l0, l1, l2, l3, l4, l5, l6, l7, l8], [vI 0], S) := rn_step dL_sound_16 rfl rfl
set_option maxRecDepth 100000 in
theorem eL_sound_17 {a : Int} {w : Int} {l0 l1 l2 l3 l4 l6 l7 l8 : Option VV} {S : MM} : rn xL_sound (17, [l0, l1, l2, l3, l4, some (vI w), l6, l7, l8], [vI a], S) = rn xL_sound (19, [l0, l1, l2, l3, l4, some (vI w), some (vI a), l7, l8], [], S) := rn_step dL_sound_17 rfl rfl
set_option maxRecDepth 100000 in
theorem eL_sound_19 {a : Int} {l0 l1 l2 l3 l4 l5 l7 l8 : Option VV} {S : MM} : rn xL_sound (19, [l0, l1, l2, l3, l4, l5, some (vI a), l7, l8], [], S) = rn xL_sound (21, [l0, l1, l2, l3, l4, l5, some (vI a), l7, l8], [vI a], S) := rn_step dL_sound_19 rfl rfl
set_option maxRecDepth 100000 in
theorem eL_sound_21 {l0 l1 l2 l3 l4 l5 l6 l7 l8 : Option VV} {v0 : VV} {S : MM} : rn xL_sound (21, [l0, l1, l2, l3, l4, l5, l6, l7, l8], [v0], S) = rn xL_sound (22, [l0, l1, l2, l3, l4, l5, l6, l7, l8], [vI 3, v0], S) := rn_step dL_sound_21 rfl rfl
set_option maxRecDepth 100000 in
theorem eL_sound_22 {a b : Int} {l0 l1 l2 l3 l4 l5 l6 l7 l8 : Option VV} (h : -2147483648 ≤ a ∧ a ≤ 2147483647) (h1 : -2147483648 ≤ b ∧ b ≤ 2147483647) {S : MM} : rn xL_sound (22, [l0, l1, l2, l3, l4, l5, l6, l7, l8], [vI b, vI a], S) = if a < b then rn xL_sound (25, [l0, l1, l2, l3, l4, l5, l6, l7, l8], [], S) else rn xL_sound (296, [l0, l1, l2, l3, l4, l5, l6, l7, l8], [], S) := q_icmp_ge dL_sound_22 (by decide) rfl h h1
set_option maxRecDepth 100000 in
theorem eL_sound_25 {a : Option Nat} {l1 l2 l3 l4 l5 l6 l7 l8 : Option VV} {S : MM} : rn xL_sound (25, [some (.inr (.inl a)), l1, l2, l3, l4, l5, l6, l7, l8], [], S) = rn xL_sound (26, [some (.inr (.inl a)), l1, l2, l3, l4, l5, l6, l7, l8], [.inr (.inl a)], S) := rn_step dL_sound_25 rfl rfl
set_option maxRecDepth 100000 in
theorem eL_sound_26 {a : Int} {l0 l1 l2 l3 l4 l5 l7 l8 : Option VV} {v0 : VV} {S : MM} : rn xL_sound (26, [l0, l1, l2, l3, l4, l5, some (vI a), l7, l8], [v0], S) = rn xL_sound (28, [l0, l1, l2, l3, l4, l5, some (vI a), l7, l8], [vI a, v0], S) := rn_step dL_sound_26 rfl rfl
set_option maxRecDepth 100000 in
theorem eL_sound_28 {l0 l1 l2 l3 l4 l5 l6 l7 l8 : Option VV} {v0 v1 : VV} {S : MM} : rn xL_sound (28, [l0, l1, l2, l3, l4, l5, l6, l7, l8], [v0, v1], S) = rn xL_sound (29, [l0, l1, l2, l3, l4, l5, l6, l7, l8], [vI 0, v0, v1], S) := rn_step dL_sound_28 rfl rfl
set_option maxRecDepth 100000 in
theorem eL_sound_29 {a0 : Int} {a1 : Int} {l0 l1 l2 l3 l4 l5 l6 l7 l8 : Option VV} {S : MM} : rn xL_sound (29, [l0, l1, l2, l3, l4, l5, l6, l7, l8], [vI a1, vI a0, vR 0], S) = (fX8_ofWalker [vR 0, vI a0, vI a1] S).bind (fun q => rn xL_sound (32, [l0, l1, l2, l3, l4, l5, l6, l7, l8], q.1.toList ++ [], q.2)) := q_callV (n := 2) (as := [vI a0, vI a1]) (rest := []) dL_sound_29 rfl rfl rfl rfl kd0
set_option maxRecDepth 100000 in
theorem eL_sound_32 {a : Int} {w : Int} {l0 l1 l2 l3 l4 l5 l7 l8 : Option VV} {S : MM} : rn xL_sound (32, [l0, l1, l2, l3, l4, l5, some (vI w), l7, l8], [vI a], S) = rn xL_sound (34, [l0, l1, l2, l3, l4, l5, some (vI w), some (vI a), l8], [], S) := rn_step dL_sound_32 rfl rfl
set_option maxRecDepth 100000 in
theorem eL_sound_34 {a : Int} {l0 l2 l3 l4 l5 l6 l7 l8 : Option VV} {S : MM} : rn xL_sound (34, [l0, some (vI a), l2, l3, l4, l5, l6, l7, l8], [], S) = rn xL_sound (35, [l0, some (vI a), l2, l3, l4, l5, l6, l7, l8], [vI a], S) := rn_step dL_sound_34 rfl rfl
set_option maxRecDepth 100000 in
theorem eL_sound_35 {a : Int} {l0 l1 l2 l3 l4 l5 l6 l8 : Option VV} {v0 : VV} {S : MM} : rn xL_sound (35, [l0, l1, l2, l3, l4, l5, l6, some (vI a), l8], [v0], S) = rn xL_sound (37, [l0, l1, l2, l3, l4, l5, l6, some (vI a), l8], [vI a, v0], S) := rn_step dL_sound_35 rfl rfl
set_option maxRecDepth 100000 in
theorem eL_sound_37 {a b : Int} {l0 l1 l2 l3 l4 l5 l6 l7 l8 : Option VV} {S : MM} : rn xL_sound (37, [l0, l1, l2, l3, l4, l5, l6, l7, l8], [vI b, vI a], S) = rn xL_sound (38, [l0, l1, l2, l3, l4, l5, l6, l7, l8], [vI (a + b)], S) := rn_step dL_sound_37 rfl rfl
set_option maxRecDepth 100000 in
theorem eL_sound_38 {a : Int} {w : Option Nat} {l1 l2 l3 l4 l5 l6 l7 l8 : Option VV} {S : MM} : rn xL_sound (38, [some (.inr (.inl w)), l1, l2, l3, l4, l5, l6, l7, l8], [vI a], S) = rn xL_sound (39, [some (.inr (.inl w)), some (vI a), l2, l3, l4, l5, l6, l7, l8], [], S) := rn_step dL_sound_38 rfl rfl
set_option maxRecDepth 100000 in
theorem eL_sound_39 {a : Int} {l0 l1 l2 l3 l4 l5 l6 l8 : Option VV} {S : MM} : rn xL_sound (39, [l0, l1, l2, l3, l4, l5, l6, some (vI a), l8], [], S) = rn xL_sound (41, [l0, l1, l2, l3, l4, l5, l6, some (vI a), l8], [vI a], S) := rn_step dL_sound_39 rfl rfl
set_option maxRecDepth 100000 in
theorem eL_sound_41 {l0 l1 l2 l3 l4 l5 l6 l7 l8 : Option VV} {v0 : VV} {S : MM} : rn xL_sound (41, [l0, l1, l2, l3, l4, l5, l6, l7, l8], [v0], S) = rn xL_sound (43, [l0, l1, l2, l3, l4, l5, l6, l7, l8], [vI 40, v0], S) := rn_step dL_sound_41 rfl rfl
set_option maxRecDepth 100000 in
theorem eL_sound_43 {a b : Int} {l0 l1 l2 l3 l4 l5 l6 l7 l8 : Option VV} (h : -2147483648 ≤ a ∧ a ≤ 2147483647) (h1 : -2147483648 ≤ b ∧ b ≤ 2147483647) {S : MM} : rn xL_sound (43, [l0, l1, l2, l3, l4, l5, l6, l7, l8], [vI b, vI a], S) = if b < a then rn xL_sound (59, [l0, l1, l2, l3, l4, l5, l6, l7, l8], [], S) else rn xL_sound (46, [l0, l1, l2, l3, l4, l5, l6, l7, l8], [], S) := q_icmp_gt dL_sound_43 (by decide) rfl h h1
set_option maxRecDepth 100000 in
theorem eL_sound_46 {a : Option Nat} {l1 l2 l3 l4 l5 l6 l7 l8 : Option VV} {S : MM} : rn xL_sound (46, [some (.inr (.inl a)), l1, l2, l3, l4, l5, l6, l7, l8], [], S) = rn xL_sound (47, [some (.inr (.inl a)), l1, l2, l3, l4, l5, l6, l7, l8], [.inr (.inl a)], S) := rn_step dL_sound_46 rfl rfl
set_option maxRecDepth 100000 in
theorem eL_sound_47 {a : Int} {l0 l1 l2 l3 l4 l5 l7 l8 : Option VV} {v0 : VV} {S : MM} : rn xL_sound (47, [l0, l1, l2, l3, l4, l5, some (vI a), l7, l8], [v0], S) = rn xL_sound (49, [l0, l1, l2, l3, l4, l5, some (vI a), l7, l8], [vI a, v0], S) := rn_step dL_sound_47 rfl rfl
set_option maxRecDepth 100000 in
theorem eL_sound_49 {a : Int} {l0 l1 l2 l3 l4 l5 l6 l8 : Option VV} {v0 v1 : VV} {S : MM} : rn xL_sound (49, [l0, l1, l2, l3, l4, l5, l6, some (vI a), l8], [v0, v1], S) = rn xL_sound (51, [l0, l1, l2, l3, l4, l5, l6, some (vI a), l8], [vI a, v0, v1], S) := rn_step dL_sound_49 rfl rfl
set_option maxRecDepth 100000 in
theorem eL_sound_51 {l0 l1 l2 l3 l4 l5 l6 l7 l8 : Option VV} {v0 v1 v2 : VV} {S : MM} : rn xL_sound (51, [l0, l1, l2, l3, l4, l5, l6, l7, l8], [v0, v1, v2], S) = rn xL_sound (52, [l0, l1, l2, l3, l4, l5, l6, l7, l8], [vI 0, v0, v1, v2], S) := rn_step dL_sound_51 rfl rfl
set_option maxRecDepth 100000 in
theorem eL_sound_52 {a0 : Int} {a1 : Int} {a2 : Int} {l0 l1 l2 l3 l4 l5 l6 l7 l8 : Option VV} {S : MM} : rn xL_sound (52, [l0, l1, l2, l3, l4, l5, l6, l7, l8], [vI a2, vI a1, vI a0, vR 0], S) = (fX8_ofStone [vR 0, vI a0, vI a1, vI a2] S).bind (fun q => rn xL_sound (55, [l0, l1, l2, l3, l4, l5, l6, l7, l8], q.1.toList ++ [], q.2)) := q_callV (n := 3) (as := [vI a0, vI a1, vI a2]) (rest := []) dL_sound_52 rfl rfl rfl rfl kd0
set_option maxRecDepth 100000 in
theorem eL_sound_55 {l0 l1 l2 l3 l4 l5 l6 l7 l8 : Option VV} {v0 : VV} {S : MM} : rn xL_sound (55, [l0, l1, l2, l3, l4, l5, l6, l7, l8], [v0], S) = rn xL_sound (56, [l0, l1, l2, l3, l4, l5, l6, l7, l8], [vI (-1), v0], S) := rn_step dL_sound_55 rfl rfl
set_option maxRecDepth 100000 in
theorem eL_sound_56 {a b : Int} {l0 l1 l2 l3 l4 l5 l6 l7 l8 : Option VV} (h : -2147483648 ≤ a ∧ a ≤ 2147483647) (h1 : -2147483648 ≤ b ∧ b ≤ 2147483647) {S : MM} : rn xL_sound (56, [l0, l1, l2, l3, l4, l5, l6, l7, l8], [vI b, vI a], S) = if a = b then rn xL_sound (61, [l0, l1, l2, l3, l4, l5, l6, l7, l8], [], S) else rn xL_sound (59, [l0, l1, l2, l3, l4, l5, l6, l7, l8], [], S) := q_icmp_eq dL_sound_56 (by decide) rfl h h1
set_option maxRecDepth 100000 in
theorem eL_sound_59 {l0 l1 l2 l3 l4 l5 l6 l7 l8 : Option VV} {S : MM} : rn xL_sound (59, [l0, l1, l2, l3, l4, l5, l6, l7, l8], [], S) = rn xL_sound (60, [l0, l1, l2, l3, l4, l5, l6, l7, l8], [vI 0], S) := rn_step dL_sound_59 rfl rfl
set_option maxRecDepth 100000 in
theorem eL_sound_60 {z : Int} {l0 l1 l2 l3 l4 l5 l6 l7 l8 : Option VV} (hz : z = 0 ∨ z = 1) {S : MM} : rn xL_sound (60, [l0, l1, l2, l3, l4, l5, l6, l7, l8], [vI z], S) = some (some (vI z), S) := q_retZ dL_sound_60 rfl hz
set_option maxRecDepth 100000 in
theorem eL_sound_61 {l0 l1 l2 l3 l4 l5 l6 l7 l8 : Option VV} {S : MM} : rn xL_sound (61, [l0, l1, l2, l3, l4, l5, l6, l7, l8], [], S) = rn xL_sound (62, [l0, l1, l2, l3, l4, l5, l6, l7, l8], [vI 0], S) := rn_step dL_sound_61 rfl rfl
set_option maxRecDepth 100000 in
theorem eL_sound_62 {a : Int} {w : Int} {l0 l1 l2 l3 l4 l5 l6 l8 : Option VV} {S : MM} : rn xL_sound (62, [l0, l1, l2, l3, l4, l5, l6, some (vI w), l8], [vI a], S) = rn xL_sound (64, [l0, l1, l2, l3, l4, l5, l6, some (vI w), some (vI a)], [], S) := rn_step dL_sound_62 rfl rfl
set_option maxRecDepth 100000 in
theorem eL_sound_64 {a : Int} {l0 l1 l2 l3 l4 l5 l6 l7 : Option VV} {S : MM} : rn xL_sound (64, [l0, l1, l2, l3, l4, l5, l6, l7, some (vI a)], [], S) = rn xL_sound (66, [l0, l1, l2, l3, l4, l5, l6, l7, some (vI a)], [vI a], S) := rn_step dL_sound_64 rfl rfl
set_option maxRecDepth 100000 in
theorem eL_sound_66 {a : Int} {l0 l1 l2 l3 l4 l5 l6 l8 : Option VV} {v0 : VV} {S : MM} : rn xL_sound (66, [l0, l1, l2, l3, l4, l5, l6, some (vI a), l8], [v0], S) = rn xL_sound (68, [l0, l1, l2, l3, l4, l5, l6, some (vI a), l8], [vI a, v0], S) := rn_step dL_sound_66 rfl rfl
set_option maxRecDepth 100000 in
theorem eL_sound_68 {a b : Int} {l0 l1 l2 l3 l4 l5 l6 l7 l8 : Option VV} (h : -2147483648 ≤ a ∧ a ≤ 2147483647) (h1 : -2147483648 ≤ b ∧ b ≤ 2147483647) {S : MM} : rn xL_sound (68, [l0, l1, l2, l3, l4, l5, l6, l7, l8], [vI b, vI a], S) = if a < b then rn xL_sound (71, [l0, l1, l2, l3, l4, l5, l6, l7, l8], [], S) else rn xL_sound (134, [l0, l1, l2, l3, l4, l5, l6, l7, l8], [], S) := q_icmp_ge dL_sound_68 (by decide) rfl h h1
set_option maxRecDepth 100000 in
theorem eL_sound_71 {a : Option Nat} {l1 l2 l3 l4 l5 l6 l7 l8 : Option VV} {S : MM} : rn xL_sound (71, [some (.inr (.inl a)), l1, l2, l3, l4, l5, l6, l7, l8], [], S) = rn xL_sound (72, [some (.inr (.inl a)), l1, l2, l3, l4, l5, l6, l7, l8], [.inr (.inl a)], S) := rn_step dL_sound_71 rfl rfl
set_option maxRecDepth 100000 in
theorem eL_sound_72 {a : Int} {l0 l1 l2 l3 l4 l5 l7 l8 : Option VV} {v0 : VV} {S : MM} : rn xL_sound (72, [l0, l1, l2, l3, l4, l5, some (vI a), l7, l8], [v0], S) = rn xL_sound (74, [l0, l1, l2, l3, l4, l5, some (vI a), l7, l8], [vI a, v0], S) := rn_step dL_sound_72 rfl rfl
set_option maxRecDepth 100000 in
theorem eL_sound_74 {a : Int} {l0 l1 l2 l3 l4 l5 l6 l7 : Option VV} {v0 v1 : VV} {S : MM} : rn xL_sound (74, [l0, l1, l2, l3, l4, l5, l6, l7, some (vI a)], [v0, v1], S) = rn xL_sound (76, [l0, l1, l2, l3, l4, l5, l6, l7, some (vI a)], [vI a, v0, v1], S) := rn_step dL_sound_74 rfl rfl
set_option maxRecDepth 100000 in
theorem eL_sound_76 {l0 l1 l2 l3 l4 l5 l6 l7 l8 : Option VV} {v0 v1 v2 : VV} {S : MM} : rn xL_sound (76, [l0, l1, l2, l3, l4, l5, l6, l7, l8], [v0, v1, v2], S) = rn xL_sound (77, [l0, l1, l2, l3, l4, l5, l6, l7, l8], [vI 1, v0, v1, v2], S) := rn_step dL_sound_76 rfl rfl
set_option maxRecDepth 100000 in
theorem eL_sound_77 {a0 : Int} {a1 : Int} {a2 : Int} {l0 l1 l2 l3 l4 l5 l6 l7 l8 : Option VV} {S : MM} : rn xL_sound (77, [l0, l1, l2, l3, l4, l5, l6, l7, l8], [vI a2, vI a1, vI a0, vR 0], S) = (fX8_ofStone [vR 0, vI a0, vI a1, vI a2] S).bind (fun q => rn xL_sound (80, [l0, l1, l2, l3, l4, l5, l6, l7, l8], q.1.toList ++ [], q.2)) := q_callV (n := 3) (as := [vI a0, vI a1, vI a2]) (rest := []) dL_sound_77 rfl rfl rfl rfl kd0
set_option maxRecDepth 100000 in
theorem eL_sound_80 {l0 l1 l2 l3 l4 l5 l6 l7 l8 : Option VV} {v0 : VV} {S : MM} : rn xL_sound (80, [l0, l1, l2, l3, l4, l5, l6, l7, l8], [v0], S) = rn xL_sound (81, [l0, l1, l2, l3, l4, l5, l6, l7, l8], [vI 1, v0], S) := rn_step dL_sound_80 rfl rfl
set_option maxRecDepth 100000 in
theorem eL_sound_81 {a b : Int} {l0 l1 l2 l3 l4 l5 l6 l7 l8 : Option VV} (h : -2147483648 ≤ a ∧ a ≤ 2147483647) (h1 : -2147483648 ≤ b ∧ b ≤ 2147483647) {S : MM} : rn xL_sound (81, [l0, l1, l2, l3, l4, l5, l6, l7, l8], [vI b, vI a], S) = if a < b then rn xL_sound (126, [l0, l1, l2, l3, l4, l5, l6, l7, l8], [], S) else rn xL_sound (84, [l0, l1, l2, l3, l4, l5, l6, l7, l8], [], S) := q_icmp_lt dL_sound_81 (by decide) rfl h h1
set_option maxRecDepth 100000 in
theorem eL_sound_84 {a : Option Nat} {l1 l2 l3 l4 l5 l6 l7 l8 : Option VV} {S : MM} : rn xL_sound (84, [some (.inr (.inl a)), l1, l2, l3, l4, l5, l6, l7, l8], [], S) = rn xL_sound (85, [some (.inr (.inl a)), l1, l2, l3, l4, l5, l6, l7, l8], [.inr (.inl a)], S) := rn_step dL_sound_84 rfl rfl
set_option maxRecDepth 100000 in
theorem eL_sound_85 {a : Int} {l0 l1 l2 l3 l4 l5 l7 l8 : Option VV} {v0 : VV} {S : MM} : rn xL_sound (85, [l0, l1, l2, l3, l4, l5, some (vI a), l7, l8], [v0], S) = rn xL_sound (87, [l0, l1, l2, l3, l4, l5, some (vI a), l7, l8], [vI a, v0], S) := rn_step dL_sound_85 rfl rfl
set_option maxRecDepth 100000 in
theorem eL_sound_87 {a : Int} {l0 l1 l2 l3 l4 l5 l6 l7 : Option VV} {v0 v1 : VV} {S : MM} : rn xL_sound (87, [l0, l1, l2, l3, l4, l5, l6, l7, some (vI a)], [v0, v1], S) = rn xL_sound (89, [l0, l1, l2, l3, l4, l5, l6, l7, some (vI a)], [vI a, v0, v1], S) := rn_step dL_sound_87 rfl rfl
set_option maxRecDepth 100000 in
theorem eL_sound_89 {l0 l1 l2 l3 l4 l5 l6 l7 l8 : Option VV} {v0 v1 v2 : VV} {S : MM} : rn xL_sound (89, [l0, l1, l2, l3, l4, l5, l6, l7, l8], [v0, v1, v2], S) = rn xL_sound (90, [l0, l1, l2, l3, l4, l5, l6, l7, l8], [vI 1, v0, v1, v2], S) := rn_step dL_sound_89 rfl rfl
set_option maxRecDepth 100000 in
theorem eL_sound_90 {a0 : Int} {a1 : Int} {a2 : Int} {l0 l1 l2 l3 l4 l5 l6 l7 l8 : Option VV} {S : MM} : rn xL_sound (90, [l0, l1, l2, l3, l4, l5, l6, l7, l8], [vI a2, vI a1, vI a0, vR 0], S) = (fX8_ofStone [vR 0, vI a0, vI a1, vI a2] S).bind (fun q => rn xL_sound (93, [l0, l1, l2, l3, l4, l5, l6, l7, l8], q.1.toList ++ [], q.2)) := q_callV (n := 3) (as := [vI a0, vI a1, vI a2]) (rest := []) dL_sound_90 rfl rfl rfl rfl kd0
set_option maxRecDepth 100000 in
theorem eL_sound_93 {l0 l1 l2 l3 l4 l5 l6 l7 l8 : Option VV} {v0 : VV} {S : MM} : rn xL_sound (93, [l0, l1, l2, l3, l4, l5, l6, l7, l8], [v0], S) = rn xL_sound (95, [l0, l1, l2, l3, l4, l5, l6, l7, l8], [vI 9, v0], S) := rn_step dL_sound_93 rfl rfl
set_option maxRecDepth 100000 in
theorem eL_sound_95 {a b : Int} {l0 l1 l2 l3 l4 l5 l6 l7 l8 : Option VV} (h : -2147483648 ≤ a ∧ a ≤ 2147483647) (h1 : -2147483648 ≤ b ∧ b ≤ 2147483647) {S : MM} : rn xL_sound (95, [l0, l1, l2, l3, l4, l5, l6, l7, l8], [vI b, vI a], S) = if b < a then rn xL_sound (126, [l0, l1, l2, l3, l4, l5, l6, l7, l8], [], S) else rn xL_sound (98, [l0, l1, l2, l3, l4, l5, l6, l7, l8], [], S) := q_icmp_gt dL_sound_95 (by decide) rfl h h1
set_option maxRecDepth 100000 in
theorem eL_sound_98 {a : Int} {l0 l1 l2 l3 l4 l5 l6 l7 : Option VV} {S : MM} : rn xL_sound (98, [l0, l1, l2, l3, l4, l5, l6, l7, some (vI a)], [], S) = rn xL_sound (100, [l0, l1, l2, l3, l4, l5, l6, l7, some (vI a)], [vI a], S) := rn_step dL_sound_98 rfl rfl
set_option maxRecDepth 100000 in
theorem eL_sound_100 {a : Int} {l0 l1 l2 l3 l4 l5 l6 l7 l8 : Option VV} (h : -2147483648 ≤ a ∧ a ≤ 2147483647) {S : MM} : rn xL_sound (100, [l0, l1, l2, l3, l4, l5, l6, l7, l8], [vI a], S) = if 0 < a then rn xL_sound (103, [l0, l1, l2, l3, l4, l5, l6, l7, l8], [], S) else rn xL_sound (128, [l0, l1, l2, l3, l4, l5, l6, l7, l8], [], S) := q_if_le dL_sound_100 (by decide) rfl h
set_option maxRecDepth 100000 in
theorem eL_sound_103 {a : Option Nat} {l1 l2 l3 l4 l5 l6 l7 l8 : Option VV} {S : MM} : rn xL_sound (103, [some (.inr (.inl a)), l1, l2, l3, l4, l5, l6, l7, l8], [], S) = rn xL_sound (104, [some (.inr (.inl a)), l1, l2, l3, l4, l5, l6, l7, l8], [.inr (.inl a)], S) := rn_step dL_sound_103 rfl rfl
set_option maxRecDepth 100000 in
theorem eL_sound_104 {a : Int} {l0 l1 l2 l3 l4 l5 l7 l8 : Option VV} {v0 : VV} {S : MM} : rn xL_sound (104, [l0, l1, l2, l3, l4, l5, some (vI a), l7, l8], [v0], S) = rn xL_sound (106, [l0, l1, l2, l3, l4, l5, some (vI a), l7, l8], [vI a, v0], S) := rn_step dL_sound_104 rfl rfl
set_option maxRecDepth 100000 in
theorem eL_sound_106 {a : Int} {l0 l1 l2 l3 l4 l5 l6 l7 : Option VV} {v0 v1 : VV} {S : MM} : rn xL_sound (106, [l0, l1, l2, l3, l4, l5, l6, l7, some (vI a)], [v0, v1], S) = rn xL_sound (108, [l0, l1, l2, l3, l4, l5, l6, l7, some (vI a)], [vI a, v0, v1], S) := rn_step dL_sound_106 rfl rfl
set_option maxRecDepth 100000 in
theorem eL_sound_108 {l0 l1 l2 l3 l4 l5 l6 l7 l8 : Option VV} {v0 v1 v2 : VV} {S : MM} : rn xL_sound (108, [l0, l1, l2, l3, l4, l5, l6, l7, l8], [v0, v1, v2], S) = rn xL_sound (109, [l0, l1, l2, l3, l4, l5, l6, l7, l8], [vI 0, v0, v1, v2], S) := rn_step dL_sound_108 rfl rfl
set_option maxRecDepth 100000 in
theorem eL_sound_109 {a0 : Int} {a1 : Int} {a2 : Int} {l0 l1 l2 l3 l4 l5 l6 l7 l8 : Option VV} {S : MM} : rn xL_sound (109, [l0, l1, l2, l3, l4, l5, l6, l7, l8], [vI a2, vI a1, vI a0, vR 0], S) = (fX8_ofStone [vR 0, vI a0, vI a1, vI a2] S).bind (fun q => rn xL_sound (112, [l0, l1, l2, l3, l4, l5, l6, l7, l8], q.1.toList ++ [], q.2)) := q_callV (n := 3) (as := [vI a0, vI a1, vI a2]) (rest := []) dL_sound_109 rfl rfl rfl rfl kd0
set_option maxRecDepth 100000 in
theorem eL_sound_112 {a : Option Nat} {l1 l2 l3 l4 l5 l6 l7 l8 : Option VV} {v0 : VV} {S : MM} : rn xL_sound (112, [some (.inr (.inl a)), l1, l2, l3, l4, l5, l6, l7, l8], [v0], S) = rn xL_sound (113, [some (.inr (.inl a)), l1, l2, l3, l4, l5, l6, l7, l8], [.inr (.inl a), v0], S) := rn_step dL_sound_112 rfl rfl
set_option maxRecDepth 100000 in
theorem eL_sound_113 {a : Int} {l0 l1 l2 l3 l4 l5 l7 l8 : Option VV} {v0 v1 : VV} {S : MM} : rn xL_sound (113, [l0, l1, l2, l3, l4, l5, some (vI a), l7, l8], [v0, v1], S) = rn xL_sound (115, [l0, l1, l2, l3, l4, l5, some (vI a), l7, l8], [vI a, v0, v1], S) := rn_step dL_sound_113 rfl rfl
set_option maxRecDepth 100000 in
theorem eL_sound_115 {a : Int} {l0 l1 l2 l3 l4 l5 l6 l7 : Option VV} {v0 v1 v2 : VV} {S : MM} : rn xL_sound (115, [l0, l1, l2, l3, l4, l5, l6, l7, some (vI a)], [v0, v1, v2], S) = rn xL_sound (117, [l0, l1, l2, l3, l4, l5, l6, l7, some (vI a)], [vI a, v0, v1, v2], S) := rn_step dL_sound_115 rfl rfl
set_option maxRecDepth 100000 in
theorem eL_sound_117 {l0 l1 l2 l3 l4 l5 l6 l7 l8 : Option VV} {v0 v1 v2 v3 : VV} {S : MM} : rn xL_sound (117, [l0, l1, l2, l3, l4, l5, l6, l7, l8], [v0, v1, v2, v3], S) = rn xL_sound (118, [l0, l1, l2, l3, l4, l5, l6, l7, l8], [vI 1, v0, v1, v2, v3], S) := rn_step dL_sound_117 rfl rfl
set_option maxRecDepth 100000 in
theorem eL_sound_118 {a b : Int} {l0 l1 l2 l3 l4 l5 l6 l7 l8 : Option VV} {v2 v3 v4 : VV} {S : MM} : rn xL_sound (118, [l0, l1, l2, l3, l4, l5, l6, l7, l8], [vI b, vI a, v2, v3, v4], S) = rn xL_sound (119, [l0, l1, l2, l3, l4, l5, l6, l7, l8], [vI (a - b), v2, v3, v4], S) := rn_step dL_sound_118 rfl rfl
set_option maxRecDepth 100000 in
theorem eL_sound_119 {l0 l1 l2 l3 l4 l5 l6 l7 l8 : Option VV} {v0 v1 v2 v3 : VV} {S : MM} : rn xL_sound (119, [l0, l1, l2, l3, l4, l5, l6, l7, l8], [v0, v1, v2, v3], S) = rn xL_sound (120, [l0, l1, l2, l3, l4, l5, l6, l7, l8], [vI 0, v0, v1, v2, v3], S) := rn_step dL_sound_119 rfl rfl
set_option maxRecDepth 100000 in
theorem eL_sound_120 {a0 : Int} {a1 : Int} {a2 : Int} {l0 l1 l2 l3 l4 l5 l6 l7 l8 : Option VV} {v4 : VV} {S : MM} : rn xL_sound (120, [l0, l1, l2, l3, l4, l5, l6, l7, l8], [vI a2, vI a1, vI a0, vR 0, v4], S) = (fX8_ofStone [vR 0, vI a0, vI a1, vI a2] S).bind (fun q => rn xL_sound (123, [l0, l1, l2, l3, l4, l5, l6, l7, l8], q.1.toList ++ [v4], q.2)) := q_callV (n := 3) (as := [vI a0, vI a1, vI a2]) (rest := [v4]) dL_sound_120 rfl rfl rfl rfl kd0
set_option maxRecDepth 100000 in
theorem eL_sound_123 {a b : Int} {l0 l1 l2 l3 l4 l5 l6 l7 l8 : Option VV} (h : -2147483648 ≤ a ∧ a ≤ 2147483647) (h1 : -2147483648 ≤ b ∧ b ≤ 2147483647) {S : MM} : rn xL_sound (123, [l0, l1, l2, l3, l4, l5, l6, l7, l8], [vI b, vI a], S) = if b < a then rn xL_sound (128, [l0, l1, l2, l3, l4, l5, l6, l7, l8], [], S) else rn xL_sound (126, [l0, l1, l2, l3, l4, l5, l6, l7, l8], [], S) := q_icmp_gt dL_sound_123 (by decide) rfl h h1
set_option maxRecDepth 100000 in
theorem eL_sound_126 {l0 l1 l2 l3 l4 l5 l6 l7 l8 : Option VV} {S : MM} : rn xL_sound (126, [l0, l1, l2, l3, l4, l5, l6, l7, l8], [], S) = rn xL_sound (127, [l0, l1, l2, l3, l4, l5, l6, l7, l8], [vI 0], S) := rn_step dL_sound_126 rfl rfl
set_option maxRecDepth 100000 in
theorem eL_sound_127 {z : Int} {l0 l1 l2 l3 l4 l5 l6 l7 l8 : Option VV} (hz : z = 0 ∨ z = 1) {S : MM} : rn xL_sound (127, [l0, l1, l2, l3, l4, l5, l6, l7, l8], [vI z], S) = some (some (vI z), S) := q_retZ dL_sound_127 rfl hz
set_option maxRecDepth 100000 in
theorem eL_sound_128 {a : Int} {w : Int} {l0 l1 l2 l3 l4 l5 l6 : Option VV} {S : MM} : rn xL_sound (128, [l0, l1, l2, l3, l4, l5, l6, some (vI w), some (vI a)], [], S) = rn xL_sound (131, [l0, l1, l2, l3, l4, l5, l6, some (vI w), some (vI (a + 1))], [], S) := rn_step dL_sound_128 rfl rfl
set_option maxRecDepth 100000 in
theorem eL_sound_131 {l0 l1 l2 l3 l4 l5 l6 l7 l8 : Option VV} {S : MM} : rn xL_sound (131, [l0, l1, l2, l3, l4, l5, l6, l7, l8], [], S) = rn xL_sound (64, [l0, l1, l2, l3, l4, l5, l6, l7, l8], [], S) := rn_step dL_sound_131 rfl rfl
set_option maxRecDepth 100000 in
theorem eL_sound_134 {a : Int} {l0 l1 l2 l3 l4 l6 l7 l8 : Option VV} {S : MM} : rn xL_sound (134, [l0, l1, l2, l3, l4, some (vI a), l6, l7, l8], [], S) = rn xL_sound (136, [l0, l1, l2, l3, l4, some (vI a), l6, l7, l8], [vI a], S) := rn_step dL_sound_134 rfl rfl
set_option maxRecDepth 100000 in
theorem eL_sound_136 {a : Int} {l0 l1 l2 l3 l4 l5 l6 l7 l8 : Option VV} (h : -2147483648 ≤ a ∧ a ≤ 2147483647) {S : MM} : rn xL_sound (136, [l0, l1, l2, l3, l4, l5, l6, l7, l8], [vI a], S) = if a < 0 then rn xL_sound (139, [l0, l1, l2, l3, l4, l5, l6, l7, l8], [], S) else rn xL_sound (173, [l0, l1, l2, l3, l4, l5, l6, l7, l8], [], S) := q_if_ge dL_sound_136 (by decide) rfl h
set_option maxRecDepth 100000 in
theorem eL_sound_139 {l0 l1 l2 l3 l4 l5 l6 l7 l8 : Option VV} {S : MM} : rn xL_sound (139, [l0, l1, l2, l3, l4, l5, l6, l7, l8], [], S) = rn xL_sound (140, [l0, l1, l2, l3, l4, l5, l6, l7, l8], [vI 1], S) := rn_step dL_sound_139 rfl rfl
set_option maxRecDepth 100000 in
theorem eL_sound_140 {a : Int} {w : Int} {l0 l1 l2 l3 l4 l5 l6 l8 : Option VV} {S : MM} : rn xL_sound (140, [l0, l1, l2, l3, l4, l5, l6, some (vI w), l8], [vI a], S) = rn xL_sound (142, [l0, l1, l2, l3, l4, l5, l6, some (vI w), some (vI a)], [], S) := rn_step dL_sound_140 rfl rfl
set_option maxRecDepth 100000 in
theorem eL_sound_142 {a : Int} {l0 l1 l2 l3 l4 l5 l6 l7 : Option VV} {S : MM} : rn xL_sound (142, [l0, l1, l2, l3, l4, l5, l6, l7, some (vI a)], [], S) = rn xL_sound (144, [l0, l1, l2, l3, l4, l5, l6, l7, some (vI a)], [vI a], S) := rn_step dL_sound_142 rfl rfl
set_option maxRecDepth 100000 in
theorem eL_sound_144 {l0 l1 l2 l3 l4 l5 l6 l7 l8 : Option VV} {v0 : VV} {S : MM} : rn xL_sound (144, [l0, l1, l2, l3, l4, l5, l6, l7, l8], [v0], S) = rn xL_sound (146, [l0, l1, l2, l3, l4, l5, l6, l7, l8], [vI 7, v0], S) := rn_step dL_sound_144 rfl rfl
set_option maxRecDepth 100000 in
theorem eL_sound_146 {a b : Int} {l0 l1 l2 l3 l4 l5 l6 l7 l8 : Option VV} (h : -2147483648 ≤ a ∧ a ≤ 2147483647) (h1 : -2147483648 ≤ b ∧ b ≤ 2147483647) {S : MM} : rn xL_sound (146, [l0, l1, l2, l3, l4, l5, l6, l7, l8], [vI b, vI a], S) = if a < b then rn xL_sound (149, [l0, l1, l2, l3, l4, l5, l6, l7, l8], [], S) else rn xL_sound (170, [l0, l1, l2, l3, l4, l5, l6, l7, l8], [], S) := q_icmp_ge dL_sound_146 (by decide) rfl h h1
set_option maxRecDepth 100000 in
theorem eL_sound_149 {a : Option Nat} {l1 l2 l3 l4 l5 l6 l7 l8 : Option VV} {S : MM} : rn xL_sound (149, [some (.inr (.inl a)), l1, l2, l3, l4, l5, l6, l7, l8], [], S) = rn xL_sound (150, [some (.inr (.inl a)), l1, l2, l3, l4, l5, l6, l7, l8], [.inr (.inl a)], S) := rn_step dL_sound_149 rfl rfl
set_option maxRecDepth 100000 in
theorem eL_sound_150 {a : Int} {l0 l1 l2 l3 l4 l5 l7 l8 : Option VV} {v0 : VV} {S : MM} : rn xL_sound (150, [l0, l1, l2, l3, l4, l5, some (vI a), l7, l8], [v0], S) = rn xL_sound (152, [l0, l1, l2, l3, l4, l5, some (vI a), l7, l8], [vI a, v0], S) := rn_step dL_sound_150 rfl rfl
set_option maxRecDepth 100000 in
theorem eL_sound_152 {a : Int} {l0 l1 l2 l3 l4 l5 l6 l7 : Option VV} {v0 v1 : VV} {S : MM} : rn xL_sound (152, [l0, l1, l2, l3, l4, l5, l6, l7, some (vI a)], [v0, v1], S) = rn xL_sound (154, [l0, l1, l2, l3, l4, l5, l6, l7, some (vI a)], [vI a, v0, v1], S) := rn_step dL_sound_152 rfl rfl
set_option maxRecDepth 100000 in
theorem eL_sound_154 {a0 : Int} {a1 : Int} {l0 l1 l2 l3 l4 l5 l6 l7 l8 : Option VV} {S : MM} : rn xL_sound (154, [l0, l1, l2, l3, l4, l5, l6, l7, l8], [vI a1, vI a0, vR 0], S) = (fX8_ofWalker [vR 0, vI a0, vI a1] S).bind (fun q => rn xL_sound (157, [l0, l1, l2, l3, l4, l5, l6, l7, l8], q.1.toList ++ [], q.2)) := q_callV (n := 2) (as := [vI a0, vI a1]) (rest := []) dL_sound_154 rfl rfl rfl rfl kd0
set_option maxRecDepth 100000 in
theorem eL_sound_157 {l0 l1 l2 l3 l4 l5 l6 l7 l8 : Option VV} {v0 : VV} {S : MM} : rn xL_sound (157, [l0, l1, l2, l3, l4, l5, l6, l7, l8], [v0], S) = rn xL_sound (159, [l0, l1, l2, l3, l4, l5, l6, l7, l8], [vI (-6), v0], S) := rn_step dL_sound_157 rfl rfl
set_option maxRecDepth 100000 in
theorem eL_sound_159 {a b : Int} {l0 l1 l2 l3 l4 l5 l6 l7 l8 : Option VV} (h : -2147483648 ≤ a ∧ a ≤ 2147483647) (h1 : -2147483648 ≤ b ∧ b ≤ 2147483647) {S : MM} : rn xL_sound (159, [l0, l1, l2, l3, l4, l5, l6, l7, l8], [vI b, vI a], S) = if a = b then rn xL_sound (164, [l0, l1, l2, l3, l4, l5, l6, l7, l8], [], S) else rn xL_sound (162, [l0, l1, l2, l3, l4, l5, l6, l7, l8], [], S) := q_icmp_eq dL_sound_159 (by decide) rfl h h1
set_option maxRecDepth 100000 in
theorem eL_sound_162 {l0 l1 l2 l3 l4 l5 l6 l7 l8 : Option VV} {S : MM} : rn xL_sound (162, [l0, l1, l2, l3, l4, l5, l6, l7, l8], [], S) = rn xL_sound (163, [l0, l1, l2, l3, l4, l5, l6, l7, l8], [vI 0], S) := rn_step dL_sound_162 rfl rfl
set_option maxRecDepth 100000 in
theorem eL_sound_163 {z : Int} {l0 l1 l2 l3 l4 l5 l6 l7 l8 : Option VV} (hz : z = 0 ∨ z = 1) {S : MM} : rn xL_sound (163, [l0, l1, l2, l3, l4, l5, l6, l7, l8], [vI z], S) = some (some (vI z), S) := q_retZ dL_sound_163 rfl hz
set_option maxRecDepth 100000 in
theorem eL_sound_164 {a : Int} {w : Int} {l0 l1 l2 l3 l4 l5 l6 : Option VV} {S : MM} : rn xL_sound (164, [l0, l1, l2, l3, l4, l5, l6, some (vI w), some (vI a)], [], S) = rn xL_sound (167, [l0, l1, l2, l3, l4, l5, l6, some (vI w), some (vI (a + 1))], [], S) := rn_step dL_sound_164 rfl rfl
set_option maxRecDepth 100000 in
theorem eL_sound_167 {l0 l1 l2 l3 l4 l5 l6 l7 l8 : Option VV} {S : MM} : rn xL_sound (167, [l0, l1, l2, l3, l4, l5, l6, l7, l8], [], S) = rn xL_sound (142, [l0, l1, l2, l3, l4, l5, l6, l7, l8], [], S) := rn_step dL_sound_167 rfl rfl
set_option maxRecDepth 100000 in
theorem eL_sound_170 {l0 l1 l2 l3 l4 l5 l6 l7 l8 : Option VV} {S : MM} : rn xL_sound (170, [l0, l1, l2, l3, l4, l5, l6, l7, l8], [], S) = rn xL_sound (290, [l0, l1, l2, l3, l4, l5, l6, l7, l8], [], S) := rn_step dL_sound_170 rfl rfl
set_option maxRecDepth 100000 in
theorem eL_sound_173 {a : Option Nat} {l1 l2 l3 l4 l5 l6 l7 l8 : Option VV} {S : MM} : rn xL_sound (173, [some (.inr (.inl a)), l1, l2, l3, l4, l5, l6, l7, l8], [], S) = rn xL_sound (174, [some (.inr (.inl a)), l1, l2, l3, l4, l5, l6, l7, l8], [.inr (.inl a)], S) := rn_step dL_sound_173 rfl rfl
set_option maxRecDepth 100000 in
theorem eL_sound_174 {a : Int} {l0 l1 l2 l3 l4 l5 l7 l8 : Option VV} {v0 : VV} {S : MM} : rn xL_sound (174, [l0, l1, l2, l3, l4, l5, some (vI a), l7, l8], [v0], S) = rn xL_sound (176, [l0, l1, l2, l3, l4, l5, some (vI a), l7, l8], [vI a, v0], S) := rn_step dL_sound_174 rfl rfl
set_option maxRecDepth 100000 in
theorem eL_sound_176 {l0 l1 l2 l3 l4 l5 l6 l7 l8 : Option VV} {v0 v1 : VV} {S : MM} : rn xL_sound (176, [l0, l1, l2, l3, l4, l5, l6, l7, l8], [v0, v1], S) = rn xL_sound (177, [l0, l1, l2, l3, l4, l5, l6, l7, l8], [vI 2, v0, v1], S) := rn_step dL_sound_176 rfl rfl
set_option maxRecDepth 100000 in
theorem eL_sound_177 {a0 : Int} {a1 : Int} {l0 l1 l2 l3 l4 l5 l6 l7 l8 : Option VV} {S : MM} : rn xL_sound (177, [l0, l1, l2, l3, l4, l5, l6, l7, l8], [vI a1, vI a0, vR 0], S) = (fX8_ofWalker [vR 0, vI a0, vI a1] S).bind (fun q => rn xL_sound (180, [l0, l1, l2, l3, l4, l5, l6, l7, l8], q.1.toList ++ [], q.2)) := q_callV (n := 2) (as := [vI a0, vI a1]) (rest := []) dL_sound_177 rfl rfl rfl rfl kd0
set_option maxRecDepth 100000 in
theorem eL_sound_180 {a : Int} {w : Int} {l0 l1 l2 l3 l4 l5 l6 l8 : Option VV} {S : MM} : rn xL_sound (180, [l0, l1, l2, l3, l4, l5, l6, some (vI w), l8], [vI a], S) = rn xL_sound (182, [l0, l1, l2, l3, l4, l5, l6, some (vI w), some (vI a)], [], S) := rn_step dL_sound_180 rfl rfl
set_option maxRecDepth 100000 in
theorem eL_sound_182 {a : Int} {l0 l1 l2 l3 l4 l5 l6 l7 : Option VV} {S : MM} : rn xL_sound (182, [l0, l1, l2, l3, l4, l5, l6, l7, some (vI a)], [], S) = rn xL_sound (184, [l0, l1, l2, l3, l4, l5, l6, l7, some (vI a)], [vI a], S) := rn_step dL_sound_182 rfl rfl
set_option maxRecDepth 100000 in
theorem eL_sound_184 {a : Int} {l0 l1 l2 l3 l4 l5 l6 l7 l8 : Option VV} (h : -2147483648 ≤ a ∧ a ≤ 2147483647) {S : MM} : rn xL_sound (184, [l0, l1, l2, l3, l4, l5, l6, l7, l8], [vI a], S) = if a < 0 then rn xL_sound (216, [l0, l1, l2, l3, l4, l5, l6, l7, l8], [], S) else rn xL_sound (187, [l0, l1, l2, l3, l4, l5, l6, l7, l8], [], S) := q_if_lt dL_sound_184 (by decide) rfl h
set_option maxRecDepth 100000 in
theorem eL_sound_187 {a : Option Nat} {l1 l2 l3 l4 l5 l6 l7 l8 : Option VV} {S : MM} : rn xL_sound (187, [some (.inr (.inl a)), l1, l2, l3, l4, l5, l6, l7, l8], [], S) = rn xL_sound (188, [some (.inr (.inl a)), l1, l2, l3, l4, l5, l6, l7, l8], [.inr (.inl a)], S) := rn_step dL_sound_187 rfl rfl
set_option maxRecDepth 100000 in
theorem eL_sound_188 {a : Int} {l0 l1 l2 l3 l4 l5 l7 l8 : Option VV} {v0 : VV} {S : MM} : rn xL_sound (188, [l0, l1, l2, l3, l4, l5, some (vI a), l7, l8], [v0], S) = rn xL_sound (190, [l0, l1, l2, l3, l4, l5, some (vI a), l7, l8], [vI a, v0], S) := rn_step dL_sound_188 rfl rfl
set_option maxRecDepth 100000 in
theorem eL_sound_190 {a : Int} {l0 l1 l2 l3 l4 l5 l6 l7 : Option VV} {v0 v1 : VV} {S : MM} : rn xL_sound (190, [l0, l1, l2, l3, l4, l5, l6, l7, some (vI a)], [v0, v1], S) = rn xL_sound (192, [l0, l1, l2, l3, l4, l5, l6, l7, some (vI a)], [vI a, v0, v1], S) := rn_step dL_sound_190 rfl rfl
set_option maxRecDepth 100000 in
theorem eL_sound_192 {a0 : Option Nat} {a1 : Int} {a2 : Int} {l0 l1 l2 l3 l4 l5 l6 l7 l8 : Option VV} {S : MM} : rn xL_sound (192, [l0, l1, l2, l3, l4, l5, l6, l7, l8], [vI a2, vI a1, .inr (.inl a0)], S) = (fL_repeats [.inr (.inl a0), vI a1, vI a2] S).bind (fun q => rn xL_sound (195, [l0, l1, l2, l3, l4, l5, l6, l7, l8], q.1.toList ++ [], q.2)) := q_callS (n := 3) (as := [.inr (.inl a0), vI a1, vI a2]) (rest := []) dL_sound_192 rfl rfl rfl rfl
set_option maxRecDepth 100000 in
theorem eL_sound_195 {a : Int} {l0 l1 l2 l3 l4 l5 l6 l7 l8 : Option VV} (h : -2147483648 ≤ a ∧ a ≤ 2147483647) {S : MM} : rn xL_sound (195, [l0, l1, l2, l3, l4, l5, l6, l7, l8], [vI a], S) = if a = 0 then rn xL_sound (239, [l0, l1, l2, l3, l4, l5, l6, l7, l8], [], S) else rn xL_sound (198, [l0, l1, l2, l3, l4, l5, l6, l7, l8], [], S) := q_if_eq dL_sound_195 (by decide) rfl h
set_option maxRecDepth 100000 in
theorem eL_sound_198 {a : Option Nat} {l1 l2 l3 l4 l5 l6 l7 l8 : Option VV} {S : MM} : rn xL_sound (198, [some (.inr (.inl a)), l1, l2, l3, l4, l5, l6, l7, l8], [], S) = rn xL_sound (199, [some (.inr (.inl a)), l1, l2, l3, l4, l5, l6, l7, l8], [.inr (.inl a)], S) := rn_step dL_sound_198 rfl rfl
set_option maxRecDepth 100000 in
theorem eL_sound_199 {a : Int} {l0 l1 l2 l3 l4 l5 l7 l8 : Option VV} {v0 : VV} {S : MM} : rn xL_sound (199, [l0, l1, l2, l3, l4, l5, some (vI a), l7, l8], [v0], S) = rn xL_sound (201, [l0, l1, l2, l3, l4, l5, some (vI a), l7, l8], [vI a, v0], S) := rn_step dL_sound_199 rfl rfl
set_option maxRecDepth 100000 in
theorem eL_sound_201 {l0 l1 l2 l3 l4 l5 l6 l7 l8 : Option VV} {v0 v1 : VV} {S : MM} : rn xL_sound (201, [l0, l1, l2, l3, l4, l5, l6, l7, l8], [v0, v1], S) = rn xL_sound (202, [l0, l1, l2, l3, l4, l5, l6, l7, l8], [vI 1, v0, v1], S) := rn_step dL_sound_201 rfl rfl
set_option maxRecDepth 100000 in
theorem eL_sound_202 {a0 : Int} {a1 : Int} {l0 l1 l2 l3 l4 l5 l6 l7 l8 : Option VV} {S : MM} : rn xL_sound (202, [l0, l1, l2, l3, l4, l5, l6, l7, l8], [vI a1, vI a0, vR 0], S) = (fX8_ofWalker [vR 0, vI a0, vI a1] S).bind (fun q => rn xL_sound (205, [l0, l1, l2, l3, l4, l5, l6, l7, l8], q.1.toList ++ [], q.2)) := q_callV (n := 2) (as := [vI a0, vI a1]) (rest := []) dL_sound_202 rfl rfl rfl rfl kd0
set_option maxRecDepth 100000 in
theorem eL_sound_205 {a : Option Nat} {l1 l2 l3 l4 l5 l6 l7 l8 : Option VV} {v0 : VV} {S : MM} : rn xL_sound (205, [some (.inr (.inl a)), l1, l2, l3, l4, l5, l6, l7, l8], [v0], S) = rn xL_sound (206, [some (.inr (.inl a)), l1, l2, l3, l4, l5, l6, l7, l8], [.inr (.inl a), v0], S) := rn_step dL_sound_205 rfl rfl
set_option maxRecDepth 100000 in
theorem eL_sound_206 {a : Int} {l0 l1 l2 l3 l4 l5 l7 l8 : Option VV} {v0 v1 : VV} {S : MM} : rn xL_sound (206, [l0, l1, l2, l3, l4, l5, some (vI a), l7, l8], [v0, v1], S) = rn xL_sound (208, [l0, l1, l2, l3, l4, l5, some (vI a), l7, l8], [vI a, v0, v1], S) := rn_step dL_sound_206 rfl rfl
set_option maxRecDepth 100000 in
theorem eL_sound_208 {a : Int} {l0 l1 l2 l3 l4 l5 l6 l7 : Option VV} {v0 v1 v2 : VV} {S : MM} : rn xL_sound (208, [l0, l1, l2, l3, l4, l5, l6, l7, some (vI a)], [v0, v1, v2], S) = rn xL_sound (210, [l0, l1, l2, l3, l4, l5, l6, l7, some (vI a)], [vI a, v0, v1, v2], S) := rn_step dL_sound_208 rfl rfl
set_option maxRecDepth 100000 in
theorem eL_sound_210 {a0 : Option Nat} {a1 : Int} {a2 : Int} {l0 l1 l2 l3 l4 l5 l6 l7 l8 : Option VV} {v3 : VV} {S : MM} : rn xL_sound (210, [l0, l1, l2, l3, l4, l5, l6, l7, l8], [vI a2, vI a1, .inr (.inl a0), v3], S) = (fL_from [.inr (.inl a0), vI a1, vI a2] S).bind (fun q => rn xL_sound (213, [l0, l1, l2, l3, l4, l5, l6, l7, l8], q.1.toList ++ [v3], q.2)) := q_callS (n := 3) (as := [.inr (.inl a0), vI a1, vI a2]) (rest := [v3]) dL_sound_210 rfl rfl rfl rfl
set_option maxRecDepth 100000 in
theorem eL_sound_213 {a b : Int} {l0 l1 l2 l3 l4 l5 l6 l7 l8 : Option VV} (h : -2147483648 ≤ a ∧ a ≤ 2147483647) (h1 : -2147483648 ≤ b ∧ b ≤ 2147483647) {S : MM} : rn xL_sound (213, [l0, l1, l2, l3, l4, l5, l6, l7, l8], [vI b, vI a], S) = if a = b then rn xL_sound (216, [l0, l1, l2, l3, l4, l5, l6, l7, l8], [], S) else rn xL_sound (239, [l0, l1, l2, l3, l4, l5, l6, l7, l8], [], S) := q_icmp_ne dL_sound_213 (by decide) rfl h h1
set_option maxRecDepth 100000 in
theorem eL_sound_216 {a : Int} {l0 l1 l2 l3 l4 l5 l6 l7 : Option VV} {S : MM} : rn xL_sound (216, [l0, l1, l2, l3, l4, l5, l6, l7, some (vI a)], [], S) = rn xL_sound (218, [l0, l1, l2, l3, l4, l5, l6, l7, some (vI a)], [vI a], S) := rn_step dL_sound_216 rfl rfl
set_option maxRecDepth 100000 in
theorem eL_sound_218 {a : Int} {l0 l1 l2 l3 l4 l5 l6 l7 l8 : Option VV} (h : -2147483648 ≤ a ∧ a ≤ 2147483647) {S : MM} : rn xL_sound (218, [l0, l1, l2, l3, l4, l5, l6, l7, l8], [vI a], S) = if a < 0 then rn xL_sound (221, [l0, l1, l2, l3, l4, l5, l6, l7, l8], [], S) else rn xL_sound (241, [l0, l1, l2, l3, l4, l5, l6, l7, l8], [], S) := q_if_ge dL_sound_218 (by decide) rfl h
set_option maxRecDepth 100000 in
theorem eL_sound_221 {a : Option Nat} {l1 l2 l3 l4 l5 l6 l7 l8 : Option VV} {S : MM} : rn xL_sound (221, [some (.inr (.inl a)), l1, l2, l3, l4, l5, l6, l7, l8], [], S) = rn xL_sound (222, [some (.inr (.inl a)), l1, l2, l3, l4, l5, l6, l7, l8], [.inr (.inl a)], S) := rn_step dL_sound_221 rfl rfl
set_option maxRecDepth 100000 in
theorem eL_sound_222 {a : Int} {l0 l1 l2 l3 l4 l5 l7 l8 : Option VV} {v0 : VV} {S : MM} : rn xL_sound (222, [l0, l1, l2, l3, l4, l5, some (vI a), l7, l8], [v0], S) = rn xL_sound (224, [l0, l1, l2, l3, l4, l5, some (vI a), l7, l8], [vI a, v0], S) := rn_step dL_sound_222 rfl rfl
set_option maxRecDepth 100000 in
theorem eL_sound_224 {l0 l1 l2 l3 l4 l5 l6 l7 l8 : Option VV} {v0 v1 : VV} {S : MM} : rn xL_sound (224, [l0, l1, l2, l3, l4, l5, l6, l7, l8], [v0, v1], S) = rn xL_sound (225, [l0, l1, l2, l3, l4, l5, l6, l7, l8], [vI 1, v0, v1], S) := rn_step dL_sound_224 rfl rfl
set_option maxRecDepth 100000 in
theorem eL_sound_225 {a0 : Int} {a1 : Int} {l0 l1 l2 l3 l4 l5 l6 l7 l8 : Option VV} {S : MM} : rn xL_sound (225, [l0, l1, l2, l3, l4, l5, l6, l7, l8], [vI a1, vI a0, vR 0], S) = (fX8_ofWalker [vR 0, vI a0, vI a1] S).bind (fun q => rn xL_sound (228, [l0, l1, l2, l3, l4, l5, l6, l7, l8], q.1.toList ++ [], q.2)) := q_callV (n := 2) (as := [vI a0, vI a1]) (rest := []) dL_sound_225 rfl rfl rfl rfl kd0
set_option maxRecDepth 100000 in
theorem eL_sound_228 {a : Int} {l0 l1 l2 l3 l4 l5 l6 l8 : Option VV} {v0 : VV} {S : MM} : rn xL_sound (228, [l0, l1, l2, l3, l4, l5, l6, some (vI a), l8], [v0], S) = rn xL_sound (230, [l0, l1, l2, l3, l4, l5, l6, some (vI a), l8], [vI a, v0], S) := rn_step dL_sound_228 rfl rfl
set_option maxRecDepth 100000 in
theorem eL_sound_230 {a b : Int} {l0 l1 l2 l3 l4 l5 l6 l7 l8 : Option VV} (h : -2147483648 ≤ a ∧ a ≤ 2147483647) (h1 : -2147483648 ≤ b ∧ b ≤ 2147483647) {S : MM} : rn xL_sound (230, [l0, l1, l2, l3, l4, l5, l6, l7, l8], [vI b, vI a], S) = if a = b then rn xL_sound (233, [l0, l1, l2, l3, l4, l5, l6, l7, l8], [], S) else rn xL_sound (239, [l0, l1, l2, l3, l4, l5, l6, l7, l8], [], S) := q_icmp_ne dL_sound_230 (by decide) rfl h h1
set_option maxRecDepth 100000 in
theorem eL_sound_233 {a : Int} {l0 l1 l2 l3 l4 l6 l7 l8 : Option VV} {S : MM} : rn xL_sound (233, [l0, l1, l2, l3, l4, some (vI a), l6, l7, l8], [], S) = rn xL_sound (235, [l0, l1, l2, l3, l4, some (vI a), l6, l7, l8], [vI a], S) := rn_step dL_sound_233 rfl rfl
set_option maxRecDepth 100000 in
theorem eL_sound_235 {l0 l1 l2 l3 l4 l5 l6 l7 l8 : Option VV} {v0 : VV} {S : MM} : rn xL_sound (235, [l0, l1, l2, l3, l4, l5, l6, l7, l8], [v0], S) = rn xL_sound (236, [l0, l1, l2, l3, l4, l5, l6, l7, l8], [vI 1, v0], S) := rn_step dL_sound_235 rfl rfl
set_option maxRecDepth 100000 in
theorem eL_sound_236 {a b : Int} {l0 l1 l2 l3 l4 l5 l6 l7 l8 : Option VV} (h : -2147483648 ≤ a ∧ a ≤ 2147483647) (h1 : -2147483648 ≤ b ∧ b ≤ 2147483647) {S : MM} : rn xL_sound (236, [l0, l1, l2, l3, l4, l5, l6, l7, l8], [vI b, vI a], S) = if a = b then rn xL_sound (241, [l0, l1, l2, l3, l4, l5, l6, l7, l8], [], S) else rn xL_sound (239, [l0, l1, l2, l3, l4, l5, l6, l7, l8], [], S) := q_icmp_eq dL_sound_236 (by decide) rfl h h1
set_option maxRecDepth 100000 in
theorem eL_sound_239 {l0 l1 l2 l3 l4 l5 l6 l7 l8 : Option VV} {S : MM} : rn xL_sound (239, [l0, l1, l2, l3, l4, l5, l6, l7, l8], [], S) = rn xL_sound (240, [l0, l1, l2, l3, l4, l5, l6, l7, l8], [vI 0], S) := rn_step dL_sound_239 rfl rfl
set_option maxRecDepth 100000 in
theorem eL_sound_240 {z : Int} {l0 l1 l2 l3 l4 l5 l6 l7 l8 : Option VV} (hz : z = 0 ∨ z = 1) {S : MM} : rn xL_sound (240, [l0, l1, l2, l3, l4, l5, l6, l7, l8], [vI z], S) = some (some (vI z), S) := q_retZ dL_sound_240 rfl hz
set_option maxRecDepth 100000 in
theorem eL_sound_241 {a : Int} {l0 l1 l2 l3 l4 l6 l7 l8 : Option VV} {S : MM} : rn xL_sound (241, [l0, l1, l2, l3, l4, some (vI a), l6, l7, l8], [], S) = rn xL_sound (243, [l0, l1, l2, l3, l4, some (vI a), l6, l7, l8], [vI a], S) := rn_step dL_sound_241 rfl rfl
set_option maxRecDepth 100000 in
theorem eL_sound_243 {a : Int} {l0 l1 l2 l3 l4 l5 l6 l7 l8 : Option VV} (h : -2147483648 ≤ a ∧ a ≤ 2147483647) {S : MM} : rn xL_sound (243, [l0, l1, l2, l3, l4, l5, l6, l7, l8], [vI a], S) = if a = 0 then rn xL_sound (246, [l0, l1, l2, l3, l4, l5, l6, l7, l8], [], S) else rn xL_sound (258, [l0, l1, l2, l3, l4, l5, l6, l7, l8], [], S) := q_if_ne dL_sound_243 (by decide) rfl h
set_option maxRecDepth 100000 in
theorem eL_sound_246 {a : Int} {l0 l1 l2 l3 l4 l5 l6 l7 : Option VV} {S : MM} : rn xL_sound (246, [l0, l1, l2, l3, l4, l5, l6, l7, some (vI a)], [], S) = rn xL_sound (248, [l0, l1, l2, l3, l4, l5, l6, l7, some (vI a)], [vI a], S) := rn_step dL_sound_246 rfl rfl
set_option maxRecDepth 100000 in
theorem eL_sound_248 {a : Option Nat} {l1 l2 l3 l4 l5 l6 l7 l8 : Option VV} {v0 : VV} {S : MM} : rn xL_sound (248, [some (.inr (.inl a)), l1, l2, l3, l4, l5, l6, l7, l8], [v0], S) = rn xL_sound (249, [some (.inr (.inl a)), l1, l2, l3, l4, l5, l6, l7, l8], [.inr (.inl a), v0], S) := rn_step dL_sound_248 rfl rfl
set_option maxRecDepth 100000 in
theorem eL_sound_249 {l0 l1 l2 l3 l4 l5 l6 l7 l8 : Option VV} {v0 v1 : VV} {S : MM} : rn xL_sound (249, [l0, l1, l2, l3, l4, l5, l6, l7, l8], [v0, v1], S) = rn xL_sound (250, [l0, l1, l2, l3, l4, l5, l6, l7, l8], [vI 3, v0, v1], S) := rn_step dL_sound_249 rfl rfl
set_option maxRecDepth 100000 in
theorem eL_sound_250 {a0 : Int} {l0 l1 l2 l3 l4 l5 l6 l7 l8 : Option VV} {v2 : VV} {S : MM} : rn xL_sound (250, [l0, l1, l2, l3, l4, l5, l6, l7, l8], [vI a0, vR 0, v2], S) = (fX8_count [vR 0, vI a0] S).bind (fun q => rn xL_sound (253, [l0, l1, l2, l3, l4, l5, l6, l7, l8], q.1.toList ++ [v2], q.2)) := q_callV (n := 1) (as := [vI a0]) (rest := [v2]) dL_sound_250 rfl rfl rfl rfl kd0
set_option maxRecDepth 100000 in
theorem eL_sound_253 {a b : Int} {l0 l1 l2 l3 l4 l5 l6 l7 l8 : Option VV} (h : -2147483648 ≤ a ∧ a ≤ 2147483647) (h1 : -2147483648 ≤ b ∧ b ≤ 2147483647) {S : MM} : rn xL_sound (253, [l0, l1, l2, l3, l4, l5, l6, l7, l8], [vI b, vI a], S) = if b < a then rn xL_sound (256, [l0, l1, l2, l3, l4, l5, l6, l7, l8], [], S) else rn xL_sound (258, [l0, l1, l2, l3, l4, l5, l6, l7, l8], [], S) := q_icmp_le dL_sound_253 (by decide) rfl h h1
set_option maxRecDepth 100000 in
theorem eL_sound_256 {l0 l1 l2 l3 l4 l5 l6 l7 l8 : Option VV} {S : MM} : rn xL_sound (256, [l0, l1, l2, l3, l4, l5, l6, l7, l8], [], S) = rn xL_sound (257, [l0, l1, l2, l3, l4, l5, l6, l7, l8], [vI 0], S) := rn_step dL_sound_256 rfl rfl
set_option maxRecDepth 100000 in
theorem eL_sound_257 {z : Int} {l0 l1 l2 l3 l4 l5 l6 l7 l8 : Option VV} (hz : z = 0 ∨ z = 1) {S : MM} : rn xL_sound (257, [l0, l1, l2, l3, l4, l5, l6, l7, l8], [vI z], S) = some (some (vI z), S) := q_retZ dL_sound_257 rfl hz
set_option maxRecDepth 100000 in
theorem eL_sound_258 {a : Int} {l0 l1 l3 l4 l5 l6 l7 l8 : Option VV} {S : MM} : rn xL_sound (258, [l0, l1, some (vI a), l3, l4, l5, l6, l7, l8], [], S) = rn xL_sound (259, [l0, l1, some (vI a), l3, l4, l5, l6, l7, l8], [vI a], S) := rn_step dL_sound_258 rfl rfl
set_option maxRecDepth 100000 in
theorem eL_sound_259 {a : Option Nat} {l1 l2 l3 l4 l5 l6 l7 l8 : Option VV} {v0 : VV} {S : MM} : rn xL_sound (259, [some (.inr (.inl a)), l1, l2, l3, l4, l5, l6, l7, l8], [v0], S) = rn xL_sound (260, [some (.inr (.inl a)), l1, l2, l3, l4, l5, l6, l7, l8], [.inr (.inl a), v0], S) := rn_step dL_sound_259 rfl rfl
set_option maxRecDepth 100000 in
theorem eL_sound_260 {a : Int} {l0 l1 l2 l3 l4 l5 l7 l8 : Option VV} {v0 v1 : VV} {S : MM} : rn xL_sound (260, [l0, l1, l2, l3, l4, l5, some (vI a), l7, l8], [v0, v1], S) = rn xL_sound (262, [l0, l1, l2, l3, l4, l5, some (vI a), l7, l8], [vI a, v0, v1], S) := rn_step dL_sound_260 rfl rfl
set_option maxRecDepth 100000 in
theorem eL_sound_262 {l0 l1 l2 l3 l4 l5 l6 l7 l8 : Option VV} {v0 v1 v2 : VV} {S : MM} : rn xL_sound (262, [l0, l1, l2, l3, l4, l5, l6, l7, l8], [v0, v1, v2], S) = rn xL_sound (263, [l0, l1, l2, l3, l4, l5, l6, l7, l8], [vI 3, v0, v1, v2], S) := rn_step dL_sound_262 rfl rfl
set_option maxRecDepth 100000 in
theorem eL_sound_263 {a0 : Int} {a1 : Int} {l0 l1 l2 l3 l4 l5 l6 l7 l8 : Option VV} {v3 : VV} {S : MM} : rn xL_sound (263, [l0, l1, l2, l3, l4, l5, l6, l7, l8], [vI a1, vI a0, vR 0, v3], S) = (fX8_ofWalker [vR 0, vI a0, vI a1] S).bind (fun q => rn xL_sound (266, [l0, l1, l2, l3, l4, l5, l6, l7, l8], q.1.toList ++ [v3], q.2)) := q_callV (n := 2) (as := [vI a0, vI a1]) (rest := [v3]) dL_sound_263 rfl rfl rfl rfl kd0
set_option maxRecDepth 100000 in
theorem eL_sound_266 {a b : Int} {l0 l1 l2 l3 l4 l5 l6 l7 l8 : Option VV} {S : MM} : rn xL_sound (266, [l0, l1, l2, l3, l4, l5, l6, l7, l8], [vI b, vI a], S) = rn xL_sound (267, [l0, l1, l2, l3, l4, l5, l6, l7, l8], [vI (a + b)], S) := rn_step dL_sound_266 rfl rfl
set_option maxRecDepth 100000 in
theorem eL_sound_267 {a : Int} {w : Int} {l0 l2 l3 l4 l5 l6 l7 l8 : Option VV} {S : MM} : rn xL_sound (267, [l0, some (vI w), l2, l3, l4, l5, l6, l7, l8], [vI a], S) = rn xL_sound (268, [l0, some (vI w), some (vI a), l3, l4, l5, l6, l7, l8], [], S) := rn_step dL_sound_267 rfl rfl
set_option maxRecDepth 100000 in
theorem eL_sound_268 {a : Int} {l0 l1 l2 l4 l5 l6 l7 l8 : Option VV} {S : MM} : rn xL_sound (268, [l0, l1, l2, some (vI a), l4, l5, l6, l7, l8], [], S) = rn xL_sound (269, [l0, l1, l2, some (vI a), l4, l5, l6, l7, l8], [vI a], S) := rn_step dL_sound_268 rfl rfl
set_option maxRecDepth 100000 in
theorem eL_sound_269 {a : Option Nat} {l1 l2 l3 l4 l5 l6 l7 l8 : Option VV} {v0 : VV} {S : MM} : rn xL_sound (269, [some (.inr (.inl a)), l1, l2, l3, l4, l5, l6, l7, l8], [v0], S) = rn xL_sound (270, [some (.inr (.inl a)), l1, l2, l3, l4, l5, l6, l7, l8], [.inr (.inl a), v0], S) := rn_step dL_sound_269 rfl rfl
set_option maxRecDepth 100000 in
theorem eL_sound_270 {a : Int} {l0 l1 l2 l3 l4 l5 l7 l8 : Option VV} {v0 v1 : VV} {S : MM} : rn xL_sound (270, [l0, l1, l2, l3, l4, l5, some (vI a), l7, l8], [v0, v1], S) = rn xL_sound (272, [l0, l1, l2, l3, l4, l5, some (vI a), l7, l8], [vI a, v0, v1], S) := rn_step dL_sound_270 rfl rfl
set_option maxRecDepth 100000 in
theorem eL_sound_272 {l0 l1 l2 l3 l4 l5 l6 l7 l8 : Option VV} {v0 v1 v2 : VV} {S : MM} : rn xL_sound (272, [l0, l1, l2, l3, l4, l5, l6, l7, l8], [v0, v1, v2], S) = rn xL_sound (273, [l0, l1, l2, l3, l4, l5, l6, l7, l8], [vI 4, v0, v1, v2], S) := rn_step dL_sound_272 rfl rfl
set_option maxRecDepth 100000 in
theorem eL_sound_273 {a0 : Int} {a1 : Int} {l0 l1 l2 l3 l4 l5 l6 l7 l8 : Option VV} {v3 : VV} {S : MM} : rn xL_sound (273, [l0, l1, l2, l3, l4, l5, l6, l7, l8], [vI a1, vI a0, vR 0, v3], S) = (fX8_ofWalker [vR 0, vI a0, vI a1] S).bind (fun q => rn xL_sound (276, [l0, l1, l2, l3, l4, l5, l6, l7, l8], q.1.toList ++ [v3], q.2)) := q_callV (n := 2) (as := [vI a0, vI a1]) (rest := [v3]) dL_sound_273 rfl rfl rfl rfl kd0
set_option maxRecDepth 100000 in
theorem eL_sound_276 {a b : Int} {l0 l1 l2 l3 l4 l5 l6 l7 l8 : Option VV} {S : MM} : rn xL_sound (276, [l0, l1, l2, l3, l4, l5, l6, l7, l8], [vI b, vI a], S) = rn xL_sound (277, [l0, l1, l2, l3, l4, l5, l6, l7, l8], [vI (a + b)], S) := rn_step dL_sound_276 rfl rfl
set_option maxRecDepth 100000 in
theorem eL_sound_277 {a : Int} {w : Int} {l0 l1 l3 l4 l5 l6 l7 l8 : Option VV} {S : MM} : rn xL_sound (277, [l0, l1, some (vI w), l3, l4, l5, l6, l7, l8], [vI a], S) = rn xL_sound (278, [l0, l1, some (vI w), some (vI a), l4, l5, l6, l7, l8], [], S) := rn_step dL_sound_277 rfl rfl
set_option maxRecDepth 100000 in
theorem eL_sound_278 {a : Int} {l0 l1 l2 l3 l5 l6 l7 l8 : Option VV} {S : MM} : rn xL_sound (278, [l0, l1, l2, l3, some (vI a), l5, l6, l7, l8], [], S) = rn xL_sound (280, [l0, l1, l2, l3, some (vI a), l5, l6, l7, l8], [vI a], S) := rn_step dL_sound_278 rfl rfl
set_option maxRecDepth 100000 in
theorem eL_sound_280 {a : Option Nat} {l1 l2 l3 l4 l5 l6 l7 l8 : Option VV} {v0 : VV} {S : MM} : rn xL_sound (280, [some (.inr (.inl a)), l1, l2, l3, l4, l5, l6, l7, l8], [v0], S) = rn xL_sound (281, [some (.inr (.inl a)), l1, l2, l3, l4, l5, l6, l7, l8], [.inr (.inl a), v0], S) := rn_step dL_sound_280 rfl rfl
set_option maxRecDepth 100000 in
theorem eL_sound_281 {a : Int} {l0 l1 l2 l3 l4 l5 l7 l8 : Option VV} {v0 v1 : VV} {S : MM} : rn xL_sound (281, [l0, l1, l2, l3, l4, l5, some (vI a), l7, l8], [v0, v1], S) = rn xL_sound (283, [l0, l1, l2, l3, l4, l5, some (vI a), l7, l8], [vI a, v0, v1], S) := rn_step dL_sound_281 rfl rfl
set_option maxRecDepth 100000 in
theorem eL_sound_283 {l0 l1 l2 l3 l4 l5 l6 l7 l8 : Option VV} {v0 v1 v2 : VV} {S : MM} : rn xL_sound (283, [l0, l1, l2, l3, l4, l5, l6, l7, l8], [v0, v1, v2], S) = rn xL_sound (284, [l0, l1, l2, l3, l4, l5, l6, l7, l8], [vI 5, v0, v1, v2], S) := rn_step dL_sound_283 rfl rfl
set_option maxRecDepth 100000 in
theorem eL_sound_284 {a0 : Int} {a1 : Int} {l0 l1 l2 l3 l4 l5 l6 l7 l8 : Option VV} {v3 : VV} {S : MM} : rn xL_sound (284, [l0, l1, l2, l3, l4, l5, l6, l7, l8], [vI a1, vI a0, vR 0, v3], S) = (fX8_ofWalker [vR 0, vI a0, vI a1] S).bind (fun q => rn xL_sound (287, [l0, l1, l2, l3, l4, l5, l6, l7, l8], q.1.toList ++ [v3], q.2)) := q_callV (n := 2) (as := [vI a0, vI a1]) (rest := [v3]) dL_sound_284 rfl rfl rfl rfl kd0
set_option maxRecDepth 100000 in
theorem eL_sound_287 {a b : Int} {l0 l1 l2 l3 l4 l5 l6 l7 l8 : Option VV} {S : MM} : rn xL_sound (287, [l0, l1, l2, l3, l4, l5, l6, l7, l8], [vI b, vI a], S) = rn xL_sound (288, [l0, l1, l2, l3, l4, l5, l6, l7, l8], [vI (a + b)], S) := rn_step dL_sound_287 rfl rfl
set_option maxRecDepth 100000 in
theorem eL_sound_288 {a : Int} {w : Int} {l0 l1 l2 l4 l5 l6 l7 l8 : Option VV} {S : MM} : rn xL_sound (288, [l0, l1, l2, some (vI w), l4, l5, l6, l7, l8], [vI a], S) = rn xL_sound (290, [l0, l1, l2, some (vI w), some (vI a), l5, l6, l7, l8], [], S) := rn_step dL_sound_288 rfl rfl
set_option maxRecDepth 100000 in
theorem eL_sound_290 {a : Int} {w : Int} {l0 l1 l2 l3 l4 l7 l8 : Option VV} {S : MM} : rn xL_sound (290, [l0, l1, l2, l3, l4, some (vI w), some (vI a), l7, l8], [], S) = rn xL_sound (293, [l0, l1, l2, l3, l4, some (vI w), some (vI (a + 1)), l7, l8], [], S) := rn_step dL_sound_290 rfl rfl
set_option maxRecDepth 100000 in
theorem eL_sound_293 {l0 l1 l2 l3 l4 l5 l6 l7 l8 : Option VV} {S : MM} : rn xL_sound (293, [l0, l1, l2, l3, l4, l5, l6, l7, l8], [], S) = rn xL_sound (19, [l0, l1, l2, l3, l4, l5, l6, l7, l8], [], S) := rn_step dL_sound_293 rfl rfl
set_option maxRecDepth 100000 in
theorem eL_sound_296 {a : Option Nat} {l1 l2 l3 l4 l5 l6 l7 l8 : Option VV} {S : MM} : rn xL_sound (296, [some (.inr (.inl a)), l1, l2, l3, l4, l5, l6, l7, l8], [], S) = rn xL_sound (297, [some (.inr (.inl a)), l1, l2, l3, l4, l5, l6, l7, l8], [.inr (.inl a)], S) := rn_step dL_sound_296 rfl rfl
set_option maxRecDepth 100000 in
theorem eL_sound_297 {l0 l1 l2 l3 l4 l5 l6 l7 l8 : Option VV} {v0 : VV} {S : MM} : rn xL_sound (297, [l0, l1, l2, l3, l4, l5, l6, l7, l8], [v0], S) = rn xL_sound (298, [l0, l1, l2, l3, l4, l5, l6, l7, l8], [vI 0, v0], S) := rn_step dL_sound_297 rfl rfl
set_option maxRecDepth 100000 in
theorem eL_sound_298 {a0 : Int} {l0 l1 l2 l3 l4 l5 l6 l7 l8 : Option VV} {S : MM} : rn xL_sound (298, [l0, l1, l2, l3, l4, l5, l6, l7, l8], [vI a0, vR 0], S) = (fX8_count [vR 0, vI a0] S).bind (fun q => rn xL_sound (301, [l0, l1, l2, l3, l4, l5, l6, l7, l8], q.1.toList ++ [], q.2)) := q_callV (n := 1) (as := [vI a0]) (rest := []) dL_sound_298 rfl rfl rfl rfl kd0
set_option maxRecDepth 100000 in
theorem eL_sound_301 {a : Int} {l0 l2 l3 l4 l5 l6 l7 l8 : Option VV} {v0 : VV} {S : MM} : rn xL_sound (301, [l0, some (vI a), l2, l3, l4, l5, l6, l7, l8], [v0], S) = rn xL_sound (302, [l0, some (vI a), l2, l3, l4, l5, l6, l7, l8], [vI a, v0], S) := rn_step dL_sound_301 rfl rfl
set_option maxRecDepth 100000 in
theorem eL_sound_302 {a b : Int} {l0 l1 l2 l3 l4 l5 l6 l7 l8 : Option VV} (h : -2147483648 ≤ a ∧ a ≤ 2147483647) (h1 : -2147483648 ≤ b ∧ b ≤ 2147483647) {S : MM} : rn xL_sound (302, [l0, l1, l2, l3, l4, l5, l6, l7, l8], [vI b, vI a], S) = if a = b then rn xL_sound (305, [l0, l1, l2, l3, l4, l5, l6, l7, l8], [], S) else rn xL_sound (322, [l0, l1, l2, l3, l4, l5, l6, l7, l8], [], S) := q_icmp_ne dL_sound_302 (by decide) rfl h h1
set_option maxRecDepth 100000 in
theorem eL_sound_305 {a : Option Nat} {l1 l2 l3 l4 l5 l6 l7 l8 : Option VV} {S : MM} : rn xL_sound (305, [some (.inr (.inl a)), l1, l2, l3, l4, l5, l6, l7, l8], [], S) = rn xL_sound (306, [some (.inr (.inl a)), l1, l2, l3, l4, l5, l6, l7, l8], [.inr (.inl a)], S) := rn_step dL_sound_305 rfl rfl
set_option maxRecDepth 100000 in
theorem eL_sound_306 {l0 l1 l2 l3 l4 l5 l6 l7 l8 : Option VV} {v0 : VV} {S : MM} : rn xL_sound (306, [l0, l1, l2, l3, l4, l5, l6, l7, l8], [v0], S) = rn xL_sound (307, [l0, l1, l2, l3, l4, l5, l6, l7, l8], [vI 1, v0], S) := rn_step dL_sound_306 rfl rfl
set_option maxRecDepth 100000 in
theorem eL_sound_307 {a0 : Int} {l0 l1 l2 l3 l4 l5 l6 l7 l8 : Option VV} {S : MM} : rn xL_sound (307, [l0, l1, l2, l3, l4, l5, l6, l7, l8], [vI a0, vR 0], S) = (fX8_count [vR 0, vI a0] S).bind (fun q => rn xL_sound (310, [l0, l1, l2, l3, l4, l5, l6, l7, l8], q.1.toList ++ [], q.2)) := q_callV (n := 1) (as := [vI a0]) (rest := []) dL_sound_307 rfl rfl rfl rfl kd0
set_option maxRecDepth 100000 in
theorem eL_sound_310 {a : Int} {l0 l1 l2 l3 l4 l5 l6 l7 l8 : Option VV} (h : -2147483648 ≤ a ∧ a ≤ 2147483647) {S : MM} : rn xL_sound (310, [l0, l1, l2, l3, l4, l5, l6, l7, l8], [vI a], S) = if a < 0 then rn xL_sound (322, [l0, l1, l2, l3, l4, l5, l6, l7, l8], [], S) else rn xL_sound (313, [l0, l1, l2, l3, l4, l5, l6, l7, l8], [], S) := q_if_lt dL_sound_310 (by decide) rfl h
set_option maxRecDepth 100000 in
theorem eL_sound_313 {a : Option Nat} {l1 l2 l3 l4 l5 l6 l7 l8 : Option VV} {S : MM} : rn xL_sound (313, [some (.inr (.inl a)), l1, l2, l3, l4, l5, l6, l7, l8], [], S) = rn xL_sound (314, [some (.inr (.inl a)), l1, l2, l3, l4, l5, l6, l7, l8], [.inr (.inl a)], S) := rn_step dL_sound_313 rfl rfl
set_option maxRecDepth 100000 in
theorem eL_sound_314 {l0 l1 l2 l3 l4 l5 l6 l7 l8 : Option VV} {v0 : VV} {S : MM} : rn xL_sound (314, [l0, l1, l2, l3, l4, l5, l6, l7, l8], [v0], S) = rn xL_sound (315, [l0, l1, l2, l3, l4, l5, l6, l7, l8], [vI 1, v0], S) := rn_step dL_sound_314 rfl rfl
set_option maxRecDepth 100000 in
theorem eL_sound_315 {a0 : Int} {l0 l1 l2 l3 l4 l5 l6 l7 l8 : Option VV} {S : MM} : rn xL_sound (315, [l0, l1, l2, l3, l4, l5, l6, l7, l8], [vI a0, vR 0], S) = (fX8_count [vR 0, vI a0] S).bind (fun q => rn xL_sound (318, [l0, l1, l2, l3, l4, l5, l6, l7, l8], q.1.toList ++ [], q.2)) := q_callV (n := 1) (as := [vI a0]) (rest := []) dL_sound_315 rfl rfl rfl rfl kd0
set_option maxRecDepth 100000 in
theorem eL_sound_318 {l0 l1 l2 l3 l4 l5 l6 l7 l8 : Option VV} {v0 : VV} {S : MM} : rn xL_sound (318, [l0, l1, l2, l3, l4, l5, l6, l7, l8], [v0], S) = rn xL_sound (319, [l0, l1, l2, l3, l4, l5, l6, l7, l8], [vI 4, v0], S) := rn_step dL_sound_318 rfl rfl
set_option maxRecDepth 100000 in
theorem eL_sound_319 {a b : Int} {l0 l1 l2 l3 l4 l5 l6 l7 l8 : Option VV} (h : -2147483648 ≤ a ∧ a ≤ 2147483647) (h1 : -2147483648 ≤ b ∧ b ≤ 2147483647) {S : MM} : rn xL_sound (319, [l0, l1, l2, l3, l4, l5, l6, l7, l8], [vI b, vI a], S) = if b < a then rn xL_sound (322, [l0, l1, l2, l3, l4, l5, l6, l7, l8], [], S) else rn xL_sound (324, [l0, l1, l2, l3, l4, l5, l6, l7, l8], [], S) := q_icmp_le dL_sound_319 (by decide) rfl h h1
set_option maxRecDepth 100000 in
theorem eL_sound_322 {l0 l1 l2 l3 l4 l5 l6 l7 l8 : Option VV} {S : MM} : rn xL_sound (322, [l0, l1, l2, l3, l4, l5, l6, l7, l8], [], S) = rn xL_sound (323, [l0, l1, l2, l3, l4, l5, l6, l7, l8], [vI 0], S) := rn_step dL_sound_322 rfl rfl
set_option maxRecDepth 100000 in
theorem eL_sound_323 {z : Int} {l0 l1 l2 l3 l4 l5 l6 l7 l8 : Option VV} (hz : z = 0 ∨ z = 1) {S : MM} : rn xL_sound (323, [l0, l1, l2, l3, l4, l5, l6, l7, l8], [vI z], S) = some (some (vI z), S) := q_retZ dL_sound_323 rfl hz
set_option maxRecDepth 100000 in
theorem eL_sound_324 {a : Int} {l0 l1 l2 l3 l4 l6 l7 l8 : Option VV} {S : MM} : rn xL_sound (324, [l0, l1, l2, l3, l4, some (vI a), l6, l7, l8], [], S) = rn xL_sound (326, [l0, l1, l2, l3, l4, some (vI a), l6, l7, l8], [vI a], S) := rn_step dL_sound_324 rfl rfl
set_option maxRecDepth 100000 in
theorem eL_sound_326 {a : Int} {l0 l1 l2 l3 l4 l5 l6 l7 l8 : Option VV} (h : -2147483648 ≤ a ∧ a ≤ 2147483647) {S : MM} : rn xL_sound (326, [l0, l1, l2, l3, l4, l5, l6, l7, l8], [vI a], S) = if a < 0 then rn xL_sound (329, [l0, l1, l2, l3, l4, l5, l6, l7, l8], [], S) else rn xL_sound (374, [l0, l1, l2, l3, l4, l5, l6, l7, l8], [], S) := q_if_ge dL_sound_326 (by decide) rfl h
set_option maxRecDepth 100000 in
theorem eL_sound_329 {a : Option Nat} {l1 l2 l3 l4 l5 l6 l7 l8 : Option VV} {S : MM} : rn xL_sound (329, [some (.inr (.inl a)), l1, l2, l3, l4, l5, l6, l7, l8], [], S) = rn xL_sound (330, [some (.inr (.inl a)), l1, l2, l3, l4, l5, l6, l7, l8], [.inr (.inl a)], S) := rn_step dL_sound_329 rfl rfl
set_option maxRecDepth 100000 in
theorem eL_sound_330 {l0 l1 l2 l3 l4 l5 l6 l7 l8 : Option VV} {v0 : VV} {S : MM} : rn xL_sound (330, [l0, l1, l2, l3, l4, l5, l6, l7, l8], [v0], S) = rn xL_sound (332, [l0, l1, l2, l3, l4, l5, l6, l7, l8], [vI 7, v0], S) := rn_step dL_sound_330 rfl rfl
set_option maxRecDepth 100000 in
theorem eL_sound_332 {a0 : Int} {l0 l1 l2 l3 l4 l5 l6 l7 l8 : Option VV} {S : MM} : rn xL_sound (332, [l0, l1, l2, l3, l4, l5, l6, l7, l8], [vI a0, vR 0], S) = (fX8_ofRun [vR 0, vI a0] S).bind (fun q => rn xL_sound (335, [l0, l1, l2, l3, l4, l5, l6, l7, l8], q.1.toList ++ [], q.2)) := q_callV (n := 1) (as := [vI a0]) (rest := []) dL_sound_332 rfl rfl rfl rfl kd0
set_option maxRecDepth 100000 in
theorem eL_sound_335 {l0 l1 l2 l3 l4 l5 l6 l7 l8 : Option VV} {v0 : VV} {S : MM} : rn xL_sound (335, [l0, l1, l2, l3, l4, l5, l6, l7, l8], [v0], S) = rn xL_sound (337, [l0, l1, l2, l3, l4, l5, l6, l7, l8], [vI (-6), v0], S) := rn_step dL_sound_335 rfl rfl
set_option maxRecDepth 100000 in
theorem eL_sound_337 {a b : Int} {l0 l1 l2 l3 l4 l5 l6 l7 l8 : Option VV} (h : -2147483648 ≤ a ∧ a ≤ 2147483647) (h1 : -2147483648 ≤ b ∧ b ≤ 2147483647) {S : MM} : rn xL_sound (337, [l0, l1, l2, l3, l4, l5, l6, l7, l8], [vI b, vI a], S) = if a = b then rn xL_sound (340, [l0, l1, l2, l3, l4, l5, l6, l7, l8], [], S) else rn xL_sound (372, [l0, l1, l2, l3, l4, l5, l6, l7, l8], [], S) := q_icmp_ne dL_sound_337 (by decide) rfl h h1
set_option maxRecDepth 100000 in
theorem eL_sound_340 {a : Option Nat} {l1 l2 l3 l4 l5 l6 l7 l8 : Option VV} {S : MM} : rn xL_sound (340, [some (.inr (.inl a)), l1, l2, l3, l4, l5, l6, l7, l8], [], S) = rn xL_sound (341, [some (.inr (.inl a)), l1, l2, l3, l4, l5, l6, l7, l8], [.inr (.inl a)], S) := rn_step dL_sound_340 rfl rfl
set_option maxRecDepth 100000 in
theorem eL_sound_341 {l0 l1 l2 l3 l4 l5 l6 l7 l8 : Option VV} {S : MM} : rn xL_sound (341, [l0, l1, l2, l3, l4, l5, l6, l7, l8], [vR 0], S) = (fX8_leap [vR 0] S).bind (fun q => rn xL_sound (344, [l0, l1, l2, l3, l4, l5, l6, l7, l8], q.1.toList ++ [], q.2)) := q_callV (n := 0) (as := []) (rest := []) dL_sound_341 rfl rfl rfl rfl kd0
set_option maxRecDepth 100000 in
theorem eL_sound_344 {l0 l1 l2 l3 l4 l5 l6 l7 l8 : Option VV} {v0 : VV} {S : MM} : rn xL_sound (344, [l0, l1, l2, l3, l4, l5, l6, l7, l8], [v0], S) = rn xL_sound (346, [l0, l1, l2, l3, l4, l5, l6, l7, l8], [vI (-5), v0], S) := rn_step dL_sound_344 rfl rfl
set_option maxRecDepth 100000 in
theorem eL_sound_346 {a b : Int} {l0 l1 l2 l3 l4 l5 l6 l7 l8 : Option VV} (h : -2147483648 ≤ a ∧ a ≤ 2147483647) (h1 : -2147483648 ≤ b ∧ b ≤ 2147483647) {S : MM} : rn xL_sound (346, [l0, l1, l2, l3, l4, l5, l6, l7, l8], [vI b, vI a], S) = if a = b then rn xL_sound (349, [l0, l1, l2, l3, l4, l5, l6, l7, l8], [], S) else rn xL_sound (372, [l0, l1, l2, l3, l4, l5, l6, l7, l8], [], S) := q_icmp_ne dL_sound_346 (by decide) rfl h h1
set_option maxRecDepth 100000 in
theorem eL_sound_349 {a : Option Nat} {l1 l2 l3 l4 l5 l6 l7 l8 : Option VV} {S : MM} : rn xL_sound (349, [some (.inr (.inl a)), l1, l2, l3, l4, l5, l6, l7, l8], [], S) = rn xL_sound (350, [some (.inr (.inl a)), l1, l2, l3, l4, l5, l6, l7, l8], [.inr (.inl a)], S) := rn_step dL_sound_349 rfl rfl
set_option maxRecDepth 100000 in
theorem eL_sound_350 {l0 l1 l2 l3 l4 l5 l6 l7 l8 : Option VV} {S : MM} : rn xL_sound (350, [l0, l1, l2, l3, l4, l5, l6, l7, l8], [vR 0], S) = (fX8_run [vR 0] S).bind (fun q => rn xL_sound (353, [l0, l1, l2, l3, l4, l5, l6, l7, l8], q.1.toList ++ [], q.2)) := q_callV (n := 0) (as := []) (rest := []) dL_sound_350 rfl rfl rfl rfl kd0
set_option maxRecDepth 100000 in
theorem eL_sound_353 {l0 l1 l2 l3 l4 l5 l6 l7 l8 : Option VV} {v0 : VV} {S : MM} : rn xL_sound (353, [l0, l1, l2, l3, l4, l5, l6, l7, l8], [v0], S) = rn xL_sound (355, [l0, l1, l2, l3, l4, l5, l6, l7, l8], [vI (-5), v0], S) := rn_step dL_sound_353 rfl rfl
set_option maxRecDepth 100000 in
theorem eL_sound_355 {a b : Int} {l0 l1 l2 l3 l4 l5 l6 l7 l8 : Option VV} (h : -2147483648 ≤ a ∧ a ≤ 2147483647) (h1 : -2147483648 ≤ b ∧ b ≤ 2147483647) {S : MM} : rn xL_sound (355, [l0, l1, l2, l3, l4, l5, l6, l7, l8], [vI b, vI a], S) = if a = b then rn xL_sound (358, [l0, l1, l2, l3, l4, l5, l6, l7, l8], [], S) else rn xL_sound (372, [l0, l1, l2, l3, l4, l5, l6, l7, l8], [], S) := q_icmp_ne dL_sound_355 (by decide) rfl h h1
set_option maxRecDepth 100000 in
theorem eL_sound_358 {a : Option Nat} {l1 l2 l3 l4 l5 l6 l7 l8 : Option VV} {S : MM} : rn xL_sound (358, [some (.inr (.inl a)), l1, l2, l3, l4, l5, l6, l7, l8], [], S) = rn xL_sound (359, [some (.inr (.inl a)), l1, l2, l3, l4, l5, l6, l7, l8], [.inr (.inl a)], S) := rn_step dL_sound_358 rfl rfl
set_option maxRecDepth 100000 in
theorem eL_sound_359 {l0 l1 l2 l3 l4 l5 l6 l7 l8 : Option VV} {v0 : VV} {S : MM} : rn xL_sound (359, [l0, l1, l2, l3, l4, l5, l6, l7, l8], [v0], S) = rn xL_sound (360, [l0, l1, l2, l3, l4, l5, l6, l7, l8], [vI 0, v0], S) := rn_step dL_sound_359 rfl rfl
set_option maxRecDepth 100000 in
theorem eL_sound_360 {l0 l1 l2 l3 l4 l5 l6 l7 l8 : Option VV} {v0 v1 : VV} {S : MM} : rn xL_sound (360, [l0, l1, l2, l3, l4, l5, l6, l7, l8], [v0, v1], S) = rn xL_sound (361, [l0, l1, l2, l3, l4, l5, l6, l7, l8], [vI 0, v0, v1], S) := rn_step dL_sound_360 rfl rfl
set_option maxRecDepth 100000 in
theorem eL_sound_361 {a0 : Int} {a1 : Int} {l0 l1 l2 l3 l4 l5 l6 l7 l8 : Option VV} {S : MM} : rn xL_sound (361, [l0, l1, l2, l3, l4, l5, l6, l7, l8], [vI a1, vI a0, vR 0], S) = (fX8_meeting [vR 0, vI a0, vI a1] S).bind (fun q => rn xL_sound (364, [l0, l1, l2, l3, l4, l5, l6, l7, l8], q.1.toList ++ [], q.2)) := q_callV (n := 2) (as := [vI a0, vI a1]) (rest := []) dL_sound_361 rfl rfl rfl rfl kd0
set_option maxRecDepth 100000 in
theorem eL_sound_364 {l0 l1 l2 l3 l4 l5 l6 l7 l8 : Option VV} {v0 : VV} {S : MM} : rn xL_sound (364, [l0, l1, l2, l3, l4, l5, l6, l7, l8], [v0], S) = rn xL_sound (365, [l0, l1, l2, l3, l4, l5, l6, l7, l8], [vI (-1), v0], S) := rn_step dL_sound_364 rfl rfl
set_option maxRecDepth 100000 in
theorem eL_sound_365 {a b : Int} {l0 l1 l2 l3 l4 l5 l6 l7 l8 : Option VV} (h : -2147483648 ≤ a ∧ a ≤ 2147483647) (h1 : -2147483648 ≤ b ∧ b ≤ 2147483647) {S : MM} : rn xL_sound (365, [l0, l1, l2, l3, l4, l5, l6, l7, l8], [vI b, vI a], S) = if a = b then rn xL_sound (368, [l0, l1, l2, l3, l4, l5, l6, l7, l8], [], S) else rn xL_sound (372, [l0, l1, l2, l3, l4, l5, l6, l7, l8], [], S) := q_icmp_ne dL_sound_365 (by decide) rfl h h1
set_option maxRecDepth 100000 in
theorem eL_sound_368 {l0 l1 l2 l3 l4 l5 l6 l7 l8 : Option VV} {S : MM} : rn xL_sound (368, [l0, l1, l2, l3, l4, l5, l6, l7, l8], [], S) = rn xL_sound (369, [l0, l1, l2, l3, l4, l5, l6, l7, l8], [vI 1], S) := rn_step dL_sound_368 rfl rfl
set_option maxRecDepth 100000 in
theorem eL_sound_369 {l0 l1 l2 l3 l4 l5 l6 l7 l8 : Option VV} {v0 : VV} {S : MM} : rn xL_sound (369, [l0, l1, l2, l3, l4, l5, l6, l7, l8], [v0], S) = rn xL_sound (373, [l0, l1, l2, l3, l4, l5, l6, l7, l8], [v0], S) := rn_step dL_sound_369 rfl rfl
set_option maxRecDepth 100000 in
theorem eL_sound_372 {l0 l1 l2 l3 l4 l5 l6 l7 l8 : Option VV} {S : MM} : rn xL_sound (372, [l0, l1, l2, l3, l4, l5, l6, l7, l8], [], S) = rn xL_sound (373, [l0, l1, l2, l3, l4, l5, l6, l7, l8], [vI 0], S) := rn_step dL_sound_372 rfl rfl
set_option maxRecDepth 100000 in
theorem eL_sound_373 {z : Int} {l0 l1 l2 l3 l4 l5 l6 l7 l8 : Option VV} (hz : z = 0 ∨ z = 1) {S : MM} : rn xL_sound (373, [l0, l1, l2, l3, l4, l5, l6, l7, l8], [vI z], S) = some (some (vI z), S) := q_retZ dL_sound_373 rfl hz
set_option maxRecDepth 100000 in
theorem eL_sound_374 {l0 l1 l2 l3 l4 l5 l6 l7 l8 : Option VV} {S : MM} : rn xL_sound (374, [l0, l1, l2, l3, l4, l5, l6, l7, l8], [], S) = rn xL_sound (375, [l0, l1, l2, l3, l4, l5, l6, l7, l8], [vI 0], S) := rn_step dL_sound_374 rfl rfl
set_option maxRecDepth 100000 in
theorem eL_sound_375 {a : Int} {w : Int} {l0 l1 l2 l3 l4 l6 l7 l8 : Option VV} {S : MM} : rn xL_sound (375, [l0, l1, l2, l3, l4, some (vI w), l6, l7, l8], [vI a], S) = rn xL_sound (377, [l0, l1, l2, l3, l4, some (vI w), some (vI a), l7, l8], [], S) := rn_step dL_sound_375 rfl rfl
set_option maxRecDepth 100000 in
theorem eL_sound_377 {l0 l1 l2 l3 l4 l5 l6 l7 l8 : Option VV} {S : MM} : rn xL_sound (377, [l0, l1, l2, l3, l4, l5, l6, l7, l8], [], S) = rn xL_sound (378, [l0, l1, l2, l3, l4, l5, l6, l7, l8], [vI 0], S) := rn_step dL_sound_377 rfl rfl
set_option maxRecDepth 100000 in
theorem eL_sound_378 {a : Int} {w : Int} {l0 l1 l2 l3 l4 l5 l7 l8 : Option VV} {S : MM} : rn xL_sound (378, [l0, l1, l2, l3, l4, l5, some (vI w), l7, l8], [vI a], S) = rn xL_sound (380, [l0, l1, l2, l3, l4, l5, some (vI w), some (vI a), l8], [], S) := rn_step dL_sound_378 rfl rfl
set_option maxRecDepth 100000 in
theorem eL_sound_380 {a : Int} {l0 l1 l2 l3 l4 l5 l6 l8 : Option VV} {S : MM} : rn xL_sound (380, [l0, l1, l2, l3, l4, l5, l6, some (vI a), l8], [], S) = rn xL_sound (382, [l0, l1, l2, l3, l4, l5, l6, some (vI a), l8], [vI a], S) := rn_step dL_sound_380 rfl rfl
set_option maxRecDepth 100000 in
theorem eL_sound_382 {a : Option Nat} {l1 l2 l3 l4 l5 l6 l7 l8 : Option VV} {v0 : VV} {S : MM} : rn xL_sound (382, [some (.inr (.inl a)), l1, l2, l3, l4, l5, l6, l7, l8], [v0], S) = rn xL_sound (383, [some (.inr (.inl a)), l1, l2, l3, l4, l5, l6, l7, l8], [.inr (.inl a), v0], S) := rn_step dL_sound_382 rfl rfl
set_option maxRecDepth 100000 in
theorem eL_sound_383 {l0 l1 l2 l3 l4 l5 l6 l7 l8 : Option VV} {v0 v1 : VV} {S : MM} : rn xL_sound (383, [l0, l1, l2, l3, l4, l5, l6, l7, l8], [v0, v1], S) = rn xL_sound (384, [l0, l1, l2, l3, l4, l5, l6, l7, l8], [vI 3, v0, v1], S) := rn_step dL_sound_383 rfl rfl
set_option maxRecDepth 100000 in
theorem eL_sound_384 {a0 : Int} {l0 l1 l2 l3 l4 l5 l6 l7 l8 : Option VV} {v2 : VV} {S : MM} : rn xL_sound (384, [l0, l1, l2, l3, l4, l5, l6, l7, l8], [vI a0, vR 0, v2], S) = (fX8_ofRun [vR 0, vI a0] S).bind (fun q => rn xL_sound (387, [l0, l1, l2, l3, l4, l5, l6, l7, l8], q.1.toList ++ [v2], q.2)) := q_callV (n := 1) (as := [vI a0]) (rest := [v2]) dL_sound_384 rfl rfl rfl rfl kd0
set_option maxRecDepth 100000 in
theorem eL_sound_387 {a b : Int} {l0 l1 l2 l3 l4 l5 l6 l7 l8 : Option VV} (h : -2147483648 ≤ a ∧ a ≤ 2147483647) (h1 : -2147483648 ≤ b ∧ b ≤ 2147483647) {S : MM} : rn xL_sound (387, [l0, l1, l2, l3, l4, l5, l6, l7, l8], [vI b, vI a], S) = if a < b then rn xL_sound (390, [l0, l1, l2, l3, l4, l5, l6, l7, l8], [], S) else rn xL_sound (449, [l0, l1, l2, l3, l4, l5, l6, l7, l8], [], S) := q_icmp_ge dL_sound_387 (by decide) rfl h h1
set_option maxRecDepth 100000 in
theorem eL_sound_390 {a : Int} {l0 l1 l2 l3 l4 l5 l7 l8 : Option VV} {S : MM} : rn xL_sound (390, [l0, l1, l2, l3, l4, l5, some (vI a), l7, l8], [], S) = rn xL_sound (392, [l0, l1, l2, l3, l4, l5, some (vI a), l7, l8], [vI a], S) := rn_step dL_sound_390 rfl rfl
set_option maxRecDepth 100000 in
theorem eL_sound_392 {a : Option Nat} {l1 l2 l3 l4 l5 l6 l7 l8 : Option VV} {v0 : VV} {S : MM} : rn xL_sound (392, [some (.inr (.inl a)), l1, l2, l3, l4, l5, l6, l7, l8], [v0], S) = rn xL_sound (393, [some (.inr (.inl a)), l1, l2, l3, l4, l5, l6, l7, l8], [.inr (.inl a), v0], S) := rn_step dL_sound_392 rfl rfl
set_option maxRecDepth 100000 in
theorem eL_sound_393 {a : Int} {l0 l1 l2 l3 l4 l5 l6 l8 : Option VV} {v0 v1 : VV} {S : MM} : rn xL_sound (393, [l0, l1, l2, l3, l4, l5, l6, some (vI a), l8], [v0, v1], S) = rn xL_sound (395, [l0, l1, l2, l3, l4, l5, l6, some (vI a), l8], [vI a, v0, v1], S) := rn_step dL_sound_393 rfl rfl
set_option maxRecDepth 100000 in
theorem eL_sound_395 {l0 l1 l2 l3 l4 l5 l6 l7 l8 : Option VV} {v0 v1 v2 : VV} {S : MM} : rn xL_sound (395, [l0, l1, l2, l3, l4, l5, l6, l7, l8], [v0, v1, v2], S) = rn xL_sound (396, [l0, l1, l2, l3, l4, l5, l6, l7, l8], [vI 1, v0, v1, v2], S) := rn_step dL_sound_395 rfl rfl
set_option maxRecDepth 100000 in
theorem eL_sound_396 {a0 : Int} {a1 : Int} {l0 l1 l2 l3 l4 l5 l6 l7 l8 : Option VV} {v3 : VV} {S : MM} : rn xL_sound (396, [l0, l1, l2, l3, l4, l5, l6, l7, l8], [vI a1, vI a0, vR 0, v3], S) = (fX8_meeting [vR 0, vI a0, vI a1] S).bind (fun q => rn xL_sound (399, [l0, l1, l2, l3, l4, l5, l6, l7, l8], q.1.toList ++ [v3], q.2)) := q_callV (n := 2) (as := [vI a0, vI a1]) (rest := [v3]) dL_sound_396 rfl rfl rfl rfl kd0
set_option maxRecDepth 100000 in
theorem eL_sound_399 {a b : Int} {l0 l1 l2 l3 l4 l5 l6 l7 l8 : Option VV} {S : MM} : rn xL_sound (399, [l0, l1, l2, l3, l4, l5, l6, l7, l8], [vI b, vI a], S) = rn xL_sound (400, [l0, l1, l2, l3, l4, l5, l6, l7, l8], [vI (a + b)], S) := rn_step dL_sound_399 rfl rfl
set_option maxRecDepth 100000 in
theorem eL_sound_400 {a : Int} {w : Int} {l0 l1 l2 l3 l4 l6 l7 l8 : Option VV} {S : MM} : rn xL_sound (400, [l0, l1, l2, l3, l4, some (vI w), l6, l7, l8], [vI a], S) = rn xL_sound (402, [l0, l1, l2, l3, l4, some (vI w), some (vI a), l7, l8], [], S) := rn_step dL_sound_400 rfl rfl
set_option maxRecDepth 100000 in
theorem eL_sound_402 {a : Int} {l0 l1 l2 l3 l4 l5 l6 l8 : Option VV} {S : MM} : rn xL_sound (402, [l0, l1, l2, l3, l4, l5, l6, some (vI a), l8], [], S) = rn xL_sound (404, [l0, l1, l2, l3, l4, l5, l6, some (vI a), l8], [vI a], S) := rn_step dL_sound_402 rfl rfl
set_option maxRecDepth 100000 in
theorem eL_sound_404 {a : Int} {l0 l1 l2 l3 l4 l5 l6 l7 l8 : Option VV} (h : -2147483648 ≤ a ∧ a ≤ 2147483647) {S : MM} : rn xL_sound (404, [l0, l1, l2, l3, l4, l5, l6, l7, l8], [vI a], S) = if 0 < a then rn xL_sound (407, [l0, l1, l2, l3, l4, l5, l6, l7, l8], [], S) else rn xL_sound (426, [l0, l1, l2, l3, l4, l5, l6, l7, l8], [], S) := q_if_le dL_sound_404 (by decide) rfl h
set_option maxRecDepth 100000 in
theorem eL_sound_407 {a : Option Nat} {l1 l2 l3 l4 l5 l6 l7 l8 : Option VV} {S : MM} : rn xL_sound (407, [some (.inr (.inl a)), l1, l2, l3, l4, l5, l6, l7, l8], [], S) = rn xL_sound (408, [some (.inr (.inl a)), l1, l2, l3, l4, l5, l6, l7, l8], [.inr (.inl a)], S) := rn_step dL_sound_407 rfl rfl
set_option maxRecDepth 100000 in
theorem eL_sound_408 {a : Int} {l0 l1 l2 l3 l4 l5 l6 l8 : Option VV} {v0 : VV} {S : MM} : rn xL_sound (408, [l0, l1, l2, l3, l4, l5, l6, some (vI a), l8], [v0], S) = rn xL_sound (410, [l0, l1, l2, l3, l4, l5, l6, some (vI a), l8], [vI a, v0], S) := rn_step dL_sound_408 rfl rfl
set_option maxRecDepth 100000 in
theorem eL_sound_410 {l0 l1 l2 l3 l4 l5 l6 l7 l8 : Option VV} {v0 v1 : VV} {S : MM} : rn xL_sound (410, [l0, l1, l2, l3, l4, l5, l6, l7, l8], [v0, v1], S) = rn xL_sound (411, [l0, l1, l2, l3, l4, l5, l6, l7, l8], [vI 0, v0, v1], S) := rn_step dL_sound_410 rfl rfl
set_option maxRecDepth 100000 in
theorem eL_sound_411 {a0 : Int} {a1 : Int} {l0 l1 l2 l3 l4 l5 l6 l7 l8 : Option VV} {S : MM} : rn xL_sound (411, [l0, l1, l2, l3, l4, l5, l6, l7, l8], [vI a1, vI a0, vR 0], S) = (fX8_meeting [vR 0, vI a0, vI a1] S).bind (fun q => rn xL_sound (414, [l0, l1, l2, l3, l4, l5, l6, l7, l8], q.1.toList ++ [], q.2)) := q_callV (n := 2) (as := [vI a0, vI a1]) (rest := []) dL_sound_411 rfl rfl rfl rfl kd0
set_option maxRecDepth 100000 in
theorem eL_sound_414 {a : Option Nat} {l1 l2 l3 l4 l5 l6 l7 l8 : Option VV} {v0 : VV} {S : MM} : rn xL_sound (414, [some (.inr (.inl a)), l1, l2, l3, l4, l5, l6, l7, l8], [v0], S) = rn xL_sound (415, [some (.inr (.inl a)), l1, l2, l3, l4, l5, l6, l7, l8], [.inr (.inl a), v0], S) := rn_step dL_sound_414 rfl rfl
set_option maxRecDepth 100000 in
theorem eL_sound_415 {a : Int} {l0 l1 l2 l3 l4 l5 l6 l8 : Option VV} {v0 v1 : VV} {S : MM} : rn xL_sound (415, [l0, l1, l2, l3, l4, l5, l6, some (vI a), l8], [v0, v1], S) = rn xL_sound (417, [l0, l1, l2, l3, l4, l5, l6, some (vI a), l8], [vI a, v0, v1], S) := rn_step dL_sound_415 rfl rfl
set_option maxRecDepth 100000 in
theorem eL_sound_417 {l0 l1 l2 l3 l4 l5 l6 l7 l8 : Option VV} {v0 v1 v2 : VV} {S : MM} : rn xL_sound (417, [l0, l1, l2, l3, l4, l5, l6, l7, l8], [v0, v1, v2], S) = rn xL_sound (418, [l0, l1, l2, l3, l4, l5, l6, l7, l8], [vI 1, v0, v1, v2], S) := rn_step dL_sound_417 rfl rfl
set_option maxRecDepth 100000 in
theorem eL_sound_418 {a b : Int} {l0 l1 l2 l3 l4 l5 l6 l7 l8 : Option VV} {v2 v3 : VV} {S : MM} : rn xL_sound (418, [l0, l1, l2, l3, l4, l5, l6, l7, l8], [vI b, vI a, v2, v3], S) = rn xL_sound (419, [l0, l1, l2, l3, l4, l5, l6, l7, l8], [vI (a - b), v2, v3], S) := rn_step dL_sound_418 rfl rfl
set_option maxRecDepth 100000 in
theorem eL_sound_419 {l0 l1 l2 l3 l4 l5 l6 l7 l8 : Option VV} {v0 v1 v2 : VV} {S : MM} : rn xL_sound (419, [l0, l1, l2, l3, l4, l5, l6, l7, l8], [v0, v1, v2], S) = rn xL_sound (420, [l0, l1, l2, l3, l4, l5, l6, l7, l8], [vI 0, v0, v1, v2], S) := rn_step dL_sound_419 rfl rfl
set_option maxRecDepth 100000 in
theorem eL_sound_420 {a0 : Int} {a1 : Int} {l0 l1 l2 l3 l4 l5 l6 l7 l8 : Option VV} {v3 : VV} {S : MM} : rn xL_sound (420, [l0, l1, l2, l3, l4, l5, l6, l7, l8], [vI a1, vI a0, vR 0, v3], S) = (fX8_meeting [vR 0, vI a0, vI a1] S).bind (fun q => rn xL_sound (423, [l0, l1, l2, l3, l4, l5, l6, l7, l8], q.1.toList ++ [v3], q.2)) := q_callV (n := 2) (as := [vI a0, vI a1]) (rest := [v3]) dL_sound_420 rfl rfl rfl rfl kd0
set_option maxRecDepth 100000 in
theorem eL_sound_423 {a b : Int} {l0 l1 l2 l3 l4 l5 l6 l7 l8 : Option VV} (h : -2147483648 ≤ a ∧ a ≤ 2147483647) (h1 : -2147483648 ≤ b ∧ b ≤ 2147483647) {S : MM} : rn xL_sound (423, [l0, l1, l2, l3, l4, l5, l6, l7, l8], [vI b, vI a], S) = if b < a then rn xL_sound (426, [l0, l1, l2, l3, l4, l5, l6, l7, l8], [], S) else rn xL_sound (441, [l0, l1, l2, l3, l4, l5, l6, l7, l8], [], S) := q_icmp_le dL_sound_423 (by decide) rfl h h1
set_option maxRecDepth 100000 in
theorem eL_sound_426 {a : Option Nat} {l1 l2 l3 l4 l5 l6 l7 l8 : Option VV} {S : MM} : rn xL_sound (426, [some (.inr (.inl a)), l1, l2, l3, l4, l5, l6, l7, l8], [], S) = rn xL_sound (427, [some (.inr (.inl a)), l1, l2, l3, l4, l5, l6, l7, l8], [.inr (.inl a)], S) := rn_step dL_sound_426 rfl rfl
set_option maxRecDepth 100000 in
theorem eL_sound_427 {a : Int} {l0 l1 l2 l3 l4 l5 l6 l8 : Option VV} {v0 : VV} {S : MM} : rn xL_sound (427, [l0, l1, l2, l3, l4, l5, l6, some (vI a), l8], [v0], S) = rn xL_sound (429, [l0, l1, l2, l3, l4, l5, l6, some (vI a), l8], [vI a, v0], S) := rn_step dL_sound_427 rfl rfl
set_option maxRecDepth 100000 in
theorem eL_sound_429 {l0 l1 l2 l3 l4 l5 l6 l7 l8 : Option VV} {v0 v1 : VV} {S : MM} : rn xL_sound (429, [l0, l1, l2, l3, l4, l5, l6, l7, l8], [v0, v1], S) = rn xL_sound (430, [l0, l1, l2, l3, l4, l5, l6, l7, l8], [vI 0, v0, v1], S) := rn_step dL_sound_429 rfl rfl
set_option maxRecDepth 100000 in
theorem eL_sound_430 {a0 : Int} {a1 : Int} {l0 l1 l2 l3 l4 l5 l6 l7 l8 : Option VV} {S : MM} : rn xL_sound (430, [l0, l1, l2, l3, l4, l5, l6, l7, l8], [vI a1, vI a0, vR 0], S) = (fX8_meeting [vR 0, vI a0, vI a1] S).bind (fun q => rn xL_sound (433, [l0, l1, l2, l3, l4, l5, l6, l7, l8], q.1.toList ++ [], q.2)) := q_callV (n := 2) (as := [vI a0, vI a1]) (rest := []) dL_sound_430 rfl rfl rfl rfl kd0
set_option maxRecDepth 100000 in
theorem eL_sound_433 {a : Option Nat} {l1 l2 l3 l4 l5 l6 l7 l8 : Option VV} {v0 : VV} {S : MM} : rn xL_sound (433, [some (.inr (.inl a)), l1, l2, l3, l4, l5, l6, l7, l8], [v0], S) = rn xL_sound (434, [some (.inr (.inl a)), l1, l2, l3, l4, l5, l6, l7, l8], [.inr (.inl a), v0], S) := rn_step dL_sound_433 rfl rfl
set_option maxRecDepth 100000 in
theorem eL_sound_434 {l0 l1 l2 l3 l4 l5 l6 l7 l8 : Option VV} {v0 v1 : VV} {S : MM} : rn xL_sound (434, [l0, l1, l2, l3, l4, l5, l6, l7, l8], [v0, v1], S) = rn xL_sound (435, [l0, l1, l2, l3, l4, l5, l6, l7, l8], [vI 1, v0, v1], S) := rn_step dL_sound_434 rfl rfl
set_option maxRecDepth 100000 in
theorem eL_sound_435 {a0 : Int} {l0 l1 l2 l3 l4 l5 l6 l7 l8 : Option VV} {v2 : VV} {S : MM} : rn xL_sound (435, [l0, l1, l2, l3, l4, l5, l6, l7, l8], [vI a0, vR 0, v2], S) = (fX8_ofRun [vR 0, vI a0] S).bind (fun q => rn xL_sound (438, [l0, l1, l2, l3, l4, l5, l6, l7, l8], q.1.toList ++ [v2], q.2)) := q_callV (n := 1) (as := [vI a0]) (rest := [v2]) dL_sound_435 rfl rfl rfl rfl kd0
set_option maxRecDepth 100000 in
theorem eL_sound_438 {a b : Int} {l0 l1 l2 l3 l4 l5 l6 l7 l8 : Option VV} (h : -2147483648 ≤ a ∧ a ≤ 2147483647) (h1 : -2147483648 ≤ b ∧ b ≤ 2147483647) {S : MM} : rn xL_sound (438, [l0, l1, l2, l3, l4, l5, l6, l7, l8], [vI b, vI a], S) = if a < b then rn xL_sound (443, [l0, l1, l2, l3, l4, l5, l6, l7, l8], [], S) else rn xL_sound (441, [l0, l1, l2, l3, l4, l5, l6, l7, l8], [], S) := q_icmp_lt dL_sound_438 (by decide) rfl h h1
set_option maxRecDepth 100000 in
theorem eL_sound_441 {l0 l1 l2 l3 l4 l5 l6 l7 l8 : Option VV} {S : MM} : rn xL_sound (441, [l0, l1, l2, l3, l4, l5, l6, l7, l8], [], S) = rn xL_sound (442, [l0, l1, l2, l3, l4, l5, l6, l7, l8], [vI 0], S) := rn_step dL_sound_441 rfl rfl
set_option maxRecDepth 100000 in
theorem eL_sound_442 {z : Int} {l0 l1 l2 l3 l4 l5 l6 l7 l8 : Option VV} (hz : z = 0 ∨ z = 1) {S : MM} : rn xL_sound (442, [l0, l1, l2, l3, l4, l5, l6, l7, l8], [vI z], S) = some (some (vI z), S) := q_retZ dL_sound_442 rfl hz
set_option maxRecDepth 100000 in
theorem eL_sound_443 {a : Int} {w : Int} {l0 l1 l2 l3 l4 l5 l8 : Option VV} {S : MM} : rn xL_sound (443, [l0, l1, l2, l3, l4, l5, some (vI w), some (vI a), l8], [], S) = rn xL_sound (446, [l0, l1, l2, l3, l4, l5, some (vI w), some (vI (a + 1)), l8], [], S) := rn_step dL_sound_443 rfl rfl
set_option maxRecDepth 100000 in
theorem eL_sound_446 {l0 l1 l2 l3 l4 l5 l6 l7 l8 : Option VV} {S : MM} : rn xL_sound (446, [l0, l1, l2, l3, l4, l5, l6, l7, l8], [], S) = rn xL_sound (380, [l0, l1, l2, l3, l4, l5, l6, l7, l8], [], S) := rn_step dL_sound_446 rfl rfl
set_option maxRecDepth 100000 in
theorem eL_sound_449 {a : Int} {l0 l1 l2 l3 l4 l5 l7 l8 : Option VV} {S : MM} : rn xL_sound (449, [l0, l1, l2, l3, l4, l5, some (vI a), l7, l8], [], S) = rn xL_sound (451, [l0, l1, l2, l3, l4, l5, some (vI a), l7, l8], [vI a], S) := rn_step dL_sound_449 rfl rfl
set_option maxRecDepth 100000 in
theorem eL_sound_451 {a : Option Nat} {l1 l2 l3 l4 l5 l6 l7 l8 : Option VV} {v0 : VV} {S : MM} : rn xL_sound (451, [some (.inr (.inl a)), l1, l2, l3, l4, l5, l6, l7, l8], [v0], S) = rn xL_sound (452, [some (.inr (.inl a)), l1, l2, l3, l4, l5, l6, l7, l8], [.inr (.inl a), v0], S) := rn_step dL_sound_451 rfl rfl
set_option maxRecDepth 100000 in
theorem eL_sound_452 {l0 l1 l2 l3 l4 l5 l6 l7 l8 : Option VV} {v0 v1 : VV} {S : MM} : rn xL_sound (452, [l0, l1, l2, l3, l4, l5, l6, l7, l8], [v0, v1], S) = rn xL_sound (453, [l0, l1, l2, l3, l4, l5, l6, l7, l8], [vI 4, v0, v1], S) := rn_step dL_sound_452 rfl rfl
set_option maxRecDepth 100000 in
theorem eL_sound_453 {a0 : Int} {l0 l1 l2 l3 l4 l5 l6 l7 l8 : Option VV} {v2 : VV} {S : MM} : rn xL_sound (453, [l0, l1, l2, l3, l4, l5, l6, l7, l8], [vI a0, vR 0, v2], S) = (fX8_ofRun [vR 0, vI a0] S).bind (fun q => rn xL_sound (456, [l0, l1, l2, l3, l4, l5, l6, l7, l8], q.1.toList ++ [v2], q.2)) := q_callV (n := 1) (as := [vI a0]) (rest := [v2]) dL_sound_453 rfl rfl rfl rfl kd0
set_option maxRecDepth 100000 in
theorem eL_sound_456 {a b : Int} {l0 l1 l2 l3 l4 l5 l6 l7 l8 : Option VV} (h : -2147483648 ≤ a ∧ a ≤ 2147483647) (h1 : -2147483648 ≤ b ∧ b ≤ 2147483647) {S : MM} : rn xL_sound (456, [l0, l1, l2, l3, l4, l5, l6, l7, l8], [vI b, vI a], S) = if a = b then rn xL_sound (459, [l0, l1, l2, l3, l4, l5, l6, l7, l8], [], S) else rn xL_sound (507, [l0, l1, l2, l3, l4, l5, l6, l7, l8], [], S) := q_icmp_ne dL_sound_456 (by decide) rfl h h1
set_option maxRecDepth 100000 in
theorem eL_sound_459 {a : Option Nat} {l1 l2 l3 l4 l5 l6 l7 l8 : Option VV} {S : MM} : rn xL_sound (459, [some (.inr (.inl a)), l1, l2, l3, l4, l5, l6, l7, l8], [], S) = rn xL_sound (460, [some (.inr (.inl a)), l1, l2, l3, l4, l5, l6, l7, l8], [.inr (.inl a)], S) := rn_step dL_sound_459 rfl rfl
set_option maxRecDepth 100000 in
theorem eL_sound_460 {a : Option Nat} {l1 l2 l3 l4 l5 l6 l7 l8 : Option VV} {v0 : VV} {S : MM} : rn xL_sound (460, [some (.inr (.inl a)), l1, l2, l3, l4, l5, l6, l7, l8], [v0], S) = rn xL_sound (461, [some (.inr (.inl a)), l1, l2, l3, l4, l5, l6, l7, l8], [.inr (.inl a), v0], S) := rn_step dL_sound_460 rfl rfl
set_option maxRecDepth 100000 in
theorem eL_sound_461 {l0 l1 l2 l3 l4 l5 l6 l7 l8 : Option VV} {v0 v1 : VV} {S : MM} : rn xL_sound (461, [l0, l1, l2, l3, l4, l5, l6, l7, l8], [v0, v1], S) = rn xL_sound (462, [l0, l1, l2, l3, l4, l5, l6, l7, l8], [vI 3, v0, v1], S) := rn_step dL_sound_461 rfl rfl
set_option maxRecDepth 100000 in
theorem eL_sound_462 {a0 : Int} {l0 l1 l2 l3 l4 l5 l6 l7 l8 : Option VV} {v2 : VV} {S : MM} : rn xL_sound (462, [l0, l1, l2, l3, l4, l5, l6, l7, l8], [vI a0, vR 0, v2], S) = (fX8_ofRun [vR 0, vI a0] S).bind (fun q => rn xL_sound (465, [l0, l1, l2, l3, l4, l5, l6, l7, l8], q.1.toList ++ [v2], q.2)) := q_callV (n := 1) (as := [vI a0]) (rest := [v2]) dL_sound_462 rfl rfl rfl rfl kd0
set_option maxRecDepth 100000 in
theorem eL_sound_465 {l0 l1 l2 l3 l4 l5 l6 l7 l8 : Option VV} {v0 v1 : VV} {S : MM} : rn xL_sound (465, [l0, l1, l2, l3, l4, l5, l6, l7, l8], [v0, v1], S) = rn xL_sound (466, [l0, l1, l2, l3, l4, l5, l6, l7, l8], [vI 0, v0, v1], S) := rn_step dL_sound_465 rfl rfl
set_option maxRecDepth 100000 in
theorem eL_sound_466 {a0 : Int} {a1 : Int} {l0 l1 l2 l3 l4 l5 l6 l7 l8 : Option VV} {S : MM} : rn xL_sound (466, [l0, l1, l2, l3, l4, l5, l6, l7, l8], [vI a1, vI a0, vR 0], S) = (fX8_meeting [vR 0, vI a0, vI a1] S).bind (fun q => rn xL_sound (469, [l0, l1, l2, l3, l4, l5, l6, l7, l8], q.1.toList ++ [], q.2)) := q_callV (n := 2) (as := [vI a0, vI a1]) (rest := []) dL_sound_466 rfl rfl rfl rfl kd0
set_option maxRecDepth 100000 in
theorem eL_sound_469 {l0 l1 l2 l3 l4 l5 l6 l7 l8 : Option VV} {v0 : VV} {S : MM} : rn xL_sound (469, [l0, l1, l2, l3, l4, l5, l6, l7, l8], [v0], S) = rn xL_sound (470, [l0, l1, l2, l3, l4, l5, l6, l7, l8], [vI (-1), v0], S) := rn_step dL_sound_469 rfl rfl
set_option maxRecDepth 100000 in
theorem eL_sound_470 {a b : Int} {l0 l1 l2 l3 l4 l5 l6 l7 l8 : Option VV} (h : -2147483648 ≤ a ∧ a ≤ 2147483647) (h1 : -2147483648 ≤ b ∧ b ≤ 2147483647) {S : MM} : rn xL_sound (470, [l0, l1, l2, l3, l4, l5, l6, l7, l8], [vI b, vI a], S) = if a = b then rn xL_sound (473, [l0, l1, l2, l3, l4, l5, l6, l7, l8], [], S) else rn xL_sound (507, [l0, l1, l2, l3, l4, l5, l6, l7, l8], [], S) := q_icmp_ne dL_sound_470 (by decide) rfl h h1
set_option maxRecDepth 100000 in
theorem eL_sound_473 {a : Option Nat} {l1 l2 l3 l4 l5 l6 l7 l8 : Option VV} {S : MM} : rn xL_sound (473, [some (.inr (.inl a)), l1, l2, l3, l4, l5, l6, l7, l8], [], S) = rn xL_sound (474, [some (.inr (.inl a)), l1, l2, l3, l4, l5, l6, l7, l8], [.inr (.inl a)], S) := rn_step dL_sound_473 rfl rfl
set_option maxRecDepth 100000 in
theorem eL_sound_474 {l0 l1 l2 l3 l4 l5 l6 l7 l8 : Option VV} {v0 : VV} {S : MM} : rn xL_sound (474, [l0, l1, l2, l3, l4, l5, l6, l7, l8], [v0], S) = rn xL_sound (475, [l0, l1, l2, l3, l4, l5, l6, l7, l8], [vI 5, v0], S) := rn_step dL_sound_474 rfl rfl
set_option maxRecDepth 100000 in
theorem eL_sound_475 {a0 : Int} {l0 l1 l2 l3 l4 l5 l6 l7 l8 : Option VV} {S : MM} : rn xL_sound (475, [l0, l1, l2, l3, l4, l5, l6, l7, l8], [vI a0, vR 0], S) = (fX8_ofRun [vR 0, vI a0] S).bind (fun q => rn xL_sound (478, [l0, l1, l2, l3, l4, l5, l6, l7, l8], q.1.toList ++ [], q.2)) := q_callV (n := 1) (as := [vI a0]) (rest := []) dL_sound_475 rfl rfl rfl rfl kd0
set_option maxRecDepth 100000 in
theorem eL_sound_478 {a : Int} {l0 l1 l3 l4 l5 l6 l7 l8 : Option VV} {v0 : VV} {S : MM} : rn xL_sound (478, [l0, l1, some (vI a), l3, l4, l5, l6, l7, l8], [v0], S) = rn xL_sound (479, [l0, l1, some (vI a), l3, l4, l5, l6, l7, l8], [vI a, v0], S) := rn_step dL_sound_478 rfl rfl
set_option maxRecDepth 100000 in
theorem eL_sound_479 {a b : Int} {l0 l1 l2 l3 l4 l5 l6 l7 l8 : Option VV} (h : -2147483648 ≤ a ∧ a ≤ 2147483647) (h1 : -2147483648 ≤ b ∧ b ≤ 2147483647) {S : MM} : rn xL_sound (479, [l0, l1, l2, l3, l4, l5, l6, l7, l8], [vI b, vI a], S) = if a = b then rn xL_sound (482, [l0, l1, l2, l3, l4, l5, l6, l7, l8], [], S) else rn xL_sound (507, [l0, l1, l2, l3, l4, l5, l6, l7, l8], [], S) := q_icmp_ne dL_sound_479 (by decide) rfl h h1
set_option maxRecDepth 100000 in
theorem eL_sound_482 {a : Option Nat} {l1 l2 l3 l4 l5 l6 l7 l8 : Option VV} {S : MM} : rn xL_sound (482, [some (.inr (.inl a)), l1, l2, l3, l4, l5, l6, l7, l8], [], S) = rn xL_sound (483, [some (.inr (.inl a)), l1, l2, l3, l4, l5, l6, l7, l8], [.inr (.inl a)], S) := rn_step dL_sound_482 rfl rfl
set_option maxRecDepth 100000 in
theorem eL_sound_483 {l0 l1 l2 l3 l4 l5 l6 l7 l8 : Option VV} {v0 : VV} {S : MM} : rn xL_sound (483, [l0, l1, l2, l3, l4, l5, l6, l7, l8], [v0], S) = rn xL_sound (485, [l0, l1, l2, l3, l4, l5, l6, l7, l8], [vI 6, v0], S) := rn_step dL_sound_483 rfl rfl
set_option maxRecDepth 100000 in
theorem eL_sound_485 {a0 : Int} {l0 l1 l2 l3 l4 l5 l6 l7 l8 : Option VV} {S : MM} : rn xL_sound (485, [l0, l1, l2, l3, l4, l5, l6, l7, l8], [vI a0, vR 0], S) = (fX8_ofRun [vR 0, vI a0] S).bind (fun q => rn xL_sound (488, [l0, l1, l2, l3, l4, l5, l6, l7, l8], q.1.toList ++ [], q.2)) := q_callV (n := 1) (as := [vI a0]) (rest := []) dL_sound_485 rfl rfl rfl rfl kd0
set_option maxRecDepth 100000 in
theorem eL_sound_488 {a : Int} {l0 l1 l2 l4 l5 l6 l7 l8 : Option VV} {v0 : VV} {S : MM} : rn xL_sound (488, [l0, l1, l2, some (vI a), l4, l5, l6, l7, l8], [v0], S) = rn xL_sound (489, [l0, l1, l2, some (vI a), l4, l5, l6, l7, l8], [vI a, v0], S) := rn_step dL_sound_488 rfl rfl
set_option maxRecDepth 100000 in
theorem eL_sound_489 {a b : Int} {l0 l1 l2 l3 l4 l5 l6 l7 l8 : Option VV} (h : -2147483648 ≤ a ∧ a ≤ 2147483647) (h1 : -2147483648 ≤ b ∧ b ≤ 2147483647) {S : MM} : rn xL_sound (489, [l0, l1, l2, l3, l4, l5, l6, l7, l8], [vI b, vI a], S) = if a = b then rn xL_sound (492, [l0, l1, l2, l3, l4, l5, l6, l7, l8], [], S) else rn xL_sound (507, [l0, l1, l2, l3, l4, l5, l6, l7, l8], [], S) := q_icmp_ne dL_sound_489 (by decide) rfl h h1
set_option maxRecDepth 100000 in
theorem eL_sound_492 {a : Option Nat} {l1 l2 l3 l4 l5 l6 l7 l8 : Option VV} {S : MM} : rn xL_sound (492, [some (.inr (.inl a)), l1, l2, l3, l4, l5, l6, l7, l8], [], S) = rn xL_sound (493, [some (.inr (.inl a)), l1, l2, l3, l4, l5, l6, l7, l8], [.inr (.inl a)], S) := rn_step dL_sound_492 rfl rfl
set_option maxRecDepth 100000 in
theorem eL_sound_493 {l0 l1 l2 l3 l4 l5 l6 l7 l8 : Option VV} {v0 : VV} {S : MM} : rn xL_sound (493, [l0, l1, l2, l3, l4, l5, l6, l7, l8], [v0], S) = rn xL_sound (495, [l0, l1, l2, l3, l4, l5, l6, l7, l8], [vI 7, v0], S) := rn_step dL_sound_493 rfl rfl
set_option maxRecDepth 100000 in
theorem eL_sound_495 {a0 : Int} {l0 l1 l2 l3 l4 l5 l6 l7 l8 : Option VV} {S : MM} : rn xL_sound (495, [l0, l1, l2, l3, l4, l5, l6, l7, l8], [vI a0, vR 0], S) = (fX8_ofRun [vR 0, vI a0] S).bind (fun q => rn xL_sound (498, [l0, l1, l2, l3, l4, l5, l6, l7, l8], q.1.toList ++ [], q.2)) := q_callV (n := 1) (as := [vI a0]) (rest := []) dL_sound_495 rfl rfl rfl rfl kd0
set_option maxRecDepth 100000 in
theorem eL_sound_498 {a : Int} {l0 l1 l2 l3 l5 l6 l7 l8 : Option VV} {v0 : VV} {S : MM} : rn xL_sound (498, [l0, l1, l2, l3, some (vI a), l5, l6, l7, l8], [v0], S) = rn xL_sound (500, [l0, l1, l2, l3, some (vI a), l5, l6, l7, l8], [vI a, v0], S) := rn_step dL_sound_498 rfl rfl
set_option maxRecDepth 100000 in
theorem eL_sound_500 {a b : Int} {l0 l1 l2 l3 l4 l5 l6 l7 l8 : Option VV} (h : -2147483648 ≤ a ∧ a ≤ 2147483647) (h1 : -2147483648 ≤ b ∧ b ≤ 2147483647) {S : MM} : rn xL_sound (500, [l0, l1, l2, l3, l4, l5, l6, l7, l8], [vI b, vI a], S) = if a = b then rn xL_sound (503, [l0, l1, l2, l3, l4, l5, l6, l7, l8], [], S) else rn xL_sound (507, [l0, l1, l2, l3, l4, l5, l6, l7, l8], [], S) := q_icmp_ne dL_sound_500 (by decide) rfl h h1
set_option maxRecDepth 100000 in
theorem eL_sound_503 {l0 l1 l2 l3 l4 l5 l6 l7 l8 : Option VV} {S : MM} : rn xL_sound (503, [l0, l1, l2, l3, l4, l5, l6, l7, l8], [], S) = rn xL_sound (504, [l0, l1, l2, l3, l4, l5, l6, l7, l8], [vI 1], S) := rn_step dL_sound_503 rfl rfl
set_option maxRecDepth 100000 in
theorem eL_sound_504 {l0 l1 l2 l3 l4 l5 l6 l7 l8 : Option VV} {v0 : VV} {S : MM} : rn xL_sound (504, [l0, l1, l2, l3, l4, l5, l6, l7, l8], [v0], S) = rn xL_sound (508, [l0, l1, l2, l3, l4, l5, l6, l7, l8], [v0], S) := rn_step dL_sound_504 rfl rfl
set_option maxRecDepth 100000 in
theorem eL_sound_507 {l0 l1 l2 l3 l4 l5 l6 l7 l8 : Option VV} {S : MM} : rn xL_sound (507, [l0, l1, l2, l3, l4, l5, l6, l7, l8], [], S) = rn xL_sound (508, [l0, l1, l2, l3, l4, l5, l6, l7, l8], [vI 0], S) := rn_step dL_sound_507 rfl rfl
set_option maxRecDepth 100000 in
theorem eL_sound_508 {z : Int} {l0 l1 l2 l3 l4 l5 l6 l7 l8 : Option VV} (hz : z = 0 ∨ z = 1) {S : MM} : rn xL_sound (508, [l0, l1, l2, l3, l4, l5, l6, l7, l8], [vI z], S) = some (some (vI z), S) := q_retZ dL_sound_508 rfl hz

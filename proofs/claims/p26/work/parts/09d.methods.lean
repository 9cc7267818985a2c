noncomputable def qlX6_copyFrom : List CE := [(0, 124, 7, 2, fX7_copyFrom), (0, 128, 5, 2, fX5_copyFrom), (0, 130, 1, 2, fX1_copyFrom), (0, 133, 0, 2, fX0_copyFrom)]
noncomputable def xX6_copyFrom : XX := (cX6_copyFrom, fcF fcl6, mcF qlX6_copyFrom, 0)
noncomputable def fX6_copyFrom : FN := fnX xX6_copyFrom 2
set_option maxRecDepth 100000 in
theorem cwX6_copyFrom : Cond.code yX6_copyFrom cX6_copyFrom 2 none ∈ lw_g := lw_gm 270 (by decide +kernel) (by decide +kernel)
set_option maxRecDepth 100000 in
theorem conX6_copyFrom : Con yX6_copyFrom cX6_copyFrom 2 none { frames := 5, cells := 0, slots := 0, locals := 114 } fX6_copyFrom := con_of (X := xX6_copyFrom) (own := "LeapStones$Scene") (ql := qlX6_copyFrom) (by decide) rfl FOK6 rfl (List.forall_mem_cons.mpr ⟨call_V conX7_copyFrom cwX7_copyFrom (lw_gl _ [271, 272, 273, 23] (by decide +kernel) (by decide +kernel)) (by decide) rfl ⟨by decide, by decide, by decide +kernel⟩ ⟨rfl, rfl⟩ ⟨by decide, by decide⟩ ⟨Nat.le_refl _, Nat.le_refl _⟩, List.forall_mem_cons.mpr ⟨call_V conX5_copyFrom cwX5_copyFrom (lw_gl _ [282, 283, 284, 24] (by decide +kernel) (by decide +kernel)) (by decide) rfl ⟨by decide, by decide, by decide +kernel⟩ ⟨rfl, rfl⟩ ⟨by decide, by decide⟩ ⟨Nat.le_refl _, Nat.le_refl _⟩, List.forall_mem_cons.mpr ⟨call_V conX1_copyFrom cwX1_copyFrom (lw_gl _ [291, 292, 293, 26] (by decide +kernel) (by decide +kernel)) (by decide) rfl ⟨by decide, by decide, by decide +kernel⟩ ⟨rfl, rfl⟩ ⟨by decide, by decide⟩ ⟨Nat.le_refl _, Nat.le_refl _⟩, List.forall_mem_cons.mpr ⟨call_V conX0_copyFrom cwX0_copyFrom (lw_gl _ [305, 306, 307, 28] (by decide +kernel) (by decide +kernel)) (by decide) rfl ⟨by decide, by decide, by decide +kernel⟩ ⟨rfl, rfl⟩ ⟨by decide, by decide⟩ ⟨Nat.le_refl _, Nat.le_refl _⟩, fun _ h => absurd h List.not_mem_nil⟩⟩⟩⟩) (Or.inl ⟨rfl, rfl⟩)
theorem uX6_copyFrom {i : Nat} {a0 : Option Nat} {S : MM} : fX6_copyFrom [vR i, .inr (.inl a0)] S = rn xX6_copyFrom (0, [some (vR i), some (.inr (.inl a0))], [], S) := rfl
theorem dX6_copyFrom_0 : decode cX6_copyFrom 0 = .ok (.aload_n 1, 1) := by decide +kernel
theorem dX6_copyFrom_1 : decode cX6_copyFrom 1 = .ok (.ifnonnull 4, 3) := by decide +kernel
theorem dX6_copyFrom_4 : decode cX6_copyFrom 4 = .ok (.return_, 1) := by decide +kernel
theorem dX6_copyFrom_5 : decode cX6_copyFrom 5 = .ok (.aload_n 0, 1) := by decide +kernel
theorem dX6_copyFrom_6 : decode cX6_copyFrom 6 = .ok (.getfield 12, 3) := by decide +kernel
theorem dX6_copyFrom_9 : decode cX6_copyFrom 9 = .ok (.aload_n 1, 1) := by decide +kernel
theorem dX6_copyFrom_10 : decode cX6_copyFrom 10 = .ok (.getfield 12, 3) := by decide +kernel
theorem dX6_copyFrom_13 : decode cX6_copyFrom 13 = .ok (.invokevirtual 124, 3) := by decide +kernel
theorem dX6_copyFrom_16 : decode cX6_copyFrom 16 = .ok (.aload_n 0, 1) := by decide +kernel
theorem dX6_copyFrom_17 : decode cX6_copyFrom 17 = .ok (.getfield 21, 3) := by decide +kernel
theorem dX6_copyFrom_20 : decode cX6_copyFrom 20 = .ok (.aload_n 1, 1) := by decide +kernel
theorem dX6_copyFrom_21 : decode cX6_copyFrom 21 = .ok (.getfield 21, 3) := by decide +kernel
theorem dX6_copyFrom_24 : decode cX6_copyFrom 24 = .ok (.invokevirtual 128, 3) := by decide +kernel
theorem dX6_copyFrom_27 : decode cX6_copyFrom 27 = .ok (.aload_n 0, 1) := by decide +kernel
theorem dX6_copyFrom_28 : decode cX6_copyFrom 28 = .ok (.getfield 28, 3) := by decide +kernel
theorem dX6_copyFrom_31 : decode cX6_copyFrom 31 = .ok (.aload_n 1, 1) := by decide +kernel
theorem dX6_copyFrom_32 : decode cX6_copyFrom 32 = .ok (.getfield 28, 3) := by decide +kernel
theorem dX6_copyFrom_35 : decode cX6_copyFrom 35 = .ok (.invokevirtual 130, 3) := by decide +kernel
theorem dX6_copyFrom_38 : decode cX6_copyFrom 38 = .ok (.aload_n 0, 1) := by decide +kernel
theorem dX6_copyFrom_39 : decode cX6_copyFrom 39 = .ok (.getfield 35, 3) := by decide +kernel
theorem dX6_copyFrom_42 : decode cX6_copyFrom 42 = .ok (.aload_n 1, 1) := by decide +kernel
theorem dX6_copyFrom_43 : decode cX6_copyFrom 43 = .ok (.getfield 35, 3) := by decide +kernel
theorem dX6_copyFrom_46 : decode cX6_copyFrom 46 = .ok (.invokevirtual 133, 3) := by decide +kernel
theorem dX6_copyFrom_49 : decode cX6_copyFrom 49 = .ok (.return_, 1) := by decide +kernel
theorem eX6_copyFrom_0 {a : Option Nat} {l0 : Option VV} {S : MM} : rn xX6_copyFrom (0, [l0, some (.inr (.inl a))], [], S) = rn xX6_copyFrom (1, [l0, some (.inr (.inl a))], [.inr (.inl a)], S) := rn_step dX6_copyFrom_0 rfl rfl
theorem eX6_copyFrom_1n {l0 l1 : Option VV} {S : MM} : rn xX6_copyFrom (1, [l0, l1], [vN], S) = rn xX6_copyFrom (4, [l0, l1], [], S) := rn_step dX6_copyFrom_1 rfl rfl
theorem eX6_copyFrom_1r {i : Nat} {l0 l1 : Option VV} {S : MM} : rn xX6_copyFrom (1, [l0, l1], [vR i], S) = rn xX6_copyFrom (5, [l0, l1], [], S) := rn_step dX6_copyFrom_1 rfl rfl
theorem eX6_copyFrom_4 {l0 l1 : Option VV} {S : MM} : rn xX6_copyFrom (4, [l0, l1], [], S) = some (none, S) := q_retV dX6_copyFrom_4 rfl
theorem eX6_copyFrom_5 {a : Option Nat} {l1 : Option VV} {S : MM} : rn xX6_copyFrom (5, [some (.inr (.inl a)), l1], [], S) = rn xX6_copyFrom (6, [some (.inr (.inl a)), l1], [.inr (.inl a)], S) := rn_step dX6_copyFrom_5 rfl rfl
theorem eX6_copyFrom_6 {i : Nat} {l0 l1 : Option VV} (h : kd i = 6) {S : MM} : rn xX6_copyFrom (6, [l0, l1], [vR i], S) = rn xX6_copyFrom (9, [l0, l1], [vR (i + 1)], S) := q_getR dX6_copyFrom_6 rfl ⟨⟨by decide, by decide⟩, by decide⟩ (fun h => (fref6 h).trans (by first | rfl | omega)) h
theorem eX6_copyFrom_9 {a : Option Nat} {l0 : Option VV} {v0 : VV} {S : MM} : rn xX6_copyFrom (9, [l0, some (.inr (.inl a))], [v0], S) = rn xX6_copyFrom (10, [l0, some (.inr (.inl a))], [.inr (.inl a), v0], S) := rn_step dX6_copyFrom_9 rfl rfl
theorem eX6_copyFrom_10 {i : Nat} {l0 l1 : Option VV} {v1 : VV} (h : kd i = 6) {S : MM} : rn xX6_copyFrom (10, [l0, l1], [vR i, v1], S) = rn xX6_copyFrom (13, [l0, l1], [vR (i + 1), v1], S) := q_getR dX6_copyFrom_10 rfl ⟨⟨by decide, by decide⟩, by decide⟩ (fun h => (fref6 h).trans (by first | rfl | omega)) h
theorem eX6_copyFrom_13 {a0 : Option Nat} {i : Nat} {l0 l1 : Option VV} (h : kd i = 7) {S : MM} : rn xX6_copyFrom (13, [l0, l1], [.inr (.inl a0), vR i], S) = (fX7_copyFrom [vR i, .inr (.inl a0)] S).bind (fun q => rn xX6_copyFrom (16, [l0, l1], q.1.toList ++ [], q.2)) := q_callV (n := 1) (as := [.inr (.inl a0)]) (rest := []) dX6_copyFrom_13 rfl rfl rfl rfl h
theorem eX6_copyFrom_16 {a : Option Nat} {l1 : Option VV} {S : MM} : rn xX6_copyFrom (16, [some (.inr (.inl a)), l1], [], S) = rn xX6_copyFrom (17, [some (.inr (.inl a)), l1], [.inr (.inl a)], S) := rn_step dX6_copyFrom_16 rfl rfl
theorem eX6_copyFrom_17 {i : Nat} {l0 l1 : Option VV} (h : kd i = 6) {S : MM} : rn xX6_copyFrom (17, [l0, l1], [vR i], S) = rn xX6_copyFrom (20, [l0, l1], [vR (i + 3)], S) := q_getR dX6_copyFrom_17 rfl ⟨⟨by decide, by decide⟩, by decide⟩ (fun h => (fref6 h).trans (by first | rfl | omega)) h
theorem eX6_copyFrom_20 {a : Option Nat} {l0 : Option VV} {v0 : VV} {S : MM} : rn xX6_copyFrom (20, [l0, some (.inr (.inl a))], [v0], S) = rn xX6_copyFrom (21, [l0, some (.inr (.inl a))], [.inr (.inl a), v0], S) := rn_step dX6_copyFrom_20 rfl rfl
theorem eX6_copyFrom_21 {i : Nat} {l0 l1 : Option VV} {v1 : VV} (h : kd i = 6) {S : MM} : rn xX6_copyFrom (21, [l0, l1], [vR i, v1], S) = rn xX6_copyFrom (24, [l0, l1], [vR (i + 3), v1], S) := q_getR dX6_copyFrom_21 rfl ⟨⟨by decide, by decide⟩, by decide⟩ (fun h => (fref6 h).trans (by first | rfl | omega)) h
theorem eX6_copyFrom_24 {a0 : Option Nat} {i : Nat} {l0 l1 : Option VV} (h : kd i = 5) {S : MM} : rn xX6_copyFrom (24, [l0, l1], [.inr (.inl a0), vR i], S) = (fX5_copyFrom [vR i, .inr (.inl a0)] S).bind (fun q => rn xX6_copyFrom (27, [l0, l1], q.1.toList ++ [], q.2)) := q_callV (n := 1) (as := [.inr (.inl a0)]) (rest := []) dX6_copyFrom_24 rfl rfl rfl rfl h
theorem eX6_copyFrom_27 {a : Option Nat} {l1 : Option VV} {S : MM} : rn xX6_copyFrom (27, [some (.inr (.inl a)), l1], [], S) = rn xX6_copyFrom (28, [some (.inr (.inl a)), l1], [.inr (.inl a)], S) := rn_step dX6_copyFrom_27 rfl rfl
theorem eX6_copyFrom_28 {i : Nat} {l0 l1 : Option VV} (h : kd i = 6) {S : MM} : rn xX6_copyFrom (28, [l0, l1], [vR i], S) = rn xX6_copyFrom (31, [l0, l1], [vR (i + 13)], S) := q_getR dX6_copyFrom_28 rfl ⟨⟨by decide, by decide⟩, by decide⟩ (fun h => (fref6 h).trans (by first | rfl | omega)) h
theorem eX6_copyFrom_31 {a : Option Nat} {l0 : Option VV} {v0 : VV} {S : MM} : rn xX6_copyFrom (31, [l0, some (.inr (.inl a))], [v0], S) = rn xX6_copyFrom (32, [l0, some (.inr (.inl a))], [.inr (.inl a), v0], S) := rn_step dX6_copyFrom_31 rfl rfl
theorem eX6_copyFrom_32 {i : Nat} {l0 l1 : Option VV} {v1 : VV} (h : kd i = 6) {S : MM} : rn xX6_copyFrom (32, [l0, l1], [vR i, v1], S) = rn xX6_copyFrom (35, [l0, l1], [vR (i + 13), v1], S) := q_getR dX6_copyFrom_32 rfl ⟨⟨by decide, by decide⟩, by decide⟩ (fun h => (fref6 h).trans (by first | rfl | omega)) h
theorem eX6_copyFrom_35 {a0 : Option Nat} {i : Nat} {l0 l1 : Option VV} (h : kd i = 1) {S : MM} : rn xX6_copyFrom (35, [l0, l1], [.inr (.inl a0), vR i], S) = (fX1_copyFrom [vR i, .inr (.inl a0)] S).bind (fun q => rn xX6_copyFrom (38, [l0, l1], q.1.toList ++ [], q.2)) := q_callV (n := 1) (as := [.inr (.inl a0)]) (rest := []) dX6_copyFrom_35 rfl rfl rfl rfl h
theorem eX6_copyFrom_38 {a : Option Nat} {l1 : Option VV} {S : MM} : rn xX6_copyFrom (38, [some (.inr (.inl a)), l1], [], S) = rn xX6_copyFrom (39, [some (.inr (.inl a)), l1], [.inr (.inl a)], S) := rn_step dX6_copyFrom_38 rfl rfl
theorem eX6_copyFrom_39 {i : Nat} {l0 l1 : Option VV} (h : kd i = 6) {S : MM} : rn xX6_copyFrom (39, [l0, l1], [vR i], S) = rn xX6_copyFrom (42, [l0, l1], [vR (i + 56)], S) := q_getR dX6_copyFrom_39 rfl ⟨⟨by decide, by decide⟩, by decide⟩ (fun h => (fref6 h).trans (by first | rfl | omega)) h
theorem eX6_copyFrom_42 {a : Option Nat} {l0 : Option VV} {v0 : VV} {S : MM} : rn xX6_copyFrom (42, [l0, some (.inr (.inl a))], [v0], S) = rn xX6_copyFrom (43, [l0, some (.inr (.inl a))], [.inr (.inl a), v0], S) := rn_step dX6_copyFrom_42 rfl rfl
theorem eX6_copyFrom_43 {i : Nat} {l0 l1 : Option VV} {v1 : VV} (h : kd i = 6) {S : MM} : rn xX6_copyFrom (43, [l0, l1], [vR i, v1], S) = rn xX6_copyFrom (46, [l0, l1], [vR (i + 56), v1], S) := q_getR dX6_copyFrom_43 rfl ⟨⟨by decide, by decide⟩, by decide⟩ (fun h => (fref6 h).trans (by first | rfl | omega)) h
theorem eX6_copyFrom_46 {a0 : Option Nat} {i : Nat} {l0 l1 : Option VV} (h : kd i = 0) {S : MM} : rn xX6_copyFrom (46, [l0, l1], [.inr (.inl a0), vR i], S) = (fX0_copyFrom [vR i, .inr (.inl a0)] S).bind (fun q => rn xX6_copyFrom (49, [l0, l1], q.1.toList ++ [], q.2)) := q_callV (n := 1) (as := [.inr (.inl a0)]) (rest := []) dX6_copyFrom_46 rfl rfl rfl rfl h
theorem eX6_copyFrom_49 {l0 l1 : Option VV} {S : MM} : rn xX6_copyFrom (49, [l0, l1], [], S) = some (none, S) := q_retV dX6_copyFrom_49 rfl
noncomputable def qlX8_highestValue : List CE := []
noncomputable def xX8_highestValue : XX := (cX8_highestValue, fcF fcl8, mcF qlX8_highestValue, 1)
noncomputable def fX8_highestValue : FN := fnX xX8_highestValue 1
set_option maxRecDepth 100000 in
theorem cwX8_highestValue : Cond.code yX8_highestValue cX8_highestValue 1 (some .int) ∈ lw_g := lw_gm 255 (by decide +kernel) (by decide +kernel)
set_option maxRecDepth 100000 in
theorem conX8_highestValue : Con yX8_highestValue cX8_highestValue 1 (some .int) { frames := 0, cells := 0, slots := 0, locals := 0 } fX8_highestValue := con_of (X := xX8_highestValue) (own := "LeapStones") (ql := qlX8_highestValue) (by decide) rfl FOK8 rfl (fun _ h => absurd h List.not_mem_nil) (Or.inr (Or.inl ⟨rfl, rfl⟩))
theorem uX8_highestValue {a0 : Int} {S : MM} : fX8_highestValue [vI a0] S = rn xX8_highestValue (0, [some (vI a0)], [], S) := rfl
theorem dX8_highestValue_0 : decode cX8_highestValue 0 = .ok (.iload_n 0, 1) := by decide +kernel
theorem dX8_highestValue_1 : decode cX8_highestValue 1 = .ok (.lookupswitch 31 #[(2, 27), (3, 29)], 27) := by decide +kernel
theorem dX8_highestValue_28 : decode cX8_highestValue 28 = .ok (.iconst 2, 1) := by decide +kernel
theorem dX8_highestValue_29 : decode cX8_highestValue 29 = .ok (.ireturn, 1) := by decide +kernel
theorem dX8_highestValue_30 : decode cX8_highestValue 30 = .ok (.iconst 5, 1) := by decide +kernel
theorem dX8_highestValue_31 : decode cX8_highestValue 31 = .ok (.ireturn, 1) := by decide +kernel
theorem dX8_highestValue_32 : decode cX8_highestValue 32 = .ok (.sipush 299, 3) := by decide +kernel
theorem dX8_highestValue_35 : decode cX8_highestValue 35 = .ok (.ireturn, 1) := by decide +kernel
theorem eX8_highestValue_0 {a : Int} {S : MM} : rn xX8_highestValue (0, [some (vI a)], [], S) = rn xX8_highestValue (1, [some (vI a)], [vI a], S) := rn_step dX8_highestValue_0 rfl rfl
theorem eX8_highestValue_1p : srt2 #[(2, 27), (3, 29)] = true := by decide +kernel
theorem eX8_highestValue_1o0 : Op.lookupswitch.offset (#[(2, 27), (3, 29)] : Array (Int × Int)).toList 31 2 = 27 := by decide +kernel
theorem eX8_highestValue_1o1 : Op.lookupswitch.offset (#[(2, 27), (3, 29)] : Array (Int × Int)).toList 31 3 = 29 := by decide +kernel
theorem eX8_highestValue_1d {a : Int} (c0 : ¬ a = 2) (c1 : ¬ a = 3) : Op.lookupswitch.offset (#[(2, 27), (3, 29)] : Array (Int × Int)).toList 31 a = 31 := by
  show Op.lookupswitch.offset [(2, 27), (3, 29)] 31 a = 31
  rw [Op.lookupswitch.offset_cons, if_neg (fun q => c0 q.symm), Op.lookupswitch.offset_cons, if_neg (fun q => c1 q.symm)]
  rfl
theorem eX8_highestValue_1 {a : Int} {l0 : Option VV} (h : -2147483648 ≤ a ∧ a ≤ 2147483647) {S : MM} : rn xX8_highestValue (1, [l0], [vI a], S) = if a = 2 then rn xX8_highestValue (28, [l0], [], S) else if a = 3 then rn xX8_highestValue (30, [l0], [], S) else rn xX8_highestValue (32, [l0], [], S) := by
  by_cases c0 : a = 2
  · subst c0; rw [if_pos rfl]; exact q_look (X := xX8_highestValue) (pc := 1) (L := [l0]) (st := []) (S := S) (x := 2) (t := 28) dX8_highestValue_1 eX8_highestValue_1p h eX8_highestValue_1o0 (by decide) rfl
  rw [if_neg c0]
  by_cases c1 : a = 3
  · subst c1; rw [if_pos rfl]; exact q_look (X := xX8_highestValue) (pc := 1) (L := [l0]) (st := []) (S := S) (x := 3) (t := 30) dX8_highestValue_1 eX8_highestValue_1p h eX8_highestValue_1o1 (by decide) rfl
  rw [if_neg c1]
  exact q_look (X := xX8_highestValue) (pc := 1) (L := [l0]) (st := []) (S := S) (x := a) (t := 32) dX8_highestValue_1 eX8_highestValue_1p h (eX8_highestValue_1d c0 c1) (by decide) rfl
theorem eX8_highestValue_28 {l0 : Option VV} {S : MM} : rn xX8_highestValue (28, [l0], [], S) = rn xX8_highestValue (29, [l0], [vI 2], S) := rn_step dX8_highestValue_28 rfl rfl
theorem eX8_highestValue_29 {z : Int} {l0 : Option VV} {S : MM} : rn xX8_highestValue (29, [l0], [vI z], S) = some (some (vI z), S) := q_retI dX8_highestValue_29 rfl
theorem eX8_highestValue_30 {l0 : Option VV} {S : MM} : rn xX8_highestValue (30, [l0], [], S) = rn xX8_highestValue (31, [l0], [vI 5], S) := rn_step dX8_highestValue_30 rfl rfl
theorem eX8_highestValue_31 {z : Int} {l0 : Option VV} {S : MM} : rn xX8_highestValue (31, [l0], [vI z], S) = some (some (vI z), S) := q_retI dX8_highestValue_31 rfl
theorem eX8_highestValue_32 {l0 : Option VV} {S : MM} : rn xX8_highestValue (32, [l0], [], S) = rn xX8_highestValue (35, [l0], [vI 299], S) := rn_step dX8_highestValue_32 rfl rfl
theorem eX8_highestValue_35 {z : Int} {l0 : Option VV} {S : MM} : rn xX8_highestValue (35, [l0], [vI z], S) = some (some (vI z), S) := q_retI dX8_highestValue_35 rfl
noncomputable def qlX8_remember : List CE := [(0, 261, 4, 1, fX4_add), (1, 57, 0, 3, fX8_isBetween), (0, 251, 6, 2, fX6_copyFrom)]
noncomputable def xX8_remember : XX := (cX8_remember, fcF fcl8, mcF qlX8_remember, 0)
noncomputable def fX8_remember : FN := fnX xX8_remember 3
set_option maxRecDepth 100000 in
theorem cwX8_remember : Cond.code yX8_remember cX8_remember 3 none ∈ lw_g := lw_gm 259 (by decide +kernel) (by decide +kernel)
set_option maxRecDepth 100000 in
theorem conX8_remember : Con yX8_remember cX8_remember 3 none { frames := 6, cells := 0, slots := 0, locals := 135 } fX8_remember := con_of (X := xX8_remember) (own := "LeapStones") (ql := qlX8_remember) (by decide) rfl FOK8 rfl (List.forall_mem_cons.mpr ⟨call_V conX4_add cwX4_add (lw_gl _ [260, 261, 262, 27] (by decide +kernel) (by decide +kernel)) (by decide) rfl ⟨by decide, by decide, by decide +kernel⟩ ⟨rfl, rfl⟩ ⟨by decide, by decide⟩ ⟨Nat.le_refl _, Nat.le_refl _⟩, List.forall_mem_cons.mpr ⟨call_S conX8_isBetween cwX8_isBetween (lw_gl _ [250, 251, 21] (by decide +kernel) (by decide +kernel)) ⟨by decide, by decide, by decide +kernel⟩ ⟨rfl, rfl⟩ ⟨by decide, by decide⟩ ⟨Nat.le_refl _, Nat.le_refl _⟩, List.forall_mem_cons.mpr ⟨call_V conX6_copyFrom cwX6_copyFrom (lw_gl _ [267, 268, 269, 22] (by decide +kernel) (by decide +kernel)) (by decide) rfl ⟨by decide, by decide, by decide +kernel⟩ ⟨rfl, rfl⟩ ⟨by decide, by decide⟩ ⟨Nat.le_refl _, Nat.le_refl _⟩, fun _ h => absurd h List.not_mem_nil⟩⟩⟩) (Or.inl ⟨rfl, rfl⟩)
theorem uX8_remember {i : Nat} {S : MM} : fX8_remember [vR i] S = rn xX8_remember (0, [some (vR i), none, none], [], S) := rfl
theorem dX8_remember_0 : decode cX8_remember 0 = .ok (.aload_n 0, 1) := by decide +kernel
theorem dX8_remember_1 : decode cX8_remember 1 = .ok (.getfield 25, 3) := by decide +kernel
theorem dX8_remember_4 : decode cX8_remember 4 = .ok (.invokevirtual 261, 3) := by decide +kernel
theorem dX8_remember_7 : decode cX8_remember 7 = .ok (.istore_n 1, 1) := by decide +kernel
theorem dX8_remember_8 : decode cX8_remember 8 = .ok (.iload_n 1, 1) := by decide +kernel
theorem dX8_remember_9 : decode cX8_remember 9 = .ok (.iconst 0, 1) := by decide +kernel
theorem dX8_remember_10 : decode cX8_remember 10 = .ok (.aload_n 0, 1) := by decide +kernel
theorem dX8_remember_11 : decode cX8_remember 11 = .ok (.getfield 16, 3) := by decide +kernel
theorem dX8_remember_14 : decode cX8_remember 14 = .ok (.arraylength, 1) := by decide +kernel
theorem dX8_remember_15 : decode cX8_remember 15 = .ok (.iconst 1, 1) := by decide +kernel
theorem dX8_remember_16 : decode cX8_remember 16 = .ok (.isub, 1) := by decide +kernel
theorem dX8_remember_17 : decode cX8_remember 17 = .ok (.invokestatic 57, 3) := by decide +kernel
theorem dX8_remember_20 : decode cX8_remember 20 = .ok (.ifCond .eq 12, 3) := by decide +kernel
theorem dX8_remember_23 : decode cX8_remember 23 = .ok (.aload_n 0, 1) := by decide +kernel
theorem dX8_remember_24 : decode cX8_remember 24 = .ok (.getfield 16, 3) := by decide +kernel
theorem dX8_remember_27 : decode cX8_remember 27 = .ok (.iload_n 1, 1) := by decide +kernel
theorem dX8_remember_28 : decode cX8_remember 28 = .ok (.aaload, 1) := by decide +kernel
theorem dX8_remember_29 : decode cX8_remember 29 = .ok (.goto 4, 3) := by decide +kernel
theorem dX8_remember_32 : decode cX8_remember 32 = .ok (.aconst_null, 1) := by decide +kernel
theorem dX8_remember_33 : decode cX8_remember 33 = .ok (.astore_n 2, 1) := by decide +kernel
theorem dX8_remember_34 : decode cX8_remember 34 = .ok (.aload_n 2, 1) := by decide +kernel
theorem dX8_remember_35 : decode cX8_remember 35 = .ok (.ifnull 11, 3) := by decide +kernel
theorem dX8_remember_38 : decode cX8_remember 38 = .ok (.aload_n 2, 1) := by decide +kernel
theorem dX8_remember_39 : decode cX8_remember 39 = .ok (.aload_n 0, 1) := by decide +kernel
theorem dX8_remember_40 : decode cX8_remember 40 = .ok (.getfield 12, 3) := by decide +kernel
theorem dX8_remember_43 : decode cX8_remember 43 = .ok (.invokevirtual 251, 3) := by decide +kernel
theorem dX8_remember_46 : decode cX8_remember 46 = .ok (.return_, 1) := by decide +kernel
theorem eX8_remember_0 {a : Option Nat} {l1 l2 : Option VV} {S : MM} : rn xX8_remember (0, [some (.inr (.inl a)), l1, l2], [], S) = rn xX8_remember (1, [some (.inr (.inl a)), l1, l2], [.inr (.inl a)], S) := rn_step dX8_remember_0 rfl rfl
theorem eX8_remember_1 {l0 l1 l2 : Option VV} {S : MM} : rn xX8_remember (1, [l0, l1, l2], [vR 0], S) = rn xX8_remember (4, [l0, l1, l2], [vR 66], S) := q_getR dX8_remember_1 rfl ⟨⟨by decide, by decide⟩, by decide⟩ (fun _ => by decide +kernel) kd0
theorem eX8_remember_4 {i : Nat} {l0 l1 l2 : Option VV} (h : kd i = 4) {S : MM} : rn xX8_remember (4, [l0, l1, l2], [vR i], S) = (fX4_add [vR i] S).bind (fun q => rn xX8_remember (7, [l0, l1, l2], q.1.toList ++ [], q.2)) := q_callV (n := 0) (as := []) (rest := []) dX8_remember_4 rfl rfl rfl rfl h
theorem eX8_remember_7 {a : Int} {w : Option Nat} {l1 l2 : Option VV} {S : MM} : rn xX8_remember (7, [some (.inr (.inl w)), l1, l2], [vI a], S) = rn xX8_remember (8, [some (.inr (.inl w)), some (vI a), l2], [], S) := rn_step dX8_remember_7 rfl rfl
theorem eX8_remember_8 {a : Int} {l0 l2 : Option VV} {S : MM} : rn xX8_remember (8, [l0, some (vI a), l2], [], S) = rn xX8_remember (9, [l0, some (vI a), l2], [vI a], S) := rn_step dX8_remember_8 rfl rfl
theorem eX8_remember_9 {l0 l1 l2 : Option VV} {v0 : VV} {S : MM} : rn xX8_remember (9, [l0, l1, l2], [v0], S) = rn xX8_remember (10, [l0, l1, l2], [vI 0, v0], S) := rn_step dX8_remember_9 rfl rfl
theorem eX8_remember_10 {a : Option Nat} {l1 l2 : Option VV} {v0 v1 : VV} {S : MM} : rn xX8_remember (10, [some (.inr (.inl a)), l1, l2], [v0, v1], S) = rn xX8_remember (11, [some (.inr (.inl a)), l1, l2], [.inr (.inl a), v0, v1], S) := rn_step dX8_remember_10 rfl rfl
theorem eX8_remember_11 {l0 l1 l2 : Option VV} {v1 v2 : VV} {S : MM} : rn xX8_remember (11, [l0, l1, l2], [vR 0, v1, v2], S) = rn xX8_remember (14, [l0, l1, l2], [vR 65, v1, v2], S) := q_getR dX8_remember_11 rfl ⟨⟨by decide, by decide⟩, by decide⟩ (fun _ => by decide +kernel) kd0
theorem eX8_remember_14 {i : Nat} {l0 l1 l2 : Option VV} {v1 v2 : VV} (h : 10 ≤ kd i ∧ kd i ≤ 14) {S : MM} : rn xX8_remember (14, [l0, l1, l2], [vR i, v1, v2], S) = rn xX8_remember (15, [l0, l1, l2], [vI (alen i), v1, v2], S) := q_alen dX8_remember_14 h
theorem eX8_remember_14x {l0 l1 l2 : Option VV} {v1 v2 : VV} {S : MM} : rn xX8_remember (14, [l0, l1, l2], [vR 602, v1, v2], S) = rn xX8_remember (15, [l0, l1, l2], [vI (S 604 0), v1, v2], S) := q_alenX dX8_remember_14
theorem eX8_remember_14y {l0 l1 l2 : Option VV} {v1 v2 : VV} {S : MM} : rn xX8_remember (14, [l0, l1, l2], [vR 603, v1, v2], S) = rn xX8_remember (15, [l0, l1, l2], [vI (S 604 1), v1, v2], S) := q_alenY dX8_remember_14
theorem eX8_remember_15 {l0 l1 l2 : Option VV} {v0 v1 v2 : VV} {S : MM} : rn xX8_remember (15, [l0, l1, l2], [v0, v1, v2], S) = rn xX8_remember (16, [l0, l1, l2], [vI 1, v0, v1, v2], S) := rn_step dX8_remember_15 rfl rfl
theorem eX8_remember_16 {a b : Int} {l0 l1 l2 : Option VV} {v2 v3 : VV} {S : MM} : rn xX8_remember (16, [l0, l1, l2], [vI b, vI a, v2, v3], S) = rn xX8_remember (17, [l0, l1, l2], [vI (a - b), v2, v3], S) := rn_step dX8_remember_16 rfl rfl
theorem eX8_remember_17 {a0 : Int} {a1 : Int} {a2 : Int} {l0 l1 l2 : Option VV} {S : MM} : rn xX8_remember (17, [l0, l1, l2], [vI a2, vI a1, vI a0], S) = (fX8_isBetween [vI a0, vI a1, vI a2] S).bind (fun q => rn xX8_remember (20, [l0, l1, l2], q.1.toList ++ [], q.2)) := q_callS (n := 3) (as := [vI a0, vI a1, vI a2]) (rest := []) dX8_remember_17 rfl rfl rfl rfl
theorem eX8_remember_20 {a : Int} {l0 l1 l2 : Option VV} (h : -2147483648 ≤ a ∧ a ≤ 2147483647) {S : MM} : rn xX8_remember (20, [l0, l1, l2], [vI a], S) = if a = 0 then rn xX8_remember (32, [l0, l1, l2], [], S) else rn xX8_remember (23, [l0, l1, l2], [], S) := q_if_eq dX8_remember_20 (by decide) rfl h
theorem eX8_remember_23 {a : Option Nat} {l1 l2 : Option VV} {S : MM} : rn xX8_remember (23, [some (.inr (.inl a)), l1, l2], [], S) = rn xX8_remember (24, [some (.inr (.inl a)), l1, l2], [.inr (.inl a)], S) := rn_step dX8_remember_23 rfl rfl
theorem eX8_remember_24 {l0 l1 l2 : Option VV} {S : MM} : rn xX8_remember (24, [l0, l1, l2], [vR 0], S) = rn xX8_remember (27, [l0, l1, l2], [vR 65], S) := q_getR dX8_remember_24 rfl ⟨⟨by decide, by decide⟩, by decide⟩ (fun _ => by decide +kernel) kd0
theorem eX8_remember_27 {a : Int} {l0 l2 : Option VV} {v0 : VV} {S : MM} : rn xX8_remember (27, [l0, some (vI a), l2], [v0], S) = rn xX8_remember (28, [l0, some (vI a), l2], [vI a, v0], S) := rn_step dX8_remember_27 rfl rfl
theorem eX8_remember_28 {i : Nat} {j : Int} {l0 l1 l2 : Option VV} (h : kd i = 13 ∨ kd i = 14) (h0 : 0 ≤ j) (h1 : j < alen i) {S : MM} : rn xX8_remember (28, [l0, l1, l2], [vI j, vR i], S) = rn xX8_remember (29, [l0, l1, l2], [vR (fref i j.toNat)], S) := q_aald dX8_remember_28 h h0 h1
theorem eX8_remember_29 {l0 l1 l2 : Option VV} {v0 : VV} {S : MM} : rn xX8_remember (29, [l0, l1, l2], [v0], S) = rn xX8_remember (33, [l0, l1, l2], [v0], S) := rn_step dX8_remember_29 rfl rfl
theorem eX8_remember_32 {l0 l1 l2 : Option VV} {S : MM} : rn xX8_remember (32, [l0, l1, l2], [], S) = rn xX8_remember (33, [l0, l1, l2], [vN], S) := rn_step dX8_remember_32 rfl rfl
theorem eX8_remember_33 {a : Option Nat} {w : Int} {l0 l2 : Option VV} {S : MM} : rn xX8_remember (33, [l0, some (vI w), l2], [.inr (.inl a)], S) = rn xX8_remember (34, [l0, some (vI w), some (.inr (.inl a))], [], S) := rn_step dX8_remember_33 rfl rfl
theorem eX8_remember_34 {a : Option Nat} {l0 l1 : Option VV} {S : MM} : rn xX8_remember (34, [l0, l1, some (.inr (.inl a))], [], S) = rn xX8_remember (35, [l0, l1, some (.inr (.inl a))], [.inr (.inl a)], S) := rn_step dX8_remember_34 rfl rfl
theorem eX8_remember_35n {l0 l1 l2 : Option VV} {S : MM} : rn xX8_remember (35, [l0, l1, l2], [vN], S) = rn xX8_remember (46, [l0, l1, l2], [], S) := rn_step dX8_remember_35 rfl rfl
theorem eX8_remember_35r {i : Nat} {l0 l1 l2 : Option VV} {S : MM} : rn xX8_remember (35, [l0, l1, l2], [vR i], S) = rn xX8_remember (38, [l0, l1, l2], [], S) := rn_step dX8_remember_35 rfl rfl
theorem eX8_remember_38 {a : Option Nat} {l0 l1 : Option VV} {S : MM} : rn xX8_remember (38, [l0, l1, some (.inr (.inl a))], [], S) = rn xX8_remember (39, [l0, l1, some (.inr (.inl a))], [.inr (.inl a)], S) := rn_step dX8_remember_38 rfl rfl
theorem eX8_remember_39 {a : Option Nat} {l1 l2 : Option VV} {v0 : VV} {S : MM} : rn xX8_remember (39, [some (.inr (.inl a)), l1, l2], [v0], S) = rn xX8_remember (40, [some (.inr (.inl a)), l1, l2], [.inr (.inl a), v0], S) := rn_step dX8_remember_39 rfl rfl
theorem eX8_remember_40 {l0 l1 l2 : Option VV} {v1 : VV} {S : MM} : rn xX8_remember (40, [l0, l1, l2], [vR 0, v1], S) = rn xX8_remember (43, [l0, l1, l2], [vR 1, v1], S) := q_getR dX8_remember_40 rfl ⟨⟨by decide, by decide⟩, by decide⟩ (fun _ => by decide +kernel) kd0
theorem eX8_remember_43 {a0 : Option Nat} {i : Nat} {l0 l1 l2 : Option VV} (h : kd i = 6) {S : MM} : rn xX8_remember (43, [l0, l1, l2], [.inr (.inl a0), vR i], S) = (fX6_copyFrom [vR i, .inr (.inl a0)] S).bind (fun q => rn xX8_remember (46, [l0, l1, l2], q.1.toList ++ [], q.2)) := q_callV (n := 1) (as := [.inr (.inl a0)]) (rest := []) dX8_remember_43 rfl rfl rfl rfl h
theorem eX8_remember_46 {l0 l1 l2 : Option VV} {S : MM} : rn xX8_remember (46, [l0, l1, l2], [], S) = some (none, S) := q_retV dX8_remember_46 rfl
noncomputable def qlX8_set : List CE := [(1, 57, 0, 3, fX8_isBetween), (1, 61, 0, 1, fX8_highestValue), (0, 65, 8, 1, fX8_remember), (0, 68, 6, 3, fX6_changeSetting)]
noncomputable def xX8_set : XX := (cX8_set, fcF fcl8, mcF qlX8_set, 1)
noncomputable def fX8_set : FN := fnX xX8_set 3
set_option maxRecDepth 100000 in
theorem cwX8_set : Cond.code yX8_set cX8_set 3 (some .int) ∈ lw_g := lw_gm 249 (by decide +kernel) (by decide +kernel)
set_option maxRecDepth 100000 in
theorem conX8_set : Con yX8_set cX8_set 3 (some .int) { frames := 7, cells := 0, slots := 0, locals := 157 } fX8_set := con_of (X := xX8_set) (own := "LeapStones") (ql := qlX8_set) (by decide) rfl FOK8 rfl (List.forall_mem_cons.mpr ⟨call_S conX8_isBetween cwX8_isBetween (lw_gl _ [250, 251, 21] (by decide +kernel) (by decide +kernel)) ⟨by decide, by decide, by decide +kernel⟩ ⟨rfl, rfl⟩ ⟨by decide, by decide⟩ ⟨Nat.le_refl _, Nat.le_refl _⟩, List.forall_mem_cons.mpr ⟨call_S conX8_highestValue cwX8_highestValue (lw_gl _ [253, 254, 21] (by decide +kernel) (by decide +kernel)) ⟨by decide, by decide, by decide +kernel⟩ ⟨rfl, rfl⟩ ⟨by decide, by decide⟩ ⟨Nat.le_refl _, Nat.le_refl _⟩, List.forall_mem_cons.mpr ⟨call_V conX8_remember cwX8_remember (lw_gl _ [256, 258, 0, 21] (by decide +kernel) (by decide +kernel)) (by decide) rfl ⟨by decide, by decide, by decide +kernel⟩ ⟨rfl, rfl⟩ ⟨by decide, by decide⟩ ⟨Nat.le_refl _, Nat.le_refl _⟩, List.forall_mem_cons.mpr ⟨call_V conX6_changeSetting cwX6_changeSetting (lw_gl _ [310, 311, 312, 22] (by decide +kernel) (by decide +kernel)) (by decide) rfl ⟨by decide, by decide, by decide +kernel⟩ ⟨rfl, rfl⟩ ⟨by decide, by decide⟩ ⟨Nat.le_refl _, Nat.le_refl _⟩, fun _ h => absurd h List.not_mem_nil⟩⟩⟩⟩) (Or.inr (Or.inl ⟨rfl, rfl⟩))
theorem uX8_set {i : Nat} {a0 : Int} {a1 : Int} {S : MM} : fX8_set [vR i, vI a0, vI a1] S = rn xX8_set (0, [some (vR i), some (vI a0), some (vI a1)], [], S) := rfl
theorem dX8_set_0 : decode cX8_set 0 = .ok (.iload_n 1, 1) := by decide +kernel
theorem dX8_set_1 : decode cX8_set 1 = .ok (.iconst 0, 1) := by decide +kernel
theorem dX8_set_2 : decode cX8_set 2 = .ok (.iconst 3, 1) := by decide +kernel
theorem dX8_set_3 : decode cX8_set 3 = .ok (.invokestatic 57, 3) := by decide +kernel
theorem dX8_set_6 : decode cX8_set 6 = .ok (.ifCond .eq 15, 3) := by decide +kernel
theorem dX8_set_9 : decode cX8_set 9 = .ok (.iload_n 2, 1) := by decide +kernel
theorem dX8_set_10 : decode cX8_set 10 = .ok (.iconst 0, 1) := by decide +kernel
theorem dX8_set_11 : decode cX8_set 11 = .ok (.iload_n 1, 1) := by decide +kernel
theorem dX8_set_12 : decode cX8_set 12 = .ok (.invokestatic 61, 3) := by decide +kernel
theorem dX8_set_15 : decode cX8_set 15 = .ok (.invokestatic 57, 3) := by decide +kernel
theorem dX8_set_18 : decode cX8_set 18 = .ok (.ifCond .ne 6, 3) := by decide +kernel
theorem dX8_set_21 : decode cX8_set 21 = .ok (.bipush (-2), 2) := by decide +kernel
theorem dX8_set_23 : decode cX8_set 23 = .ok (.ireturn, 1) := by decide +kernel
theorem dX8_set_24 : decode cX8_set 24 = .ok (.aload_n 0, 1) := by decide +kernel
theorem dX8_set_25 : decode cX8_set 25 = .ok (.invokevirtual 65, 3) := by decide +kernel
theorem dX8_set_28 : decode cX8_set 28 = .ok (.aload_n 0, 1) := by decide +kernel
theorem dX8_set_29 : decode cX8_set 29 = .ok (.getfield 12, 3) := by decide +kernel
theorem dX8_set_32 : decode cX8_set 32 = .ok (.iload_n 1, 1) := by decide +kernel
theorem dX8_set_33 : decode cX8_set 33 = .ok (.iload_n 2, 1) := by decide +kernel
theorem dX8_set_34 : decode cX8_set 34 = .ok (.invokevirtual 68, 3) := by decide +kernel
theorem dX8_set_37 : decode cX8_set 37 = .ok (.ireturn, 1) := by decide +kernel
theorem eX8_set_0 {a : Int} {l0 l2 : Option VV} {S : MM} : rn xX8_set (0, [l0, some (vI a), l2], [], S) = rn xX8_set (1, [l0, some (vI a), l2], [vI a], S) := rn_step dX8_set_0 rfl rfl
theorem eX8_set_1 {l0 l1 l2 : Option VV} {v0 : VV} {S : MM} : rn xX8_set (1, [l0, l1, l2], [v0], S) = rn xX8_set (2, [l0, l1, l2], [vI 0, v0], S) := rn_step dX8_set_1 rfl rfl
theorem eX8_set_2 {l0 l1 l2 : Option VV} {v0 v1 : VV} {S : MM} : rn xX8_set (2, [l0, l1, l2], [v0, v1], S) = rn xX8_set (3, [l0, l1, l2], [vI 3, v0, v1], S) := rn_step dX8_set_2 rfl rfl
theorem eX8_set_3 {a0 : Int} {a1 : Int} {a2 : Int} {l0 l1 l2 : Option VV} {S : MM} : rn xX8_set (3, [l0, l1, l2], [vI a2, vI a1, vI a0], S) = (fX8_isBetween [vI a0, vI a1, vI a2] S).bind (fun q => rn xX8_set (6, [l0, l1, l2], q.1.toList ++ [], q.2)) := q_callS (n := 3) (as := [vI a0, vI a1, vI a2]) (rest := []) dX8_set_3 rfl rfl rfl rfl
theorem eX8_set_6 {a : Int} {l0 l1 l2 : Option VV} (h : -2147483648 ≤ a ∧ a ≤ 2147483647) {S : MM} : rn xX8_set (6, [l0, l1, l2], [vI a], S) = if a = 0 then rn xX8_set (21, [l0, l1, l2], [], S) else rn xX8_set (9, [l0, l1, l2], [], S) := q_if_eq dX8_set_6 (by decide) rfl h
theorem eX8_set_9 {a : Int} {l0 l1 : Option VV} {S : MM} : rn xX8_set (9, [l0, l1, some (vI a)], [], S) = rn xX8_set (10, [l0, l1, some (vI a)], [vI a], S) := rn_step dX8_set_9 rfl rfl
theorem eX8_set_10 {l0 l1 l2 : Option VV} {v0 : VV} {S : MM} : rn xX8_set (10, [l0, l1, l2], [v0], S) = rn xX8_set (11, [l0, l1, l2], [vI 0, v0], S) := rn_step dX8_set_10 rfl rfl
theorem eX8_set_11 {a : Int} {l0 l2 : Option VV} {v0 v1 : VV} {S : MM} : rn xX8_set (11, [l0, some (vI a), l2], [v0, v1], S) = rn xX8_set (12, [l0, some (vI a), l2], [vI a, v0, v1], S) := rn_step dX8_set_11 rfl rfl
theorem eX8_set_12 {a0 : Int} {l0 l1 l2 : Option VV} {v1 v2 : VV} {S : MM} : rn xX8_set (12, [l0, l1, l2], [vI a0, v1, v2], S) = (fX8_highestValue [vI a0] S).bind (fun q => rn xX8_set (15, [l0, l1, l2], q.1.toList ++ [v1, v2], q.2)) := q_callS (n := 1) (as := [vI a0]) (rest := [v1, v2]) dX8_set_12 rfl rfl rfl rfl
theorem eX8_set_15 {a0 : Int} {a1 : Int} {a2 : Int} {l0 l1 l2 : Option VV} {S : MM} : rn xX8_set (15, [l0, l1, l2], [vI a2, vI a1, vI a0], S) = (fX8_isBetween [vI a0, vI a1, vI a2] S).bind (fun q => rn xX8_set (18, [l0, l1, l2], q.1.toList ++ [], q.2)) := q_callS (n := 3) (as := [vI a0, vI a1, vI a2]) (rest := []) dX8_set_15 rfl rfl rfl rfl
theorem eX8_set_18 {a : Int} {l0 l1 l2 : Option VV} (h : -2147483648 ≤ a ∧ a ≤ 2147483647) {S : MM} : rn xX8_set (18, [l0, l1, l2], [vI a], S) = if a = 0 then rn xX8_set (21, [l0, l1, l2], [], S) else rn xX8_set (24, [l0, l1, l2], [], S) := q_if_ne dX8_set_18 (by decide) rfl h
theorem eX8_set_21 {l0 l1 l2 : Option VV} {S : MM} : rn xX8_set (21, [l0, l1, l2], [], S) = rn xX8_set (23, [l0, l1, l2], [vI (-2)], S) := rn_step dX8_set_21 rfl rfl
theorem eX8_set_23 {z : Int} {l0 l1 l2 : Option VV} {S : MM} : rn xX8_set (23, [l0, l1, l2], [vI z], S) = some (some (vI z), S) := q_retI dX8_set_23 rfl
theorem eX8_set_24 {a : Option Nat} {l1 l2 : Option VV} {S : MM} : rn xX8_set (24, [some (.inr (.inl a)), l1, l2], [], S) = rn xX8_set (25, [some (.inr (.inl a)), l1, l2], [.inr (.inl a)], S) := rn_step dX8_set_24 rfl rfl
theorem eX8_set_25 {l0 l1 l2 : Option VV} {S : MM} : rn xX8_set (25, [l0, l1, l2], [vR 0], S) = (fX8_remember [vR 0] S).bind (fun q => rn xX8_set (28, [l0, l1, l2], q.1.toList ++ [], q.2)) := q_callV (n := 0) (as := []) (rest := []) dX8_set_25 rfl rfl rfl rfl kd0
theorem eX8_set_28 {a : Option Nat} {l1 l2 : Option VV} {S : MM} : rn xX8_set (28, [some (.inr (.inl a)), l1, l2], [], S) = rn xX8_set (29, [some (.inr (.inl a)), l1, l2], [.inr (.inl a)], S) := rn_step dX8_set_28 rfl rfl
theorem eX8_set_29 {l0 l1 l2 : Option VV} {S : MM} : rn xX8_set (29, [l0, l1, l2], [vR 0], S) = rn xX8_set (32, [l0, l1, l2], [vR 1], S) := q_getR dX8_set_29 rfl ⟨⟨by decide, by decide⟩, by decide⟩ (fun _ => by decide +kernel) kd0
theorem eX8_set_32 {a : Int} {l0 l2 : Option VV} {v0 : VV} {S : MM} : rn xX8_set (32, [l0, some (vI a), l2], [v0], S) = rn xX8_set (33, [l0, some (vI a), l2], [vI a, v0], S) := rn_step dX8_set_32 rfl rfl
theorem eX8_set_33 {a : Int} {l0 l1 : Option VV} {v0 v1 : VV} {S : MM} : rn xX8_set (33, [l0, l1, some (vI a)], [v0, v1], S) = rn xX8_set (34, [l0, l1, some (vI a)], [vI a, v0, v1], S) := rn_step dX8_set_33 rfl rfl
theorem eX8_set_34 {a0 : Int} {a1 : Int} {i : Nat} {l0 l1 l2 : Option VV} (h : kd i = 6) {S : MM} : rn xX8_set (34, [l0, l1, l2], [vI a1, vI a0, vR i], S) = (fX6_changeSetting [vR i, vI a0, vI a1] S).bind (fun q => rn xX8_set (37, [l0, l1, l2], q.1.toList ++ [], q.2)) := q_callV (n := 2) (as := [vI a0, vI a1]) (rest := []) dX8_set_34 rfl rfl rfl rfl h
theorem eX8_set_37 {z : Int} {l0 l1 l2 : Option VV} {S : MM} : rn xX8_set (37, [l0, l1, l2], [vI z], S) = some (some (vI z), S) := q_retI dX8_set_37 rfl
noncomputable def qlX8_stone : List CE := [(0, 72, 6, 4, fX6_errorOfLaying), (0, 65, 8, 1, fX8_remember), (0, 76, 6, 4, fX6_lay)]
noncomputable def xX8_stone : XX := (cX8_stone, fcF fcl8, mcF qlX8_stone, 1)
noncomputable def fX8_stone : FN := fnX xX8_stone 5
set_option maxRecDepth 100000 in
theorem cwX8_stone : Cond.code yX8_stone cX8_stone 5 (some .int) ∈ lw_g := lw_gm 337 (by decide +kernel) (by decide +kernel)
set_option maxRecDepth 100000 in
theorem conX8_stone : Con yX8_stone cX8_stone 5 (some .int) { frames := 7, cells := 0, slots := 0, locals := 157 } fX8_stone := con_of (X := xX8_stone) (own := "LeapStones") (ql := qlX8_stone) (by decide) rfl FOK8 rfl (List.forall_mem_cons.mpr ⟨call_V conX6_errorOfLaying cwX6_errorOfLaying (lw_gl _ [338, 339, 340, 22] (by decide +kernel) (by decide +kernel)) (by decide) rfl ⟨by decide, by decide, by decide +kernel⟩ ⟨rfl, rfl⟩ ⟨by decide, by decide⟩ ⟨Nat.le_refl _, Nat.le_refl _⟩, List.forall_mem_cons.mpr ⟨call_V conX8_remember cwX8_remember (lw_gl _ [256, 258, 0, 21] (by decide +kernel) (by decide +kernel)) (by decide) rfl ⟨by decide, by decide, by decide +kernel⟩ ⟨rfl, rfl⟩ ⟨by decide, by decide⟩ ⟨Nat.le_refl _, Nat.le_refl _⟩, List.forall_mem_cons.mpr ⟨call_V conX6_lay cwX6_lay (lw_gl _ [358, 359, 360, 22] (by decide +kernel) (by decide +kernel)) (by decide) rfl ⟨by decide, by decide, by decide +kernel⟩ ⟨rfl, rfl⟩ ⟨by decide, by decide⟩ ⟨Nat.le_refl _, Nat.le_refl _⟩, fun _ h => absurd h List.not_mem_nil⟩⟩⟩) (Or.inr (Or.inl ⟨rfl, rfl⟩))
theorem uX8_stone {i : Nat} {a0 : Int} {a1 : Int} {a2 : Int} {S : MM} : fX8_stone [vR i, vI a0, vI a1, vI a2] S = rn xX8_stone (0, [some (vR i), some (vI a0), some (vI a1), some (vI a2), none], [], S) := rfl
theorem dX8_stone_0 : decode cX8_stone 0 = .ok (.aload_n 0, 1) := by decide +kernel
theorem dX8_stone_1 : decode cX8_stone 1 = .ok (.getfield 12, 3) := by decide +kernel
theorem dX8_stone_4 : decode cX8_stone 4 = .ok (.iload_n 1, 1) := by decide +kernel
theorem dX8_stone_5 : decode cX8_stone 5 = .ok (.iload_n 2, 1) := by decide +kernel
theorem dX8_stone_6 : decode cX8_stone 6 = .ok (.iload_n 3, 1) := by decide +kernel
theorem dX8_stone_7 : decode cX8_stone 7 = .ok (.invokevirtual 72, 3) := by decide +kernel
theorem dX8_stone_10 : decode cX8_stone 10 = .ok (.istore 4, 2) := by decide +kernel
theorem dX8_stone_12 : decode cX8_stone 12 = .ok (.iload 4, 2) := by decide +kernel
theorem dX8_stone_14 : decode cX8_stone 14 = .ok (.ifCond .ge 6, 3) := by decide +kernel
theorem dX8_stone_17 : decode cX8_stone 17 = .ok (.iload 4, 2) := by decide +kernel
theorem dX8_stone_19 : decode cX8_stone 19 = .ok (.ireturn, 1) := by decide +kernel
theorem dX8_stone_20 : decode cX8_stone 20 = .ok (.aload_n 0, 1) := by decide +kernel
theorem dX8_stone_21 : decode cX8_stone 21 = .ok (.invokevirtual 65, 3) := by decide +kernel
theorem dX8_stone_24 : decode cX8_stone 24 = .ok (.aload_n 0, 1) := by decide +kernel
theorem dX8_stone_25 : decode cX8_stone 25 = .ok (.getfield 12, 3) := by decide +kernel
theorem dX8_stone_28 : decode cX8_stone 28 = .ok (.iload_n 1, 1) := by decide +kernel
theorem dX8_stone_29 : decode cX8_stone 29 = .ok (.iload_n 2, 1) := by decide +kernel
theorem dX8_stone_30 : decode cX8_stone 30 = .ok (.iload_n 3, 1) := by decide +kernel
theorem dX8_stone_31 : decode cX8_stone 31 = .ok (.invokevirtual 76, 3) := by decide +kernel
theorem dX8_stone_34 : decode cX8_stone 34 = .ok (.ireturn, 1) := by decide +kernel
theorem eX8_stone_0 {a : Option Nat} {l1 l2 l3 l4 : Option VV} {S : MM} : rn xX8_stone (0, [some (.inr (.inl a)), l1, l2, l3, l4], [], S) = rn xX8_stone (1, [some (.inr (.inl a)), l1, l2, l3, l4], [.inr (.inl a)], S) := rn_step dX8_stone_0 rfl rfl
theorem eX8_stone_1 {l0 l1 l2 l3 l4 : Option VV} {S : MM} : rn xX8_stone (1, [l0, l1, l2, l3, l4], [vR 0], S) = rn xX8_stone (4, [l0, l1, l2, l3, l4], [vR 1], S) := q_getR dX8_stone_1 rfl ⟨⟨by decide, by decide⟩, by decide⟩ (fun _ => by decide +kernel) kd0
theorem eX8_stone_4 {a : Int} {l0 l2 l3 l4 : Option VV} {v0 : VV} {S : MM} : rn xX8_stone (4, [l0, some (vI a), l2, l3, l4], [v0], S) = rn xX8_stone (5, [l0, some (vI a), l2, l3, l4], [vI a, v0], S) := rn_step dX8_stone_4 rfl rfl
theorem eX8_stone_5 {a : Int} {l0 l1 l3 l4 : Option VV} {v0 v1 : VV} {S : MM} : rn xX8_stone (5, [l0, l1, some (vI a), l3, l4], [v0, v1], S) = rn xX8_stone (6, [l0, l1, some (vI a), l3, l4], [vI a, v0, v1], S) := rn_step dX8_stone_5 rfl rfl
theorem eX8_stone_6 {a : Int} {l0 l1 l2 l4 : Option VV} {v0 v1 v2 : VV} {S : MM} : rn xX8_stone (6, [l0, l1, l2, some (vI a), l4], [v0, v1, v2], S) = rn xX8_stone (7, [l0, l1, l2, some (vI a), l4], [vI a, v0, v1, v2], S) := rn_step dX8_stone_6 rfl rfl
theorem eX8_stone_7 {a0 : Int} {a1 : Int} {a2 : Int} {i : Nat} {l0 l1 l2 l3 l4 : Option VV} (h : kd i = 6) {S : MM} : rn xX8_stone (7, [l0, l1, l2, l3, l4], [vI a2, vI a1, vI a0, vR i], S) = (fX6_errorOfLaying [vR i, vI a0, vI a1, vI a2] S).bind (fun q => rn xX8_stone (10, [l0, l1, l2, l3, l4], q.1.toList ++ [], q.2)) := q_callV (n := 3) (as := [vI a0, vI a1, vI a2]) (rest := []) dX8_stone_7 rfl rfl rfl rfl h
theorem eX8_stone_10 {a : Int} {w : Int} {l0 l1 l2 l4 : Option VV} {S : MM} : rn xX8_stone (10, [l0, l1, l2, some (vI w), l4], [vI a], S) = rn xX8_stone (12, [l0, l1, l2, some (vI w), some (vI a)], [], S) := rn_step dX8_stone_10 rfl rfl
theorem eX8_stone_12 {a : Int} {l0 l1 l2 l3 : Option VV} {S : MM} : rn xX8_stone (12, [l0, l1, l2, l3, some (vI a)], [], S) = rn xX8_stone (14, [l0, l1, l2, l3, some (vI a)], [vI a], S) := rn_step dX8_stone_12 rfl rfl
theorem eX8_stone_14 {a : Int} {l0 l1 l2 l3 l4 : Option VV} (h : -2147483648 ≤ a ∧ a ≤ 2147483647) {S : MM} : rn xX8_stone (14, [l0, l1, l2, l3, l4], [vI a], S) = if a < 0 then rn xX8_stone (17, [l0, l1, l2, l3, l4], [], S) else rn xX8_stone (20, [l0, l1, l2, l3, l4], [], S) := q_if_ge dX8_stone_14 (by decide) rfl h
theorem eX8_stone_17 {a : Int} {l0 l1 l2 l3 : Option VV} {S : MM} : rn xX8_stone (17, [l0, l1, l2, l3, some (vI a)], [], S) = rn xX8_stone (19, [l0, l1, l2, l3, some (vI a)], [vI a], S) := rn_step dX8_stone_17 rfl rfl
theorem eX8_stone_19 {z : Int} {l0 l1 l2 l3 l4 : Option VV} {S : MM} : rn xX8_stone (19, [l0, l1, l2, l3, l4], [vI z], S) = some (some (vI z), S) := q_retI dX8_stone_19 rfl
theorem eX8_stone_20 {a : Option Nat} {l1 l2 l3 l4 : Option VV} {S : MM} : rn xX8_stone (20, [some (.inr (.inl a)), l1, l2, l3, l4], [], S) = rn xX8_stone (21, [some (.inr (.inl a)), l1, l2, l3, l4], [.inr (.inl a)], S) := rn_step dX8_stone_20 rfl rfl
theorem eX8_stone_21 {l0 l1 l2 l3 l4 : Option VV} {S : MM} : rn xX8_stone (21, [l0, l1, l2, l3, l4], [vR 0], S) = (fX8_remember [vR 0] S).bind (fun q => rn xX8_stone (24, [l0, l1, l2, l3, l4], q.1.toList ++ [], q.2)) := q_callV (n := 0) (as := []) (rest := []) dX8_stone_21 rfl rfl rfl rfl kd0
theorem eX8_stone_24 {a : Option Nat} {l1 l2 l3 l4 : Option VV} {S : MM} : rn xX8_stone (24, [some (.inr (.inl a)), l1, l2, l3, l4], [], S) = rn xX8_stone (25, [some (.inr (.inl a)), l1, l2, l3, l4], [.inr (.inl a)], S) := rn_step dX8_stone_24 rfl rfl
theorem eX8_stone_25 {l0 l1 l2 l3 l4 : Option VV} {S : MM} : rn xX8_stone (25, [l0, l1, l2, l3, l4], [vR 0], S) = rn xX8_stone (28, [l0, l1, l2, l3, l4], [vR 1], S) := q_getR dX8_stone_25 rfl ⟨⟨by decide, by decide⟩, by decide⟩ (fun _ => by decide +kernel) kd0
theorem eX8_stone_28 {a : Int} {l0 l2 l3 l4 : Option VV} {v0 : VV} {S : MM} : rn xX8_stone (28, [l0, some (vI a), l2, l3, l4], [v0], S) = rn xX8_stone (29, [l0, some (vI a), l2, l3, l4], [vI a, v0], S) := rn_step dX8_stone_28 rfl rfl
theorem eX8_stone_29 {a : Int} {l0 l1 l3 l4 : Option VV} {v0 v1 : VV} {S : MM} : rn xX8_stone (29, [l0, l1, some (vI a), l3, l4], [v0, v1], S) = rn xX8_stone (30, [l0, l1, some (vI a), l3, l4], [vI a, v0, v1], S) := rn_step dX8_stone_29 rfl rfl
theorem eX8_stone_30 {a : Int} {l0 l1 l2 l4 : Option VV} {v0 v1 v2 : VV} {S : MM} : rn xX8_stone (30, [l0, l1, l2, some (vI a), l4], [v0, v1, v2], S) = rn xX8_stone (31, [l0, l1, l2, some (vI a), l4], [vI a, v0, v1, v2], S) := rn_step dX8_stone_30 rfl rfl
theorem eX8_stone_31 {a0 : Int} {a1 : Int} {a2 : Int} {i : Nat} {l0 l1 l2 l3 l4 : Option VV} (h : kd i = 6) {S : MM} : rn xX8_stone (31, [l0, l1, l2, l3, l4], [vI a2, vI a1, vI a0, vR i], S) = (fX6_lay [vR i, vI a0, vI a1, vI a2] S).bind (fun q => rn xX8_stone (34, [l0, l1, l2, l3, l4], q.1.toList ++ [], q.2)) := q_callV (n := 3) (as := [vI a0, vI a1, vI a2]) (rest := []) dX8_stone_31 rfl rfl rfl rfl h
theorem eX8_stone_34 {z : Int} {l0 l1 l2 l3 l4 : Option VV} {S : MM} : rn xX8_stone (34, [l0, l1, l2, l3, l4], [vI z], S) = some (some (vI z), S) := q_retI dX8_stone_34 rfl
noncomputable def qlX8_flood : List CE := [(0, 79, 6, 4, fX6_errorOfFlooding), (0, 65, 8, 1, fX8_remember), (0, 82, 6, 4, fX6_takeAway)]
noncomputable def xX8_flood : XX := (cX8_flood, fcF fcl8, mcF qlX8_flood, 1)
noncomputable def fX8_flood : FN := fnX xX8_flood 5
set_option maxRecDepth 100000 in
theorem cwX8_flood : Cond.code yX8_flood cX8_flood 5 (some .int) ∈ lw_g := lw_gm 428 (by decide +kernel) (by decide +kernel)
set_option maxRecDepth 100000 in
theorem conX8_flood : Con yX8_flood cX8_flood 5 (some .int) { frames := 7, cells := 0, slots := 0, locals := 157 } fX8_flood := con_of (X := xX8_flood) (own := "LeapStones") (ql := qlX8_flood) (by decide) rfl FOK8 rfl (List.forall_mem_cons.mpr ⟨call_V conX6_errorOfFlooding cwX6_errorOfFlooding (lw_gl _ [429, 430, 431, 22] (by decide +kernel) (by decide +kernel)) (by decide) rfl ⟨by decide, by decide, by decide +kernel⟩ ⟨rfl, rfl⟩ ⟨by decide, by decide⟩ ⟨Nat.le_refl _, Nat.le_refl _⟩, List.forall_mem_cons.mpr ⟨call_V conX8_remember cwX8_remember (lw_gl _ [256, 258, 0, 21] (by decide +kernel) (by decide +kernel)) (by decide) rfl ⟨by decide, by decide, by decide +kernel⟩ ⟨rfl, rfl⟩ ⟨by decide, by decide⟩ ⟨Nat.le_refl _, Nat.le_refl _⟩, List.forall_mem_cons.mpr ⟨call_V conX6_takeAway cwX6_takeAway (lw_gl _ [436, 437, 438, 22] (by decide +kernel) (by decide +kernel)) (by decide) rfl ⟨by decide, by decide, by decide +kernel⟩ ⟨rfl, rfl⟩ ⟨by decide, by decide⟩ ⟨Nat.le_refl _, Nat.le_refl _⟩, fun _ h => absurd h List.not_mem_nil⟩⟩⟩) (Or.inr (Or.inl ⟨rfl, rfl⟩))
theorem uX8_flood {i : Nat} {a0 : Int} {a1 : Int} {a2 : Int} {S : MM} : fX8_flood [vR i, vI a0, vI a1, vI a2] S = rn xX8_flood (0, [some (vR i), some (vI a0), some (vI a1), some (vI a2), none], [], S) := rfl
theorem dX8_flood_0 : decode cX8_flood 0 = .ok (.aload_n 0, 1) := by decide +kernel
theorem dX8_flood_1 : decode cX8_flood 1 = .ok (.getfield 12, 3) := by decide +kernel
theorem dX8_flood_4 : decode cX8_flood 4 = .ok (.iload_n 1, 1) := by decide +kernel
theorem dX8_flood_5 : decode cX8_flood 5 = .ok (.iload_n 2, 1) := by decide +kernel
theorem dX8_flood_6 : decode cX8_flood 6 = .ok (.iload_n 3, 1) := by decide +kernel
theorem dX8_flood_7 : decode cX8_flood 7 = .ok (.invokevirtual 79, 3) := by decide +kernel
theorem dX8_flood_10 : decode cX8_flood 10 = .ok (.istore 4, 2) := by decide +kernel
theorem dX8_flood_12 : decode cX8_flood 12 = .ok (.iload 4, 2) := by decide +kernel
theorem dX8_flood_14 : decode cX8_flood 14 = .ok (.ifCond .ge 6, 3) := by decide +kernel
theorem dX8_flood_17 : decode cX8_flood 17 = .ok (.iload 4, 2) := by decide +kernel
theorem dX8_flood_19 : decode cX8_flood 19 = .ok (.ireturn, 1) := by decide +kernel
theorem dX8_flood_20 : decode cX8_flood 20 = .ok (.aload_n 0, 1) := by decide +kernel
theorem dX8_flood_21 : decode cX8_flood 21 = .ok (.invokevirtual 65, 3) := by decide +kernel
theorem dX8_flood_24 : decode cX8_flood 24 = .ok (.aload_n 0, 1) := by decide +kernel
theorem dX8_flood_25 : decode cX8_flood 25 = .ok (.getfield 12, 3) := by decide +kernel
theorem dX8_flood_28 : decode cX8_flood 28 = .ok (.iload_n 1, 1) := by decide +kernel
theorem dX8_flood_29 : decode cX8_flood 29 = .ok (.iload_n 2, 1) := by decide +kernel
theorem dX8_flood_30 : decode cX8_flood 30 = .ok (.iload_n 3, 1) := by decide +kernel
theorem dX8_flood_31 : decode cX8_flood 31 = .ok (.invokevirtual 82, 3) := by decide +kernel
theorem dX8_flood_34 : decode cX8_flood 34 = .ok (.ireturn, 1) := by decide +kernel
theorem eX8_flood_0 {a : Option Nat} {l1 l2 l3 l4 : Option VV} {S : MM} : rn xX8_flood (0, [some (.inr (.inl a)), l1, l2, l3, l4], [], S) = rn xX8_flood (1, [some (.inr (.inl a)), l1, l2, l3, l4], [.inr (.inl a)], S) := rn_step dX8_flood_0 rfl rfl
theorem eX8_flood_1 {l0 l1 l2 l3 l4 : Option VV} {S : MM} : rn xX8_flood (1, [l0, l1, l2, l3, l4], [vR 0], S) = rn xX8_flood (4, [l0, l1, l2, l3, l4], [vR 1], S) := q_getR dX8_flood_1 rfl ⟨⟨by decide, by decide⟩, by decide⟩ (fun _ => by decide +kernel) kd0
theorem eX8_flood_4 {a : Int} {l0 l2 l3 l4 : Option VV} {v0 : VV} {S : MM} : rn xX8_flood (4, [l0, some (vI a), l2, l3, l4], [v0], S) = rn xX8_flood (5, [l0, some (vI a), l2, l3, l4], [vI a, v0], S) := rn_step dX8_flood_4 rfl rfl
theorem eX8_flood_5 {a : Int} {l0 l1 l3 l4 : Option VV} {v0 v1 : VV} {S : MM} : rn xX8_flood (5, [l0, l1, some (vI a), l3, l4], [v0, v1], S) = rn xX8_flood (6, [l0, l1, some (vI a), l3, l4], [vI a, v0, v1], S) := rn_step dX8_flood_5 rfl rfl
theorem eX8_flood_6 {a : Int} {l0 l1 l2 l4 : Option VV} {v0 v1 v2 : VV} {S : MM} : rn xX8_flood (6, [l0, l1, l2, some (vI a), l4], [v0, v1, v2], S) = rn xX8_flood (7, [l0, l1, l2, some (vI a), l4], [vI a, v0, v1, v2], S) := rn_step dX8_flood_6 rfl rfl
theorem eX8_flood_7 {a0 : Int} {a1 : Int} {a2 : Int} {i : Nat} {l0 l1 l2 l3 l4 : Option VV} (h : kd i = 6) {S : MM} : rn xX8_flood (7, [l0, l1, l2, l3, l4], [vI a2, vI a1, vI a0, vR i], S) = (fX6_errorOfFlooding [vR i, vI a0, vI a1, vI a2] S).bind (fun q => rn xX8_flood (10, [l0, l1, l2, l3, l4], q.1.toList ++ [], q.2)) := q_callV (n := 3) (as := [vI a0, vI a1, vI a2]) (rest := []) dX8_flood_7 rfl rfl rfl rfl h
theorem eX8_flood_10 {a : Int} {w : Int} {l0 l1 l2 l4 : Option VV} {S : MM} : rn xX8_flood (10, [l0, l1, l2, some (vI w), l4], [vI a], S) = rn xX8_flood (12, [l0, l1, l2, some (vI w), some (vI a)], [], S) := rn_step dX8_flood_10 rfl rfl
theorem eX8_flood_12 {a : Int} {l0 l1 l2 l3 : Option VV} {S : MM} : rn xX8_flood (12, [l0, l1, l2, l3, some (vI a)], [], S) = rn xX8_flood (14, [l0, l1, l2, l3, some (vI a)], [vI a], S) := rn_step dX8_flood_12 rfl rfl
theorem eX8_flood_14 {a : Int} {l0 l1 l2 l3 l4 : Option VV} (h : -2147483648 ≤ a ∧ a ≤ 2147483647) {S : MM} : rn xX8_flood (14, [l0, l1, l2, l3, l4], [vI a], S) = if a < 0 then rn xX8_flood (17, [l0, l1, l2, l3, l4], [], S) else rn xX8_flood (20, [l0, l1, l2, l3, l4], [], S) := q_if_ge dX8_flood_14 (by decide) rfl h
theorem eX8_flood_17 {a : Int} {l0 l1 l2 l3 : Option VV} {S : MM} : rn xX8_flood (17, [l0, l1, l2, l3, some (vI a)], [], S) = rn xX8_flood (19, [l0, l1, l2, l3, some (vI a)], [vI a], S) := rn_step dX8_flood_17 rfl rfl
theorem eX8_flood_19 {z : Int} {l0 l1 l2 l3 l4 : Option VV} {S : MM} : rn xX8_flood (19, [l0, l1, l2, l3, l4], [vI z], S) = some (some (vI z), S) := q_retI dX8_flood_19 rfl
theorem eX8_flood_20 {a : Option Nat} {l1 l2 l3 l4 : Option VV} {S : MM} : rn xX8_flood (20, [some (.inr (.inl a)), l1, l2, l3, l4], [], S) = rn xX8_flood (21, [some (.inr (.inl a)), l1, l2, l3, l4], [.inr (.inl a)], S) := rn_step dX8_flood_20 rfl rfl
theorem eX8_flood_21 {l0 l1 l2 l3 l4 : Option VV} {S : MM} : rn xX8_flood (21, [l0, l1, l2, l3, l4], [vR 0], S) = (fX8_remember [vR 0] S).bind (fun q => rn xX8_flood (24, [l0, l1, l2, l3, l4], q.1.toList ++ [], q.2)) := q_callV (n := 0) (as := []) (rest := []) dX8_flood_21 rfl rfl rfl rfl kd0
theorem eX8_flood_24 {a : Option Nat} {l1 l2 l3 l4 : Option VV} {S : MM} : rn xX8_flood (24, [some (.inr (.inl a)), l1, l2, l3, l4], [], S) = rn xX8_flood (25, [some (.inr (.inl a)), l1, l2, l3, l4], [.inr (.inl a)], S) := rn_step dX8_flood_24 rfl rfl
theorem eX8_flood_25 {l0 l1 l2 l3 l4 : Option VV} {S : MM} : rn xX8_flood (25, [l0, l1, l2, l3, l4], [vR 0], S) = rn xX8_flood (28, [l0, l1, l2, l3, l4], [vR 1], S) := q_getR dX8_flood_25 rfl ⟨⟨by decide, by decide⟩, by decide⟩ (fun _ => by decide +kernel) kd0
theorem eX8_flood_28 {a : Int} {l0 l2 l3 l4 : Option VV} {v0 : VV} {S : MM} : rn xX8_flood (28, [l0, some (vI a), l2, l3, l4], [v0], S) = rn xX8_flood (29, [l0, some (vI a), l2, l3, l4], [vI a, v0], S) := rn_step dX8_flood_28 rfl rfl
theorem eX8_flood_29 {a : Int} {l0 l1 l3 l4 : Option VV} {v0 v1 : VV} {S : MM} : rn xX8_flood (29, [l0, l1, some (vI a), l3, l4], [v0, v1], S) = rn xX8_flood (30, [l0, l1, some (vI a), l3, l4], [vI a, v0, v1], S) := rn_step dX8_flood_29 rfl rfl
theorem eX8_flood_30 {a : Int} {l0 l1 l2 l4 : Option VV} {v0 v1 v2 : VV} {S : MM} : rn xX8_flood (30, [l0, l1, l2, some (vI a), l4], [v0, v1, v2], S) = rn xX8_flood (31, [l0, l1, l2, some (vI a), l4], [vI a, v0, v1, v2], S) := rn_step dX8_flood_30 rfl rfl
theorem eX8_flood_31 {a0 : Int} {a1 : Int} {a2 : Int} {i : Nat} {l0 l1 l2 l3 l4 : Option VV} (h : kd i = 6) {S : MM} : rn xX8_flood (31, [l0, l1, l2, l3, l4], [vI a2, vI a1, vI a0, vR i], S) = (fX6_takeAway [vR i, vI a0, vI a1, vI a2] S).bind (fun q => rn xX8_flood (34, [l0, l1, l2, l3, l4], q.1.toList ++ [], q.2)) := q_callV (n := 3) (as := [vI a0, vI a1, vI a2]) (rest := []) dX8_flood_31 rfl rfl rfl rfl h
theorem eX8_flood_34 {z : Int} {l0 l1 l2 l3 l4 : Option VV} {S : MM} : rn xX8_flood (34, [l0, l1, l2, l3, l4], [vI z], S) = some (some (vI z), S) := q_retI dX8_flood_34 rfl
noncomputable def qlX8_dry : List CE := [(0, 85, 6, 1, fX6_errorOfDrying), (0, 65, 8, 1, fX8_remember), (0, 89, 6, 1, fX6_giveBack)]
noncomputable def xX8_dry : XX := (cX8_dry, fcF fcl8, mcF qlX8_dry, 1)
noncomputable def fX8_dry : FN := fnX xX8_dry 2
set_option maxRecDepth 100000 in
theorem cwX8_dry : Cond.code yX8_dry cX8_dry 2 (some .int) ∈ lw_g := lw_gm 540 (by decide +kernel) (by decide +kernel)
set_option maxRecDepth 100000 in
theorem conX8_dry : Con yX8_dry cX8_dry 2 (some .int) { frames := 7, cells := 0, slots := 0, locals := 157 } fX8_dry := con_of (X := xX8_dry) (own := "LeapStones") (ql := qlX8_dry) (by decide) rfl FOK8 rfl (List.forall_mem_cons.mpr ⟨call_V conX6_errorOfDrying cwX6_errorOfDrying (lw_gl _ [541, 542, 543, 22] (by decide +kernel) (by decide +kernel)) (by decide) rfl ⟨by decide, by decide, by decide +kernel⟩ ⟨rfl, rfl⟩ ⟨by decide, by decide⟩ ⟨Nat.le_refl _, Nat.le_refl _⟩, List.forall_mem_cons.mpr ⟨call_V conX8_remember cwX8_remember (lw_gl _ [256, 258, 0, 21] (by decide +kernel) (by decide +kernel)) (by decide) rfl ⟨by decide, by decide, by decide +kernel⟩ ⟨rfl, rfl⟩ ⟨by decide, by decide⟩ ⟨Nat.le_refl _, Nat.le_refl _⟩, List.forall_mem_cons.mpr ⟨call_V conX6_giveBack cwX6_giveBack (lw_gl _ [558, 559, 560, 22] (by decide +kernel) (by decide +kernel)) (by decide) rfl ⟨by decide, by decide, by decide +kernel⟩ ⟨rfl, rfl⟩ ⟨by decide, by decide⟩ ⟨Nat.le_refl _, Nat.le_refl _⟩, fun _ h => absurd h List.not_mem_nil⟩⟩⟩) (Or.inr (Or.inl ⟨rfl, rfl⟩))
theorem uX8_dry {i : Nat} {S : MM} : fX8_dry [vR i] S = rn xX8_dry (0, [some (vR i), none], [], S) := rfl
theorem dX8_dry_0 : decode cX8_dry 0 = .ok (.aload_n 0, 1) := by decide +kernel
theorem dX8_dry_1 : decode cX8_dry 1 = .ok (.getfield 12, 3) := by decide +kernel
theorem dX8_dry_4 : decode cX8_dry 4 = .ok (.invokevirtual 85, 3) := by decide +kernel
theorem dX8_dry_7 : decode cX8_dry 7 = .ok (.istore_n 1, 1) := by decide +kernel
theorem dX8_dry_8 : decode cX8_dry 8 = .ok (.iload_n 1, 1) := by decide +kernel
theorem dX8_dry_9 : decode cX8_dry 9 = .ok (.ifCond .ge 5, 3) := by decide +kernel
theorem dX8_dry_12 : decode cX8_dry 12 = .ok (.iload_n 1, 1) := by decide +kernel
theorem dX8_dry_13 : decode cX8_dry 13 = .ok (.ireturn, 1) := by decide +kernel
theorem dX8_dry_14 : decode cX8_dry 14 = .ok (.aload_n 0, 1) := by decide +kernel
theorem dX8_dry_15 : decode cX8_dry 15 = .ok (.invokevirtual 65, 3) := by decide +kernel
theorem dX8_dry_18 : decode cX8_dry 18 = .ok (.aload_n 0, 1) := by decide +kernel
theorem dX8_dry_19 : decode cX8_dry 19 = .ok (.getfield 12, 3) := by decide +kernel
theorem dX8_dry_22 : decode cX8_dry 22 = .ok (.invokevirtual 89, 3) := by decide +kernel
theorem dX8_dry_25 : decode cX8_dry 25 = .ok (.ireturn, 1) := by decide +kernel
theorem eX8_dry_0 {a : Option Nat} {l1 : Option VV} {S : MM} : rn xX8_dry (0, [some (.inr (.inl a)), l1], [], S) = rn xX8_dry (1, [some (.inr (.inl a)), l1], [.inr (.inl a)], S) := rn_step dX8_dry_0 rfl rfl
theorem eX8_dry_1 {l0 l1 : Option VV} {S : MM} : rn xX8_dry (1, [l0, l1], [vR 0], S) = rn xX8_dry (4, [l0, l1], [vR 1], S) := q_getR dX8_dry_1 rfl ⟨⟨by decide, by decide⟩, by decide⟩ (fun _ => by decide +kernel) kd0
theorem eX8_dry_4 {i : Nat} {l0 l1 : Option VV} (h : kd i = 6) {S : MM} : rn xX8_dry (4, [l0, l1], [vR i], S) = (fX6_errorOfDrying [vR i] S).bind (fun q => rn xX8_dry (7, [l0, l1], q.1.toList ++ [], q.2)) := q_callV (n := 0) (as := []) (rest := []) dX8_dry_4 rfl rfl rfl rfl h
theorem eX8_dry_7 {a : Int} {w : Option Nat} {l1 : Option VV} {S : MM} : rn xX8_dry (7, [some (.inr (.inl w)), l1], [vI a], S) = rn xX8_dry (8, [some (.inr (.inl w)), some (vI a)], [], S) := rn_step dX8_dry_7 rfl rfl
theorem eX8_dry_8 {a : Int} {l0 : Option VV} {S : MM} : rn xX8_dry (8, [l0, some (vI a)], [], S) = rn xX8_dry (9, [l0, some (vI a)], [vI a], S) := rn_step dX8_dry_8 rfl rfl
theorem eX8_dry_9 {a : Int} {l0 l1 : Option VV} (h : -2147483648 ≤ a ∧ a ≤ 2147483647) {S : MM} : rn xX8_dry (9, [l0, l1], [vI a], S) = if a < 0 then rn xX8_dry (12, [l0, l1], [], S) else rn xX8_dry (14, [l0, l1], [], S) := q_if_ge dX8_dry_9 (by decide) rfl h
theorem eX8_dry_12 {a : Int} {l0 : Option VV} {S : MM} : rn xX8_dry (12, [l0, some (vI a)], [], S) = rn xX8_dry (13, [l0, some (vI a)], [vI a], S) := rn_step dX8_dry_12 rfl rfl
theorem eX8_dry_13 {z : Int} {l0 l1 : Option VV} {S : MM} : rn xX8_dry (13, [l0, l1], [vI z], S) = some (some (vI z), S) := q_retI dX8_dry_13 rfl
theorem eX8_dry_14 {a : Option Nat} {l1 : Option VV} {S : MM} : rn xX8_dry (14, [some (.inr (.inl a)), l1], [], S) = rn xX8_dry (15, [some (.inr (.inl a)), l1], [.inr (.inl a)], S) := rn_step dX8_dry_14 rfl rfl
theorem eX8_dry_15 {l0 l1 : Option VV} {S : MM} : rn xX8_dry (15, [l0, l1], [vR 0], S) = (fX8_remember [vR 0] S).bind (fun q => rn xX8_dry (18, [l0, l1], q.1.toList ++ [], q.2)) := q_callV (n := 0) (as := []) (rest := []) dX8_dry_15 rfl rfl rfl rfl kd0
theorem eX8_dry_18 {a : Option Nat} {l1 : Option VV} {S : MM} : rn xX8_dry (18, [some (.inr (.inl a)), l1], [], S) = rn xX8_dry (19, [some (.inr (.inl a)), l1], [.inr (.inl a)], S) := rn_step dX8_dry_18 rfl rfl
theorem eX8_dry_19 {l0 l1 : Option VV} {S : MM} : rn xX8_dry (19, [l0, l1], [vR 0], S) = rn xX8_dry (22, [l0, l1], [vR 1], S) := q_getR dX8_dry_19 rfl ⟨⟨by decide, by decide⟩, by decide⟩ (fun _ => by decide +kernel) kd0
theorem eX8_dry_22 {i : Nat} {l0 l1 : Option VV} (h : kd i = 6) {S : MM} : rn xX8_dry (22, [l0, l1], [vR i], S) = (fX6_giveBack [vR i] S).bind (fun q => rn xX8_dry (25, [l0, l1], q.1.toList ++ [], q.2)) := q_callV (n := 0) (as := []) (rest := []) dX8_dry_22 rfl rfl rfl rfl h
theorem eX8_dry_25 {z : Int} {l0 l1 : Option VV} {S : MM} : rn xX8_dry (25, [l0, l1], [vI z], S) = some (some (vI z), S) := q_retI dX8_dry_25 rfl
noncomputable def qlX8_begin : List CE := [(0, 65, 8, 1, fX8_remember), (0, 92, 6, 1, fX6_start)]
noncomputable def xX8_begin : XX := (cX8_begin, fcF fcl8, mcF qlX8_begin, 1)
noncomputable def fX8_begin : FN := fnX xX8_begin 1
set_option maxRecDepth 100000 in
theorem cwX8_begin : Cond.code yX8_begin cX8_begin 1 (some .int) ∈ lw_g := lw_gm 579 (by decide +kernel) (by decide +kernel)
set_option maxRecDepth 100000 in
theorem conX8_begin : Con yX8_begin cX8_begin 1 (some .int) { frames := 7, cells := 0, slots := 0, locals := 157 } fX8_begin := con_of (X := xX8_begin) (own := "LeapStones") (ql := qlX8_begin) (by decide) rfl FOK8 rfl (List.forall_mem_cons.mpr ⟨call_V conX8_remember cwX8_remember (lw_gl _ [256, 258, 0, 21] (by decide +kernel) (by decide +kernel)) (by decide) rfl ⟨by decide, by decide, by decide +kernel⟩ ⟨rfl, rfl⟩ ⟨by decide, by decide⟩ ⟨Nat.le_refl _, Nat.le_refl _⟩, List.forall_mem_cons.mpr ⟨call_V conX6_start cwX6_start (lw_gl _ [580, 581, 582, 22] (by decide +kernel) (by decide +kernel)) (by decide) rfl ⟨by decide, by decide, by decide +kernel⟩ ⟨rfl, rfl⟩ ⟨by decide, by decide⟩ ⟨Nat.le_refl _, Nat.le_refl _⟩, fun _ h => absurd h List.not_mem_nil⟩⟩) (Or.inr (Or.inl ⟨rfl, rfl⟩))
theorem uX8_begin {i : Nat} {S : MM} : fX8_begin [vR i] S = rn xX8_begin (0, [some (vR i)], [], S) := rfl
theorem dX8_begin_0 : decode cX8_begin 0 = .ok (.aload_n 0, 1) := by decide +kernel
theorem dX8_begin_1 : decode cX8_begin 1 = .ok (.invokevirtual 65, 3) := by decide +kernel
theorem dX8_begin_4 : decode cX8_begin 4 = .ok (.aload_n 0, 1) := by decide +kernel
theorem dX8_begin_5 : decode cX8_begin 5 = .ok (.getfield 12, 3) := by decide +kernel
theorem dX8_begin_8 : decode cX8_begin 8 = .ok (.invokevirtual 92, 3) := by decide +kernel
theorem dX8_begin_11 : decode cX8_begin 11 = .ok (.ireturn, 1) := by decide +kernel
theorem eX8_begin_0 {a : Option Nat} {S : MM} : rn xX8_begin (0, [some (.inr (.inl a))], [], S) = rn xX8_begin (1, [some (.inr (.inl a))], [.inr (.inl a)], S) := rn_step dX8_begin_0 rfl rfl
theorem eX8_begin_1 {l0 : Option VV} {S : MM} : rn xX8_begin (1, [l0], [vR 0], S) = (fX8_remember [vR 0] S).bind (fun q => rn xX8_begin (4, [l0], q.1.toList ++ [], q.2)) := q_callV (n := 0) (as := []) (rest := []) dX8_begin_1 rfl rfl rfl rfl kd0
theorem eX8_begin_4 {a : Option Nat} {S : MM} : rn xX8_begin (4, [some (.inr (.inl a))], [], S) = rn xX8_begin (5, [some (.inr (.inl a))], [.inr (.inl a)], S) := rn_step dX8_begin_4 rfl rfl
theorem eX8_begin_5 {l0 : Option VV} {S : MM} : rn xX8_begin (5, [l0], [vR 0], S) = rn xX8_begin (8, [l0], [vR 1], S) := q_getR dX8_begin_5 rfl ⟨⟨by decide, by decide⟩, by decide⟩ (fun _ => by decide +kernel) kd0
theorem eX8_begin_8 {i : Nat} {l0 : Option VV} (h : kd i = 6) {S : MM} : rn xX8_begin (8, [l0], [vR i], S) = (fX6_start [vR i] S).bind (fun q => rn xX8_begin (11, [l0], q.1.toList ++ [], q.2)) := q_callV (n := 0) (as := []) (rest := []) dX8_begin_8 rfl rfl rfl rfl h
theorem eX8_begin_11 {z : Int} {l0 : Option VV} {S : MM} : rn xX8_begin (11, [l0], [vI z], S) = some (some (vI z), S) := q_retI dX8_begin_11 rfl
noncomputable def qlX8_leap : List CE := [(0, 98, 0, 1, fX0_goesOn), (0, 65, 8, 1, fX8_remember), (0, 102, 6, 1, fX6_step)]
noncomputable def xX8_leap : XX := (cX8_leap, fcF fcl8, mcF qlX8_leap, 1)
noncomputable def fX8_leap : FN := fnX xX8_leap 1
set_option maxRecDepth 100000 in
theorem cwX8_leap : Cond.code yX8_leap cX8_leap 1 (some .int) ∈ lw_g := lw_gm 605 (by decide +kernel) (by decide +kernel)
set_option maxRecDepth 100000 in
theorem conX8_leap : Con yX8_leap cX8_leap 1 (some .int) { frames := 7, cells := 0, slots := 0, locals := 157 } fX8_leap := con_of (X := xX8_leap) (own := "LeapStones") (ql := qlX8_leap) (by decide) rfl FOK8 rfl (List.forall_mem_cons.mpr ⟨call_V conX0_goesOn cwX0_goesOn (lw_gl _ [606, 478, 479, 28] (by decide +kernel) (by decide +kernel)) (by decide) rfl ⟨by decide, by decide, by decide +kernel⟩ ⟨rfl, rfl⟩ ⟨by decide, by decide⟩ ⟨Nat.le_refl _, Nat.le_refl _⟩, List.forall_mem_cons.mpr ⟨call_V conX8_remember cwX8_remember (lw_gl _ [256, 258, 0, 21] (by decide +kernel) (by decide +kernel)) (by decide) rfl ⟨by decide, by decide, by decide +kernel⟩ ⟨rfl, rfl⟩ ⟨by decide, by decide⟩ ⟨Nat.le_refl _, Nat.le_refl _⟩, List.forall_mem_cons.mpr ⟨call_V conX6_step cwX6_step (lw_gl _ [607, 608, 609, 22] (by decide +kernel) (by decide +kernel)) (by decide) rfl ⟨by decide, by decide, by decide +kernel⟩ ⟨rfl, rfl⟩ ⟨by decide, by decide⟩ ⟨Nat.le_refl _, Nat.le_refl _⟩, fun _ h => absurd h List.not_mem_nil⟩⟩⟩) (Or.inr (Or.inl ⟨rfl, rfl⟩))
theorem uX8_leap {i : Nat} {S : MM} : fX8_leap [vR i] S = rn xX8_leap (0, [some (vR i)], [], S) := rfl
theorem dX8_leap_0 : decode cX8_leap 0 = .ok (.aload_n 0, 1) := by decide +kernel
theorem dX8_leap_1 : decode cX8_leap 1 = .ok (.getfield 12, 3) := by decide +kernel
theorem dX8_leap_4 : decode cX8_leap 4 = .ok (.getfield 95, 3) := by decide +kernel
theorem dX8_leap_7 : decode cX8_leap 7 = .ok (.invokevirtual 98, 3) := by decide +kernel
theorem dX8_leap_10 : decode cX8_leap 10 = .ok (.ifCond .ne 6, 3) := by decide +kernel
theorem dX8_leap_13 : decode cX8_leap 13 = .ok (.bipush (-5), 2) := by decide +kernel
theorem dX8_leap_15 : decode cX8_leap 15 = .ok (.ireturn, 1) := by decide +kernel
theorem dX8_leap_16 : decode cX8_leap 16 = .ok (.aload_n 0, 1) := by decide +kernel
theorem dX8_leap_17 : decode cX8_leap 17 = .ok (.invokevirtual 65, 3) := by decide +kernel
theorem dX8_leap_20 : decode cX8_leap 20 = .ok (.aload_n 0, 1) := by decide +kernel
theorem dX8_leap_21 : decode cX8_leap 21 = .ok (.getfield 12, 3) := by decide +kernel
theorem dX8_leap_24 : decode cX8_leap 24 = .ok (.invokevirtual 102, 3) := by decide +kernel
theorem dX8_leap_27 : decode cX8_leap 27 = .ok (.ireturn, 1) := by decide +kernel
theorem eX8_leap_0 {a : Option Nat} {S : MM} : rn xX8_leap (0, [some (.inr (.inl a))], [], S) = rn xX8_leap (1, [some (.inr (.inl a))], [.inr (.inl a)], S) := rn_step dX8_leap_0 rfl rfl
theorem eX8_leap_1 {l0 : Option VV} {S : MM} : rn xX8_leap (1, [l0], [vR 0], S) = rn xX8_leap (4, [l0], [vR 1], S) := q_getR dX8_leap_1 rfl ⟨⟨by decide, by decide⟩, by decide⟩ (fun _ => by decide +kernel) kd0
theorem eX8_leap_4 {i : Nat} {l0 : Option VV} (h : kd i = 6) {S : MM} : rn xX8_leap (4, [l0], [vR i], S) = rn xX8_leap (7, [l0], [vR (i + 56)], S) := q_getR dX8_leap_4 rfl ⟨⟨by decide, by decide⟩, by decide⟩ (fun h => (fref6 h).trans (by first | rfl | omega)) h
theorem eX8_leap_7 {i : Nat} {l0 : Option VV} (h : kd i = 0) {S : MM} : rn xX8_leap (7, [l0], [vR i], S) = (fX0_goesOn [vR i] S).bind (fun q => rn xX8_leap (10, [l0], q.1.toList ++ [], q.2)) := q_callV (n := 0) (as := []) (rest := []) dX8_leap_7 rfl rfl rfl rfl h
theorem eX8_leap_10 {a : Int} {l0 : Option VV} (h : -2147483648 ≤ a ∧ a ≤ 2147483647) {S : MM} : rn xX8_leap (10, [l0], [vI a], S) = if a = 0 then rn xX8_leap (13, [l0], [], S) else rn xX8_leap (16, [l0], [], S) := q_if_ne dX8_leap_10 (by decide) rfl h
theorem eX8_leap_13 {l0 : Option VV} {S : MM} : rn xX8_leap (13, [l0], [], S) = rn xX8_leap (15, [l0], [vI (-5)], S) := rn_step dX8_leap_13 rfl rfl
theorem eX8_leap_15 {z : Int} {l0 : Option VV} {S : MM} : rn xX8_leap (15, [l0], [vI z], S) = some (some (vI z), S) := q_retI dX8_leap_15 rfl
theorem eX8_leap_16 {a : Option Nat} {S : MM} : rn xX8_leap (16, [some (.inr (.inl a))], [], S) = rn xX8_leap (17, [some (.inr (.inl a))], [.inr (.inl a)], S) := rn_step dX8_leap_16 rfl rfl
theorem eX8_leap_17 {l0 : Option VV} {S : MM} : rn xX8_leap (17, [l0], [vR 0], S) = (fX8_remember [vR 0] S).bind (fun q => rn xX8_leap (20, [l0], q.1.toList ++ [], q.2)) := q_callV (n := 0) (as := []) (rest := []) dX8_leap_17 rfl rfl rfl rfl kd0
theorem eX8_leap_20 {a : Option Nat} {S : MM} : rn xX8_leap (20, [some (.inr (.inl a))], [], S) = rn xX8_leap (21, [some (.inr (.inl a))], [.inr (.inl a)], S) := rn_step dX8_leap_20 rfl rfl
theorem eX8_leap_21 {l0 : Option VV} {S : MM} : rn xX8_leap (21, [l0], [vR 0], S) = rn xX8_leap (24, [l0], [vR 1], S) := q_getR dX8_leap_21 rfl ⟨⟨by decide, by decide⟩, by decide⟩ (fun _ => by decide +kernel) kd0
theorem eX8_leap_24 {i : Nat} {l0 : Option VV} (h : kd i = 6) {S : MM} : rn xX8_leap (24, [l0], [vR i], S) = (fX6_step [vR i] S).bind (fun q => rn xX8_leap (27, [l0], q.1.toList ++ [], q.2)) := q_callV (n := 0) (as := []) (rest := []) dX8_leap_24 rfl rfl rfl rfl h
theorem eX8_leap_27 {z : Int} {l0 : Option VV} {S : MM} : rn xX8_leap (27, [l0], [vI z], S) = some (some (vI z), S) := q_retI dX8_leap_27 rfl
noncomputable def qlX8_run : List CE := [(0, 98, 0, 1, fX0_goesOn), (0, 65, 8, 1, fX8_remember), (0, 112, 0, 3, fX0_finish)]
noncomputable def xX8_run : XX := (cX8_run, fcF fcl8, mcF qlX8_run, 1)
noncomputable def fX8_run : FN := fnX xX8_run 1
set_option maxRecDepth 100000 in
theorem cwX8_run : Cond.code yX8_run cX8_run 1 (some .int) ∈ lw_g := lw_gm 644 (by decide +kernel) (by decide +kernel)
set_option maxRecDepth 100000 in
theorem conX8_run : Con yX8_run cX8_run 1 (some .int) { frames := 7, cells := 0, slots := 0, locals := 157 } fX8_run := con_of (X := xX8_run) (own := "LeapStones") (ql := qlX8_run) (by decide) rfl FOK8 rfl (List.forall_mem_cons.mpr ⟨call_V conX0_goesOn cwX0_goesOn (lw_gl _ [606, 478, 479, 28] (by decide +kernel) (by decide +kernel)) (by decide) rfl ⟨by decide, by decide, by decide +kernel⟩ ⟨rfl, rfl⟩ ⟨by decide, by decide⟩ ⟨Nat.le_refl _, Nat.le_refl _⟩, List.forall_mem_cons.mpr ⟨call_V conX8_remember cwX8_remember (lw_gl _ [256, 258, 0, 21] (by decide +kernel) (by decide +kernel)) (by decide) rfl ⟨by decide, by decide, by decide +kernel⟩ ⟨rfl, rfl⟩ ⟨by decide, by decide⟩ ⟨Nat.le_refl _, Nat.le_refl _⟩, List.forall_mem_cons.mpr ⟨call_V conX0_finish cwX0_finish (lw_gl _ [645, 646, 647, 28] (by decide +kernel) (by decide +kernel)) (by decide) rfl ⟨by decide, by decide, by decide +kernel⟩ ⟨rfl, rfl⟩ ⟨by decide, by decide⟩ ⟨Nat.le_refl _, Nat.le_refl _⟩, fun _ h => absurd h List.not_mem_nil⟩⟩⟩) (Or.inr (Or.inl ⟨rfl, rfl⟩))
theorem uX8_run {i : Nat} {S : MM} : fX8_run [vR i] S = rn xX8_run (0, [some (vR i)], [], S) := rfl
theorem dX8_run_0 : decode cX8_run 0 = .ok (.aload_n 0, 1) := by decide +kernel
theorem dX8_run_1 : decode cX8_run 1 = .ok (.getfield 12, 3) := by decide +kernel
theorem dX8_run_4 : decode cX8_run 4 = .ok (.getfield 95, 3) := by decide +kernel
theorem dX8_run_7 : decode cX8_run 7 = .ok (.invokevirtual 98, 3) := by decide +kernel
theorem dX8_run_10 : decode cX8_run 10 = .ok (.ifCond .ne 6, 3) := by decide +kernel
theorem dX8_run_13 : decode cX8_run 13 = .ok (.bipush (-5), 2) := by decide +kernel
theorem dX8_run_15 : decode cX8_run 15 = .ok (.ireturn, 1) := by decide +kernel
theorem dX8_run_16 : decode cX8_run 16 = .ok (.aload_n 0, 1) := by decide +kernel
theorem dX8_run_17 : decode cX8_run 17 = .ok (.invokevirtual 65, 3) := by decide +kernel
theorem dX8_run_20 : decode cX8_run 20 = .ok (.aload_n 0, 1) := by decide +kernel
theorem dX8_run_21 : decode cX8_run 21 = .ok (.getfield 12, 3) := by decide +kernel
theorem dX8_run_24 : decode cX8_run 24 = .ok (.getfield 95, 3) := by decide +kernel
theorem dX8_run_27 : decode cX8_run 27 = .ok (.aload_n 0, 1) := by decide +kernel
theorem dX8_run_28 : decode cX8_run 28 = .ok (.getfield 12, 3) := by decide +kernel
theorem dX8_run_31 : decode cX8_run 31 = .ok (.getfield 105, 3) := by decide +kernel
theorem dX8_run_34 : decode cX8_run 34 = .ok (.aload_n 0, 1) := by decide +kernel
theorem dX8_run_35 : decode cX8_run 35 = .ok (.getfield 12, 3) := by decide +kernel
theorem dX8_run_38 : decode cX8_run 38 = .ok (.getfield 109, 3) := by decide +kernel
theorem dX8_run_41 : decode cX8_run 41 = .ok (.invokevirtual 112, 3) := by decide +kernel
theorem dX8_run_44 : decode cX8_run 44 = .ok (.ireturn, 1) := by decide +kernel
theorem eX8_run_0 {a : Option Nat} {S : MM} : rn xX8_run (0, [some (.inr (.inl a))], [], S) = rn xX8_run (1, [some (.inr (.inl a))], [.inr (.inl a)], S) := rn_step dX8_run_0 rfl rfl
theorem eX8_run_1 {l0 : Option VV} {S : MM} : rn xX8_run (1, [l0], [vR 0], S) = rn xX8_run (4, [l0], [vR 1], S) := q_getR dX8_run_1 rfl ⟨⟨by decide, by decide⟩, by decide⟩ (fun _ => by decide +kernel) kd0
theorem eX8_run_4 {i : Nat} {l0 : Option VV} (h : kd i = 6) {S : MM} : rn xX8_run (4, [l0], [vR i], S) = rn xX8_run (7, [l0], [vR (i + 56)], S) := q_getR dX8_run_4 rfl ⟨⟨by decide, by decide⟩, by decide⟩ (fun h => (fref6 h).trans (by first | rfl | omega)) h
theorem eX8_run_7 {i : Nat} {l0 : Option VV} (h : kd i = 0) {S : MM} : rn xX8_run (7, [l0], [vR i], S) = (fX0_goesOn [vR i] S).bind (fun q => rn xX8_run (10, [l0], q.1.toList ++ [], q.2)) := q_callV (n := 0) (as := []) (rest := []) dX8_run_7 rfl rfl rfl rfl h
theorem eX8_run_10 {a : Int} {l0 : Option VV} (h : -2147483648 ≤ a ∧ a ≤ 2147483647) {S : MM} : rn xX8_run (10, [l0], [vI a], S) = if a = 0 then rn xX8_run (13, [l0], [], S) else rn xX8_run (16, [l0], [], S) := q_if_ne dX8_run_10 (by decide) rfl h
theorem eX8_run_13 {l0 : Option VV} {S : MM} : rn xX8_run (13, [l0], [], S) = rn xX8_run (15, [l0], [vI (-5)], S) := rn_step dX8_run_13 rfl rfl
theorem eX8_run_15 {z : Int} {l0 : Option VV} {S : MM} : rn xX8_run (15, [l0], [vI z], S) = some (some (vI z), S) := q_retI dX8_run_15 rfl
theorem eX8_run_16 {a : Option Nat} {S : MM} : rn xX8_run (16, [some (.inr (.inl a))], [], S) = rn xX8_run (17, [some (.inr (.inl a))], [.inr (.inl a)], S) := rn_step dX8_run_16 rfl rfl
theorem eX8_run_17 {l0 : Option VV} {S : MM} : rn xX8_run (17, [l0], [vR 0], S) = (fX8_remember [vR 0] S).bind (fun q => rn xX8_run (20, [l0], q.1.toList ++ [], q.2)) := q_callV (n := 0) (as := []) (rest := []) dX8_run_17 rfl rfl rfl rfl kd0
theorem eX8_run_20 {a : Option Nat} {S : MM} : rn xX8_run (20, [some (.inr (.inl a))], [], S) = rn xX8_run (21, [some (.inr (.inl a))], [.inr (.inl a)], S) := rn_step dX8_run_20 rfl rfl
theorem eX8_run_21 {l0 : Option VV} {S : MM} : rn xX8_run (21, [l0], [vR 0], S) = rn xX8_run (24, [l0], [vR 1], S) := q_getR dX8_run_21 rfl ⟨⟨by decide, by decide⟩, by decide⟩ (fun _ => by decide +kernel) kd0
theorem eX8_run_24 {i : Nat} {l0 : Option VV} (h : kd i = 6) {S : MM} : rn xX8_run (24, [l0], [vR i], S) = rn xX8_run (27, [l0], [vR (i + 56)], S) := q_getR dX8_run_24 rfl ⟨⟨by decide, by decide⟩, by decide⟩ (fun h => (fref6 h).trans (by first | rfl | omega)) h
theorem eX8_run_27 {a : Option Nat} {v0 : VV} {S : MM} : rn xX8_run (27, [some (.inr (.inl a))], [v0], S) = rn xX8_run (28, [some (.inr (.inl a))], [.inr (.inl a), v0], S) := rn_step dX8_run_27 rfl rfl
theorem eX8_run_28 {l0 : Option VV} {v1 : VV} {S : MM} : rn xX8_run (28, [l0], [vR 0, v1], S) = rn xX8_run (31, [l0], [vR 1, v1], S) := q_getR dX8_run_28 rfl ⟨⟨by decide, by decide⟩, by decide⟩ (fun _ => by decide +kernel) kd0
theorem eX8_run_31 {i : Nat} {l0 : Option VV} {v1 : VV} (h : kd i = 6) {S : MM} : rn xX8_run (31, [l0], [vR i, v1], S) = rn xX8_run (34, [l0], [vR (i + 3), v1], S) := q_getR dX8_run_31 rfl ⟨⟨by decide, by decide⟩, by decide⟩ (fun h => (fref6 h).trans (by first | rfl | omega)) h
theorem eX8_run_34 {a : Option Nat} {v0 v1 : VV} {S : MM} : rn xX8_run (34, [some (.inr (.inl a))], [v0, v1], S) = rn xX8_run (35, [some (.inr (.inl a))], [.inr (.inl a), v0, v1], S) := rn_step dX8_run_34 rfl rfl
theorem eX8_run_35 {l0 : Option VV} {v1 v2 : VV} {S : MM} : rn xX8_run (35, [l0], [vR 0, v1, v2], S) = rn xX8_run (38, [l0], [vR 1, v1, v2], S) := q_getR dX8_run_35 rfl ⟨⟨by decide, by decide⟩, by decide⟩ (fun _ => by decide +kernel) kd0
theorem eX8_run_38 {i : Nat} {l0 : Option VV} {v1 v2 : VV} (h : kd i = 6) {S : MM} : rn xX8_run (38, [l0], [vR i, v1, v2], S) = rn xX8_run (41, [l0], [vR (i + 1), v1, v2], S) := q_getR dX8_run_38 rfl ⟨⟨by decide, by decide⟩, by decide⟩ (fun h => (fref6 h).trans (by first | rfl | omega)) h
theorem eX8_run_41 {a0 : Option Nat} {a1 : Option Nat} {i : Nat} {l0 : Option VV} (h : kd i = 0) {S : MM} : rn xX8_run (41, [l0], [.inr (.inl a1), .inr (.inl a0), vR i], S) = (fX0_finish [vR i, .inr (.inl a0), .inr (.inl a1)] S).bind (fun q => rn xX8_run (44, [l0], q.1.toList ++ [], q.2)) := q_callV (n := 2) (as := [.inr (.inl a0), .inr (.inl a1)]) (rest := []) dX8_run_41 rfl rfl rfl rfl h
theorem eX8_run_44 {z : Int} {l0 : Option VV} {S : MM} : rn xX8_run (44, [l0], [vI z], S) = some (some (vI z), S) := q_retI dX8_run_44 rfl
noncomputable def qlX8_ofWalker : List CE := [(1, 116, 0, 1, fX8_isWalker), (1, 57, 0, 3, fX8_isBetween), (0, 120, 5, 2, fX5_pathOf), (0, 126, 3, 1, fX3_size), (0, 131, 0, 1, fX0_isBegun), (0, 134, 0, 2, fX0_keyUnder), (0, 137, 3, 2, fX3_placeFrom), (0, 140, 0, 3, fX0_figureOfWalker)]
noncomputable def xX8_ofWalker : XX := (cX8_ofWalker, fcF fcl8, mcF qlX8_ofWalker, 1)
noncomputable def fX8_ofWalker : FN := fnX xX8_ofWalker 3
set_option maxRecDepth 100000 in
theorem cwX8_ofWalker : Cond.code yX8_ofWalker cX8_ofWalker 3 (some .int) ∈ lw_g := lw_gm 395 (by decide +kernel) (by decide +kernel)
set_option maxRecDepth 100000 in
theorem conX8_ofWalker : Con yX8_ofWalker cX8_ofWalker 3 (some .int) { frames := 3, cells := 0, slots := 0, locals := 64 } fX8_ofWalker := con_of (X := xX8_ofWalker) (own := "LeapStones") (ql := qlX8_ofWalker) (by decide) rfl FOK8 rfl (List.forall_mem_cons.mpr ⟨call_S conX8_isWalker cwX8_isWalker (lw_gl _ [396, 343, 21] (by decide +kernel) (by decide +kernel)) ⟨by decide, by decide, by decide +kernel⟩ ⟨rfl, rfl⟩ ⟨by decide, by decide⟩ ⟨Nat.le_refl _, Nat.le_refl _⟩, List.forall_mem_cons.mpr ⟨call_S conX8_isBetween cwX8_isBetween (lw_gl _ [250, 251, 21] (by decide +kernel) (by decide +kernel)) ⟨by decide, by decide, by decide +kernel⟩ ⟨rfl, rfl⟩ ⟨by decide, by decide⟩ ⟨Nat.le_refl _, Nat.le_refl _⟩, List.forall_mem_cons.mpr ⟨call_V conX5_pathOf cwX5_pathOf (lw_gl _ [397, 347, 348, 24] (by decide +kernel) (by decide +kernel)) (by decide) rfl ⟨by decide, by decide, by decide +kernel⟩ ⟨rfl, rfl⟩ ⟨by decide, by decide⟩ ⟨Nat.le_refl _, Nat.le_refl _⟩, List.forall_mem_cons.mpr ⟨call_V conX3_size cwX3_size (lw_gl _ [398, 399, 400, 25] (by decide +kernel) (by decide +kernel)) (by decide) rfl ⟨by decide, by decide, by decide +kernel⟩ ⟨rfl, rfl⟩ ⟨by decide, by decide⟩ ⟨Nat.le_refl _, Nat.le_refl _⟩, List.forall_mem_cons.mpr ⟨call_V conX0_isBegun cwX0_isBegun (lw_gl _ [402, 403, 404, 28] (by decide +kernel) (by decide +kernel)) (by decide) rfl ⟨by decide, by decide, by decide +kernel⟩ ⟨rfl, rfl⟩ ⟨by decide, by decide⟩ ⟨Nat.le_refl _, Nat.le_refl _⟩, List.forall_mem_cons.mpr ⟨call_V conX0_keyUnder cwX0_keyUnder (lw_gl _ [406, 407, 408, 28] (by decide +kernel) (by decide +kernel)) (by decide) rfl ⟨by decide, by decide, by decide +kernel⟩ ⟨rfl, rfl⟩ ⟨by decide, by decide⟩ ⟨Nat.le_refl _, Nat.le_refl _⟩, List.forall_mem_cons.mpr ⟨call_V conX3_placeFrom cwX3_placeFrom (lw_gl _ [411, 368, 369, 25] (by decide +kernel) (by decide +kernel)) (by decide) rfl ⟨by decide, by decide, by decide +kernel⟩ ⟨rfl, rfl⟩ ⟨by decide, by decide⟩ ⟨Nat.le_refl _, Nat.le_refl _⟩, List.forall_mem_cons.mpr ⟨call_V conX0_figureOfWalker cwX0_figureOfWalker (lw_gl _ [412, 413, 414, 28] (by decide +kernel) (by decide +kernel)) (by decide) rfl ⟨by decide, by decide, by decide +kernel⟩ ⟨rfl, rfl⟩ ⟨by decide, by decide⟩ ⟨Nat.le_refl _, Nat.le_refl _⟩, fun _ h => absurd h List.not_mem_nil⟩⟩⟩⟩⟩⟩⟩⟩) (Or.inr (Or.inl ⟨rfl, rfl⟩))
theorem uX8_ofWalker {i : Nat} {a0 : Int} {a1 : Int} {S : MM} : fX8_ofWalker [vR i, vI a0, vI a1] S = rn xX8_ofWalker (0, [some (vR i), some (vI a0), some (vI a1)], [], S) := rfl
theorem dX8_ofWalker_0 : decode cX8_ofWalker 0 = .ok (.iload_n 1, 1) := by decide +kernel
theorem dX8_ofWalker_1 : decode cX8_ofWalker 1 = .ok (.invokestatic 116, 3) := by decide +kernel
theorem dX8_ofWalker_4 : decode cX8_ofWalker 4 = .ok (.ifCond .ne 5, 3) := by decide +kernel
theorem dX8_ofWalker_7 : decode cX8_ofWalker 7 = .ok (.iconst (-1), 1) := by decide +kernel
theorem dX8_ofWalker_8 : decode cX8_ofWalker 8 = .ok (.ireturn, 1) := by decide +kernel
theorem dX8_ofWalker_9 : decode cX8_ofWalker 9 = .ok (.iload_n 2, 1) := by decide +kernel
theorem dX8_ofWalker_10 : decode cX8_ofWalker 10 = .ok (.iconst 0, 1) := by decide +kernel
theorem dX8_ofWalker_11 : decode cX8_ofWalker 11 = .ok (.bipush 6, 2) := by decide +kernel
theorem dX8_ofWalker_13 : decode cX8_ofWalker 13 = .ok (.invokestatic 57, 3) := by decide +kernel
theorem dX8_ofWalker_16 : decode cX8_ofWalker 16 = .ok (.ifCond .ne 6, 3) := by decide +kernel
theorem dX8_ofWalker_19 : decode cX8_ofWalker 19 = .ok (.bipush (-2), 2) := by decide +kernel
theorem dX8_ofWalker_21 : decode cX8_ofWalker 21 = .ok (.ireturn, 1) := by decide +kernel
theorem dX8_ofWalker_22 : decode cX8_ofWalker 22 = .ok (.iload_n 2, 1) := by decide +kernel
theorem dX8_ofWalker_23 : decode cX8_ofWalker 23 = .ok (.ifCond .ne 18, 3) := by decide +kernel
theorem dX8_ofWalker_26 : decode cX8_ofWalker 26 = .ok (.aload_n 0, 1) := by decide +kernel
theorem dX8_ofWalker_27 : decode cX8_ofWalker 27 = .ok (.getfield 12, 3) := by decide +kernel
theorem dX8_ofWalker_30 : decode cX8_ofWalker 30 = .ok (.getfield 105, 3) := by decide +kernel
theorem dX8_ofWalker_33 : decode cX8_ofWalker 33 = .ok (.iload_n 1, 1) := by decide +kernel
theorem dX8_ofWalker_34 : decode cX8_ofWalker 34 = .ok (.invokevirtual 120, 3) := by decide +kernel
theorem dX8_ofWalker_37 : decode cX8_ofWalker 37 = .ok (.invokevirtual 126, 3) := by decide +kernel
theorem dX8_ofWalker_40 : decode cX8_ofWalker 40 = .ok (.ireturn, 1) := by decide +kernel
theorem dX8_ofWalker_41 : decode cX8_ofWalker 41 = .ok (.iload_n 2, 1) := by decide +kernel
theorem dX8_ofWalker_42 : decode cX8_ofWalker 42 = .ok (.iconst 1, 1) := by decide +kernel
theorem dX8_ofWalker_43 : decode cX8_ofWalker 43 = .ok (.if_icmp .ne 42, 3) := by decide +kernel
theorem dX8_ofWalker_46 : decode cX8_ofWalker 46 = .ok (.aload_n 0, 1) := by decide +kernel
theorem dX8_ofWalker_47 : decode cX8_ofWalker 47 = .ok (.getfield 12, 3) := by decide +kernel
theorem dX8_ofWalker_50 : decode cX8_ofWalker 50 = .ok (.getfield 95, 3) := by decide +kernel
theorem dX8_ofWalker_53 : decode cX8_ofWalker 53 = .ok (.invokevirtual 131, 3) := by decide +kernel
theorem dX8_ofWalker_56 : decode cX8_ofWalker 56 = .ok (.ifCond .eq 29, 3) := by decide +kernel
theorem dX8_ofWalker_59 : decode cX8_ofWalker 59 = .ok (.aload_n 0, 1) := by decide +kernel
theorem dX8_ofWalker_60 : decode cX8_ofWalker 60 = .ok (.getfield 12, 3) := by decide +kernel
theorem dX8_ofWalker_63 : decode cX8_ofWalker 63 = .ok (.getfield 105, 3) := by decide +kernel
theorem dX8_ofWalker_66 : decode cX8_ofWalker 66 = .ok (.iload_n 1, 1) := by decide +kernel
theorem dX8_ofWalker_67 : decode cX8_ofWalker 67 = .ok (.invokevirtual 120, 3) := by decide +kernel
theorem dX8_ofWalker_70 : decode cX8_ofWalker 70 = .ok (.aload_n 0, 1) := by decide +kernel
theorem dX8_ofWalker_71 : decode cX8_ofWalker 71 = .ok (.getfield 12, 3) := by decide +kernel
theorem dX8_ofWalker_74 : decode cX8_ofWalker 74 = .ok (.getfield 95, 3) := by decide +kernel
theorem dX8_ofWalker_77 : decode cX8_ofWalker 77 = .ok (.iload_n 1, 1) := by decide +kernel
theorem dX8_ofWalker_78 : decode cX8_ofWalker 78 = .ok (.invokevirtual 134, 3) := by decide +kernel
theorem dX8_ofWalker_81 : decode cX8_ofWalker 81 = .ok (.invokevirtual 137, 3) := by decide +kernel
theorem dX8_ofWalker_84 : decode cX8_ofWalker 84 = .ok (.ireturn, 1) := by decide +kernel
theorem dX8_ofWalker_85 : decode cX8_ofWalker 85 = .ok (.aload_n 0, 1) := by decide +kernel
theorem dX8_ofWalker_86 : decode cX8_ofWalker 86 = .ok (.getfield 12, 3) := by decide +kernel
theorem dX8_ofWalker_89 : decode cX8_ofWalker 89 = .ok (.getfield 95, 3) := by decide +kernel
theorem dX8_ofWalker_92 : decode cX8_ofWalker 92 = .ok (.iload_n 1, 1) := by decide +kernel
theorem dX8_ofWalker_93 : decode cX8_ofWalker 93 = .ok (.iload_n 2, 1) := by decide +kernel
theorem dX8_ofWalker_94 : decode cX8_ofWalker 94 = .ok (.invokevirtual 140, 3) := by decide +kernel
theorem dX8_ofWalker_97 : decode cX8_ofWalker 97 = .ok (.ireturn, 1) := by decide +kernel
theorem eX8_ofWalker_0 {a : Int} {l0 l2 : Option VV} {S : MM} : rn xX8_ofWalker (0, [l0, some (vI a), l2], [], S) = rn xX8_ofWalker (1, [l0, some (vI a), l2], [vI a], S) := rn_step dX8_ofWalker_0 rfl rfl
theorem eX8_ofWalker_1 {a0 : Int} {l0 l1 l2 : Option VV} {S : MM} : rn xX8_ofWalker (1, [l0, l1, l2], [vI a0], S) = (fX8_isWalker [vI a0] S).bind (fun q => rn xX8_ofWalker (4, [l0, l1, l2], q.1.toList ++ [], q.2)) := q_callS (n := 1) (as := [vI a0]) (rest := []) dX8_ofWalker_1 rfl rfl rfl rfl
theorem eX8_ofWalker_4 {a : Int} {l0 l1 l2 : Option VV} (h : -2147483648 ≤ a ∧ a ≤ 2147483647) {S : MM} : rn xX8_ofWalker (4, [l0, l1, l2], [vI a], S) = if a = 0 then rn xX8_ofWalker (7, [l0, l1, l2], [], S) else rn xX8_ofWalker (9, [l0, l1, l2], [], S) := q_if_ne dX8_ofWalker_4 (by decide) rfl h
theorem eX8_ofWalker_7 {l0 l1 l2 : Option VV} {S : MM} : rn xX8_ofWalker (7, [l0, l1, l2], [], S) = rn xX8_ofWalker (8, [l0, l1, l2], [vI (-1)], S) := rn_step dX8_ofWalker_7 rfl rfl
theorem eX8_ofWalker_8 {z : Int} {l0 l1 l2 : Option VV} {S : MM} : rn xX8_ofWalker (8, [l0, l1, l2], [vI z], S) = some (some (vI z), S) := q_retI dX8_ofWalker_8 rfl
theorem eX8_ofWalker_9 {a : Int} {l0 l1 : Option VV} {S : MM} : rn xX8_ofWalker (9, [l0, l1, some (vI a)], [], S) = rn xX8_ofWalker (10, [l0, l1, some (vI a)], [vI a], S) := rn_step dX8_ofWalker_9 rfl rfl
theorem eX8_ofWalker_10 {l0 l1 l2 : Option VV} {v0 : VV} {S : MM} : rn xX8_ofWalker (10, [l0, l1, l2], [v0], S) = rn xX8_ofWalker (11, [l0, l1, l2], [vI 0, v0], S) := rn_step dX8_ofWalker_10 rfl rfl
theorem eX8_ofWalker_11 {l0 l1 l2 : Option VV} {v0 v1 : VV} {S : MM} : rn xX8_ofWalker (11, [l0, l1, l2], [v0, v1], S) = rn xX8_ofWalker (13, [l0, l1, l2], [vI 6, v0, v1], S) := rn_step dX8_ofWalker_11 rfl rfl
theorem eX8_ofWalker_13 {a0 : Int} {a1 : Int} {a2 : Int} {l0 l1 l2 : Option VV} {S : MM} : rn xX8_ofWalker (13, [l0, l1, l2], [vI a2, vI a1, vI a0], S) = (fX8_isBetween [vI a0, vI a1, vI a2] S).bind (fun q => rn xX8_ofWalker (16, [l0, l1, l2], q.1.toList ++ [], q.2)) := q_callS (n := 3) (as := [vI a0, vI a1, vI a2]) (rest := []) dX8_ofWalker_13 rfl rfl rfl rfl
theorem eX8_ofWalker_16 {a : Int} {l0 l1 l2 : Option VV} (h : -2147483648 ≤ a ∧ a ≤ 2147483647) {S : MM} : rn xX8_ofWalker (16, [l0, l1, l2], [vI a], S) = if a = 0 then rn xX8_ofWalker (19, [l0, l1, l2], [], S) else rn xX8_ofWalker (22, [l0, l1, l2], [], S) := q_if_ne dX8_ofWalker_16 (by decide) rfl h
theorem eX8_ofWalker_19 {l0 l1 l2 : Option VV} {S : MM} : rn xX8_ofWalker (19, [l0, l1, l2], [], S) = rn xX8_ofWalker (21, [l0, l1, l2], [vI (-2)], S) := rn_step dX8_ofWalker_19 rfl rfl
theorem eX8_ofWalker_21 {z : Int} {l0 l1 l2 : Option VV} {S : MM} : rn xX8_ofWalker (21, [l0, l1, l2], [vI z], S) = some (some (vI z), S) := q_retI dX8_ofWalker_21 rfl
theorem eX8_ofWalker_22 {a : Int} {l0 l1 : Option VV} {S : MM} : rn xX8_ofWalker (22, [l0, l1, some (vI a)], [], S) = rn xX8_ofWalker (23, [l0, l1, some (vI a)], [vI a], S) := rn_step dX8_ofWalker_22 rfl rfl
theorem eX8_ofWalker_23 {a : Int} {l0 l1 l2 : Option VV} (h : -2147483648 ≤ a ∧ a ≤ 2147483647) {S : MM} : rn xX8_ofWalker (23, [l0, l1, l2], [vI a], S) = if a = 0 then rn xX8_ofWalker (26, [l0, l1, l2], [], S) else rn xX8_ofWalker (41, [l0, l1, l2], [], S) := q_if_ne dX8_ofWalker_23 (by decide) rfl h
theorem eX8_ofWalker_26 {a : Option Nat} {l1 l2 : Option VV} {S : MM} : rn xX8_ofWalker (26, [some (.inr (.inl a)), l1, l2], [], S) = rn xX8_ofWalker (27, [some (.inr (.inl a)), l1, l2], [.inr (.inl a)], S) := rn_step dX8_ofWalker_26 rfl rfl
theorem eX8_ofWalker_27 {l0 l1 l2 : Option VV} {S : MM} : rn xX8_ofWalker (27, [l0, l1, l2], [vR 0], S) = rn xX8_ofWalker (30, [l0, l1, l2], [vR 1], S) := q_getR dX8_ofWalker_27 rfl ⟨⟨by decide, by decide⟩, by decide⟩ (fun _ => by decide +kernel) kd0
theorem eX8_ofWalker_30 {i : Nat} {l0 l1 l2 : Option VV} (h : kd i = 6) {S : MM} : rn xX8_ofWalker (30, [l0, l1, l2], [vR i], S) = rn xX8_ofWalker (33, [l0, l1, l2], [vR (i + 3)], S) := q_getR dX8_ofWalker_30 rfl ⟨⟨by decide, by decide⟩, by decide⟩ (fun h => (fref6 h).trans (by first | rfl | omega)) h
theorem eX8_ofWalker_33 {a : Int} {l0 l2 : Option VV} {v0 : VV} {S : MM} : rn xX8_ofWalker (33, [l0, some (vI a), l2], [v0], S) = rn xX8_ofWalker (34, [l0, some (vI a), l2], [vI a, v0], S) := rn_step dX8_ofWalker_33 rfl rfl
theorem eX8_ofWalker_34 {a0 : Int} {i : Nat} {l0 l1 l2 : Option VV} (h : kd i = 5) {S : MM} : rn xX8_ofWalker (34, [l0, l1, l2], [vI a0, vR i], S) = (fX5_pathOf [vR i, vI a0] S).bind (fun q => rn xX8_ofWalker (37, [l0, l1, l2], q.1.toList ++ [], q.2)) := q_callV (n := 1) (as := [vI a0]) (rest := []) dX8_ofWalker_34 rfl rfl rfl rfl h
theorem eX8_ofWalker_37 {i : Nat} {l0 l1 l2 : Option VV} (h : kd i = 3) {S : MM} : rn xX8_ofWalker (37, [l0, l1, l2], [vR i], S) = (fX3_size [vR i] S).bind (fun q => rn xX8_ofWalker (40, [l0, l1, l2], q.1.toList ++ [], q.2)) := q_callV (n := 0) (as := []) (rest := []) dX8_ofWalker_37 rfl rfl rfl rfl h
theorem eX8_ofWalker_40 {z : Int} {l0 l1 l2 : Option VV} {S : MM} : rn xX8_ofWalker (40, [l0, l1, l2], [vI z], S) = some (some (vI z), S) := q_retI dX8_ofWalker_40 rfl
theorem eX8_ofWalker_41 {a : Int} {l0 l1 : Option VV} {S : MM} : rn xX8_ofWalker (41, [l0, l1, some (vI a)], [], S) = rn xX8_ofWalker (42, [l0, l1, some (vI a)], [vI a], S) := rn_step dX8_ofWalker_41 rfl rfl
theorem eX8_ofWalker_42 {l0 l1 l2 : Option VV} {v0 : VV} {S : MM} : rn xX8_ofWalker (42, [l0, l1, l2], [v0], S) = rn xX8_ofWalker (43, [l0, l1, l2], [vI 1, v0], S) := rn_step dX8_ofWalker_42 rfl rfl
theorem eX8_ofWalker_43 {a b : Int} {l0 l1 l2 : Option VV} (h : -2147483648 ≤ a ∧ a ≤ 2147483647) (h1 : -2147483648 ≤ b ∧ b ≤ 2147483647) {S : MM} : rn xX8_ofWalker (43, [l0, l1, l2], [vI b, vI a], S) = if a = b then rn xX8_ofWalker (46, [l0, l1, l2], [], S) else rn xX8_ofWalker (85, [l0, l1, l2], [], S) := q_icmp_ne dX8_ofWalker_43 (by decide) rfl h h1
theorem eX8_ofWalker_46 {a : Option Nat} {l1 l2 : Option VV} {S : MM} : rn xX8_ofWalker (46, [some (.inr (.inl a)), l1, l2], [], S) = rn xX8_ofWalker (47, [some (.inr (.inl a)), l1, l2], [.inr (.inl a)], S) := rn_step dX8_ofWalker_46 rfl rfl
theorem eX8_ofWalker_47 {l0 l1 l2 : Option VV} {S : MM} : rn xX8_ofWalker (47, [l0, l1, l2], [vR 0], S) = rn xX8_ofWalker (50, [l0, l1, l2], [vR 1], S) := q_getR dX8_ofWalker_47 rfl ⟨⟨by decide, by decide⟩, by decide⟩ (fun _ => by decide +kernel) kd0
theorem eX8_ofWalker_50 {i : Nat} {l0 l1 l2 : Option VV} (h : kd i = 6) {S : MM} : rn xX8_ofWalker (50, [l0, l1, l2], [vR i], S) = rn xX8_ofWalker (53, [l0, l1, l2], [vR (i + 56)], S) := q_getR dX8_ofWalker_50 rfl ⟨⟨by decide, by decide⟩, by decide⟩ (fun h => (fref6 h).trans (by first | rfl | omega)) h
theorem eX8_ofWalker_53 {i : Nat} {l0 l1 l2 : Option VV} (h : kd i = 0) {S : MM} : rn xX8_ofWalker (53, [l0, l1, l2], [vR i], S) = (fX0_isBegun [vR i] S).bind (fun q => rn xX8_ofWalker (56, [l0, l1, l2], q.1.toList ++ [], q.2)) := q_callV (n := 0) (as := []) (rest := []) dX8_ofWalker_53 rfl rfl rfl rfl h
theorem eX8_ofWalker_56 {a : Int} {l0 l1 l2 : Option VV} (h : -2147483648 ≤ a ∧ a ≤ 2147483647) {S : MM} : rn xX8_ofWalker (56, [l0, l1, l2], [vI a], S) = if a = 0 then rn xX8_ofWalker (85, [l0, l1, l2], [], S) else rn xX8_ofWalker (59, [l0, l1, l2], [], S) := q_if_eq dX8_ofWalker_56 (by decide) rfl h
theorem eX8_ofWalker_59 {a : Option Nat} {l1 l2 : Option VV} {S : MM} : rn xX8_ofWalker (59, [some (.inr (.inl a)), l1, l2], [], S) = rn xX8_ofWalker (60, [some (.inr (.inl a)), l1, l2], [.inr (.inl a)], S) := rn_step dX8_ofWalker_59 rfl rfl
theorem eX8_ofWalker_60 {l0 l1 l2 : Option VV} {S : MM} : rn xX8_ofWalker (60, [l0, l1, l2], [vR 0], S) = rn xX8_ofWalker (63, [l0, l1, l2], [vR 1], S) := q_getR dX8_ofWalker_60 rfl ⟨⟨by decide, by decide⟩, by decide⟩ (fun _ => by decide +kernel) kd0
theorem eX8_ofWalker_63 {i : Nat} {l0 l1 l2 : Option VV} (h : kd i = 6) {S : MM} : rn xX8_ofWalker (63, [l0, l1, l2], [vR i], S) = rn xX8_ofWalker (66, [l0, l1, l2], [vR (i + 3)], S) := q_getR dX8_ofWalker_63 rfl ⟨⟨by decide, by decide⟩, by decide⟩ (fun h => (fref6 h).trans (by first | rfl | omega)) h
theorem eX8_ofWalker_66 {a : Int} {l0 l2 : Option VV} {v0 : VV} {S : MM} : rn xX8_ofWalker (66, [l0, some (vI a), l2], [v0], S) = rn xX8_ofWalker (67, [l0, some (vI a), l2], [vI a, v0], S) := rn_step dX8_ofWalker_66 rfl rfl
theorem eX8_ofWalker_67 {a0 : Int} {i : Nat} {l0 l1 l2 : Option VV} (h : kd i = 5) {S : MM} : rn xX8_ofWalker (67, [l0, l1, l2], [vI a0, vR i], S) = (fX5_pathOf [vR i, vI a0] S).bind (fun q => rn xX8_ofWalker (70, [l0, l1, l2], q.1.toList ++ [], q.2)) := q_callV (n := 1) (as := [vI a0]) (rest := []) dX8_ofWalker_67 rfl rfl rfl rfl h
theorem eX8_ofWalker_70 {a : Option Nat} {l1 l2 : Option VV} {v0 : VV} {S : MM} : rn xX8_ofWalker (70, [some (.inr (.inl a)), l1, l2], [v0], S) = rn xX8_ofWalker (71, [some (.inr (.inl a)), l1, l2], [.inr (.inl a), v0], S) := rn_step dX8_ofWalker_70 rfl rfl
theorem eX8_ofWalker_71 {l0 l1 l2 : Option VV} {v1 : VV} {S : MM} : rn xX8_ofWalker (71, [l0, l1, l2], [vR 0, v1], S) = rn xX8_ofWalker (74, [l0, l1, l2], [vR 1, v1], S) := q_getR dX8_ofWalker_71 rfl ⟨⟨by decide, by decide⟩, by decide⟩ (fun _ => by decide +kernel) kd0
theorem eX8_ofWalker_74 {i : Nat} {l0 l1 l2 : Option VV} {v1 : VV} (h : kd i = 6) {S : MM} : rn xX8_ofWalker (74, [l0, l1, l2], [vR i, v1], S) = rn xX8_ofWalker (77, [l0, l1, l2], [vR (i + 56), v1], S) := q_getR dX8_ofWalker_74 rfl ⟨⟨by decide, by decide⟩, by decide⟩ (fun h => (fref6 h).trans (by first | rfl | omega)) h
theorem eX8_ofWalker_77 {a : Int} {l0 l2 : Option VV} {v0 v1 : VV} {S : MM} : rn xX8_ofWalker (77, [l0, some (vI a), l2], [v0, v1], S) = rn xX8_ofWalker (78, [l0, some (vI a), l2], [vI a, v0, v1], S) := rn_step dX8_ofWalker_77 rfl rfl
theorem eX8_ofWalker_78 {a0 : Int} {i : Nat} {l0 l1 l2 : Option VV} {v2 : VV} (h : kd i = 0) {S : MM} : rn xX8_ofWalker (78, [l0, l1, l2], [vI a0, vR i, v2], S) = (fX0_keyUnder [vR i, vI a0] S).bind (fun q => rn xX8_ofWalker (81, [l0, l1, l2], q.1.toList ++ [v2], q.2)) := q_callV (n := 1) (as := [vI a0]) (rest := [v2]) dX8_ofWalker_78 rfl rfl rfl rfl h
theorem eX8_ofWalker_81 {a0 : Int} {i : Nat} {l0 l1 l2 : Option VV} (h : kd i = 3) {S : MM} : rn xX8_ofWalker (81, [l0, l1, l2], [vI a0, vR i], S) = (fX3_placeFrom [vR i, vI a0] S).bind (fun q => rn xX8_ofWalker (84, [l0, l1, l2], q.1.toList ++ [], q.2)) := q_callV (n := 1) (as := [vI a0]) (rest := []) dX8_ofWalker_81 rfl rfl rfl rfl h
theorem eX8_ofWalker_84 {z : Int} {l0 l1 l2 : Option VV} {S : MM} : rn xX8_ofWalker (84, [l0, l1, l2], [vI z], S) = some (some (vI z), S) := q_retI dX8_ofWalker_84 rfl
theorem eX8_ofWalker_85 {a : Option Nat} {l1 l2 : Option VV} {S : MM} : rn xX8_ofWalker (85, [some (.inr (.inl a)), l1, l2], [], S) = rn xX8_ofWalker (86, [some (.inr (.inl a)), l1, l2], [.inr (.inl a)], S) := rn_step dX8_ofWalker_85 rfl rfl
theorem eX8_ofWalker_86 {l0 l1 l2 : Option VV} {S : MM} : rn xX8_ofWalker (86, [l0, l1, l2], [vR 0], S) = rn xX8_ofWalker (89, [l0, l1, l2], [vR 1], S) := q_getR dX8_ofWalker_86 rfl ⟨⟨by decide, by decide⟩, by decide⟩ (fun _ => by decide +kernel) kd0
theorem eX8_ofWalker_89 {i : Nat} {l0 l1 l2 : Option VV} (h : kd i = 6) {S : MM} : rn xX8_ofWalker (89, [l0, l1, l2], [vR i], S) = rn xX8_ofWalker (92, [l0, l1, l2], [vR (i + 56)], S) := q_getR dX8_ofWalker_89 rfl ⟨⟨by decide, by decide⟩, by decide⟩ (fun h => (fref6 h).trans (by first | rfl | omega)) h
theorem eX8_ofWalker_92 {a : Int} {l0 l2 : Option VV} {v0 : VV} {S : MM} : rn xX8_ofWalker (92, [l0, some (vI a), l2], [v0], S) = rn xX8_ofWalker (93, [l0, some (vI a), l2], [vI a, v0], S) := rn_step dX8_ofWalker_92 rfl rfl
theorem eX8_ofWalker_93 {a : Int} {l0 l1 : Option VV} {v0 v1 : VV} {S : MM} : rn xX8_ofWalker (93, [l0, l1, some (vI a)], [v0, v1], S) = rn xX8_ofWalker (94, [l0, l1, some (vI a)], [vI a, v0, v1], S) := rn_step dX8_ofWalker_93 rfl rfl
theorem eX8_ofWalker_94 {a0 : Int} {a1 : Int} {i : Nat} {l0 l1 l2 : Option VV} (h : kd i = 0) {S : MM} : rn xX8_ofWalker (94, [l0, l1, l2], [vI a1, vI a0, vR i], S) = (fX0_figureOfWalker [vR i, vI a0, vI a1] S).bind (fun q => rn xX8_ofWalker (97, [l0, l1, l2], q.1.toList ++ [], q.2)) := q_callV (n := 2) (as := [vI a0, vI a1]) (rest := []) dX8_ofWalker_94 rfl rfl rfl rfl h
theorem eX8_ofWalker_97 {z : Int} {l0 l1 l2 : Option VV} {S : MM} : rn xX8_ofWalker (97, [l0, l1, l2], [vI z], S) = some (some (vI z), S) := q_retI dX8_ofWalker_97 rfl
noncomputable def qlX8_ofStone : List CE := [(1, 116, 0, 1, fX8_isWalker), (0, 120, 5, 2, fX5_pathOf), (0, 126, 3, 1, fX3_size), (1, 57, 0, 3, fX8_isBetween), (0, 143, 3, 2, fX3_keyAt), (0, 146, 3, 2, fX3_repeatsAt)]
noncomputable def xX8_ofStone : XX := (cX8_ofStone, fcF fcl8, mcF qlX8_ofStone, 1)
noncomputable def fX8_ofStone : FN := fnX xX8_ofStone 5
set_option maxRecDepth 100000 in
theorem cwX8_ofStone : Cond.code yX8_ofStone cX8_ofStone 5 (some .int) ∈ lw_g := lw_gm 419 (by decide +kernel) (by decide +kernel)
set_option maxRecDepth 100000 in
theorem conX8_ofStone : Con yX8_ofStone cX8_ofStone 5 (some .int) { frames := 2, cells := 0, slots := 0, locals := 42 } fX8_ofStone := con_of (X := xX8_ofStone) (own := "LeapStones") (ql := qlX8_ofStone) (by decide) rfl FOK8 rfl (List.forall_mem_cons.mpr ⟨call_S conX8_isWalker cwX8_isWalker (lw_gl _ [396, 343, 21] (by decide +kernel) (by decide +kernel)) ⟨by decide, by decide, by decide +kernel⟩ ⟨rfl, rfl⟩ ⟨by decide, by decide⟩ ⟨Nat.le_refl _, Nat.le_refl _⟩, List.forall_mem_cons.mpr ⟨call_V conX5_pathOf cwX5_pathOf (lw_gl _ [397, 347, 348, 24] (by decide +kernel) (by decide +kernel)) (by decide) rfl ⟨by decide, by decide, by decide +kernel⟩ ⟨rfl, rfl⟩ ⟨by decide, by decide⟩ ⟨Nat.le_refl _, Nat.le_refl _⟩, List.forall_mem_cons.mpr ⟨call_V conX3_size cwX3_size (lw_gl _ [398, 399, 400, 25] (by decide +kernel) (by decide +kernel)) (by decide) rfl ⟨by decide, by decide, by decide +kernel⟩ ⟨rfl, rfl⟩ ⟨by decide, by decide⟩ ⟨Nat.le_refl _, Nat.le_refl _⟩, List.forall_mem_cons.mpr ⟨call_S conX8_isBetween cwX8_isBetween (lw_gl _ [250, 251, 21] (by decide +kernel) (by decide +kernel)) ⟨by decide, by decide, by decide +kernel⟩ ⟨rfl, rfl⟩ ⟨by decide, by decide⟩ ⟨Nat.le_refl _, Nat.le_refl _⟩, List.forall_mem_cons.mpr ⟨call_V conX3_keyAt cwX3_keyAt (lw_gl _ [420, 372, 373, 25] (by decide +kernel) (by decide +kernel)) (by decide) rfl ⟨by decide, by decide, by decide +kernel⟩ ⟨rfl, rfl⟩ ⟨by decide, by decide⟩ ⟨Nat.le_refl _, Nat.le_refl _⟩, List.forall_mem_cons.mpr ⟨call_V conX3_repeatsAt cwX3_repeatsAt (lw_gl _ [421, 422, 423, 25] (by decide +kernel) (by decide +kernel)) (by decide) rfl ⟨by decide, by decide, by decide +kernel⟩ ⟨rfl, rfl⟩ ⟨by decide, by decide⟩ ⟨Nat.le_refl _, Nat.le_refl _⟩, fun _ h => absurd h List.not_mem_nil⟩⟩⟩⟩⟩⟩) (Or.inr (Or.inl ⟨rfl, rfl⟩))
theorem uX8_ofStone {i : Nat} {a0 : Int} {a1 : Int} {a2 : Int} {S : MM} : fX8_ofStone [vR i, vI a0, vI a1, vI a2] S = rn xX8_ofStone (0, [some (vR i), some (vI a0), some (vI a1), some (vI a2), none], [], S) := rfl
theorem dX8_ofStone_0 : decode cX8_ofStone 0 = .ok (.iload_n 1, 1) := by decide +kernel
theorem dX8_ofStone_1 : decode cX8_ofStone 1 = .ok (.invokestatic 116, 3) := by decide +kernel
theorem dX8_ofStone_4 : decode cX8_ofStone 4 = .ok (.ifCond .eq 27, 3) := by decide +kernel
theorem dX8_ofStone_7 : decode cX8_ofStone 7 = .ok (.iload_n 2, 1) := by decide +kernel
theorem dX8_ofStone_8 : decode cX8_ofStone 8 = .ok (.iconst 0, 1) := by decide +kernel
theorem dX8_ofStone_9 : decode cX8_ofStone 9 = .ok (.aload_n 0, 1) := by decide +kernel
theorem dX8_ofStone_10 : decode cX8_ofStone 10 = .ok (.getfield 12, 3) := by decide +kernel
theorem dX8_ofStone_13 : decode cX8_ofStone 13 = .ok (.getfield 105, 3) := by decide +kernel
theorem dX8_ofStone_16 : decode cX8_ofStone 16 = .ok (.iload_n 1, 1) := by decide +kernel
theorem dX8_ofStone_17 : decode cX8_ofStone 17 = .ok (.invokevirtual 120, 3) := by decide +kernel
theorem dX8_ofStone_20 : decode cX8_ofStone 20 = .ok (.invokevirtual 126, 3) := by decide +kernel
theorem dX8_ofStone_23 : decode cX8_ofStone 23 = .ok (.iconst 1, 1) := by decide +kernel
theorem dX8_ofStone_24 : decode cX8_ofStone 24 = .ok (.isub, 1) := by decide +kernel
theorem dX8_ofStone_25 : decode cX8_ofStone 25 = .ok (.invokestatic 57, 3) := by decide +kernel
theorem dX8_ofStone_28 : decode cX8_ofStone 28 = .ok (.ifCond .ne 5, 3) := by decide +kernel
theorem dX8_ofStone_31 : decode cX8_ofStone 31 = .ok (.iconst (-1), 1) := by decide +kernel
theorem dX8_ofStone_32 : decode cX8_ofStone 32 = .ok (.ireturn, 1) := by decide +kernel
theorem dX8_ofStone_33 : decode cX8_ofStone 33 = .ok (.iload_n 3, 1) := by decide +kernel
theorem dX8_ofStone_34 : decode cX8_ofStone 34 = .ok (.iconst 0, 1) := by decide +kernel
theorem dX8_ofStone_35 : decode cX8_ofStone 35 = .ok (.iconst 1, 1) := by decide +kernel
theorem dX8_ofStone_36 : decode cX8_ofStone 36 = .ok (.invokestatic 57, 3) := by decide +kernel
theorem dX8_ofStone_39 : decode cX8_ofStone 39 = .ok (.ifCond .ne 6, 3) := by decide +kernel
theorem dX8_ofStone_42 : decode cX8_ofStone 42 = .ok (.bipush (-2), 2) := by decide +kernel
theorem dX8_ofStone_44 : decode cX8_ofStone 44 = .ok (.ireturn, 1) := by decide +kernel
theorem dX8_ofStone_45 : decode cX8_ofStone 45 = .ok (.aload_n 0, 1) := by decide +kernel
theorem dX8_ofStone_46 : decode cX8_ofStone 46 = .ok (.getfield 12, 3) := by decide +kernel
theorem dX8_ofStone_49 : decode cX8_ofStone 49 = .ok (.getfield 105, 3) := by decide +kernel
theorem dX8_ofStone_52 : decode cX8_ofStone 52 = .ok (.iload_n 1, 1) := by decide +kernel
theorem dX8_ofStone_53 : decode cX8_ofStone 53 = .ok (.invokevirtual 120, 3) := by decide +kernel
theorem dX8_ofStone_56 : decode cX8_ofStone 56 = .ok (.astore 4, 2) := by decide +kernel
theorem dX8_ofStone_58 : decode cX8_ofStone 58 = .ok (.iload_n 3, 1) := by decide +kernel
theorem dX8_ofStone_59 : decode cX8_ofStone 59 = .ok (.ifCond .ne 12, 3) := by decide +kernel
theorem dX8_ofStone_62 : decode cX8_ofStone 62 = .ok (.aload 4, 2) := by decide +kernel
theorem dX8_ofStone_64 : decode cX8_ofStone 64 = .ok (.iload_n 2, 1) := by decide +kernel
theorem dX8_ofStone_65 : decode cX8_ofStone 65 = .ok (.invokevirtual 143, 3) := by decide +kernel
theorem dX8_ofStone_68 : decode cX8_ofStone 68 = .ok (.goto 9, 3) := by decide +kernel
theorem dX8_ofStone_71 : decode cX8_ofStone 71 = .ok (.aload 4, 2) := by decide +kernel
theorem dX8_ofStone_73 : decode cX8_ofStone 73 = .ok (.iload_n 2, 1) := by decide +kernel
theorem dX8_ofStone_74 : decode cX8_ofStone 74 = .ok (.invokevirtual 146, 3) := by decide +kernel
theorem dX8_ofStone_77 : decode cX8_ofStone 77 = .ok (.ireturn, 1) := by decide +kernel
theorem eX8_ofStone_0 {a : Int} {l0 l2 l3 l4 : Option VV} {S : MM} : rn xX8_ofStone (0, [l0, some (vI a), l2, l3, l4], [], S) = rn xX8_ofStone (1, [l0, some (vI a), l2, l3, l4], [vI a], S) := rn_step dX8_ofStone_0 rfl rfl
theorem eX8_ofStone_1 {a0 : Int} {l0 l1 l2 l3 l4 : Option VV} {S : MM} : rn xX8_ofStone (1, [l0, l1, l2, l3, l4], [vI a0], S) = (fX8_isWalker [vI a0] S).bind (fun q => rn xX8_ofStone (4, [l0, l1, l2, l3, l4], q.1.toList ++ [], q.2)) := q_callS (n := 1) (as := [vI a0]) (rest := []) dX8_ofStone_1 rfl rfl rfl rfl
theorem eX8_ofStone_4 {a : Int} {l0 l1 l2 l3 l4 : Option VV} (h : -2147483648 ≤ a ∧ a ≤ 2147483647) {S : MM} : rn xX8_ofStone (4, [l0, l1, l2, l3, l4], [vI a], S) = if a = 0 then rn xX8_ofStone (31, [l0, l1, l2, l3, l4], [], S) else rn xX8_ofStone (7, [l0, l1, l2, l3, l4], [], S) := q_if_eq dX8_ofStone_4 (by decide) rfl h
theorem eX8_ofStone_7 {a : Int} {l0 l1 l3 l4 : Option VV} {S : MM} : rn xX8_ofStone (7, [l0, l1, some (vI a), l3, l4], [], S) = rn xX8_ofStone (8, [l0, l1, some (vI a), l3, l4], [vI a], S) := rn_step dX8_ofStone_7 rfl rfl
theorem eX8_ofStone_8 {l0 l1 l2 l3 l4 : Option VV} {v0 : VV} {S : MM} : rn xX8_ofStone (8, [l0, l1, l2, l3, l4], [v0], S) = rn xX8_ofStone (9, [l0, l1, l2, l3, l4], [vI 0, v0], S) := rn_step dX8_ofStone_8 rfl rfl
theorem eX8_ofStone_9 {a : Option Nat} {l1 l2 l3 l4 : Option VV} {v0 v1 : VV} {S : MM} : rn xX8_ofStone (9, [some (.inr (.inl a)), l1, l2, l3, l4], [v0, v1], S) = rn xX8_ofStone (10, [some (.inr (.inl a)), l1, l2, l3, l4], [.inr (.inl a), v0, v1], S) := rn_step dX8_ofStone_9 rfl rfl
theorem eX8_ofStone_10 {l0 l1 l2 l3 l4 : Option VV} {v1 v2 : VV} {S : MM} : rn xX8_ofStone (10, [l0, l1, l2, l3, l4], [vR 0, v1, v2], S) = rn xX8_ofStone (13, [l0, l1, l2, l3, l4], [vR 1, v1, v2], S) := q_getR dX8_ofStone_10 rfl ⟨⟨by decide, by decide⟩, by decide⟩ (fun _ => by decide +kernel) kd0
theorem eX8_ofStone_13 {i : Nat} {l0 l1 l2 l3 l4 : Option VV} {v1 v2 : VV} (h : kd i = 6) {S : MM} : rn xX8_ofStone (13, [l0, l1, l2, l3, l4], [vR i, v1, v2], S) = rn xX8_ofStone (16, [l0, l1, l2, l3, l4], [vR (i + 3), v1, v2], S) := q_getR dX8_ofStone_13 rfl ⟨⟨by decide, by decide⟩, by decide⟩ (fun h => (fref6 h).trans (by first | rfl | omega)) h
theorem eX8_ofStone_16 {a : Int} {l0 l2 l3 l4 : Option VV} {v0 v1 v2 : VV} {S : MM} : rn xX8_ofStone (16, [l0, some (vI a), l2, l3, l4], [v0, v1, v2], S) = rn xX8_ofStone (17, [l0, some (vI a), l2, l3, l4], [vI a, v0, v1, v2], S) := rn_step dX8_ofStone_16 rfl rfl
theorem eX8_ofStone_17 {a0 : Int} {i : Nat} {l0 l1 l2 l3 l4 : Option VV} {v2 v3 : VV} (h : kd i = 5) {S : MM} : rn xX8_ofStone (17, [l0, l1, l2, l3, l4], [vI a0, vR i, v2, v3], S) = (fX5_pathOf [vR i, vI a0] S).bind (fun q => rn xX8_ofStone (20, [l0, l1, l2, l3, l4], q.1.toList ++ [v2, v3], q.2)) := q_callV (n := 1) (as := [vI a0]) (rest := [v2, v3]) dX8_ofStone_17 rfl rfl rfl rfl h
theorem eX8_ofStone_20 {i : Nat} {l0 l1 l2 l3 l4 : Option VV} {v1 v2 : VV} (h : kd i = 3) {S : MM} : rn xX8_ofStone (20, [l0, l1, l2, l3, l4], [vR i, v1, v2], S) = (fX3_size [vR i] S).bind (fun q => rn xX8_ofStone (23, [l0, l1, l2, l3, l4], q.1.toList ++ [v1, v2], q.2)) := q_callV (n := 0) (as := []) (rest := [v1, v2]) dX8_ofStone_20 rfl rfl rfl rfl h
theorem eX8_ofStone_23 {l0 l1 l2 l3 l4 : Option VV} {v0 v1 v2 : VV} {S : MM} : rn xX8_ofStone (23, [l0, l1, l2, l3, l4], [v0, v1, v2], S) = rn xX8_ofStone (24, [l0, l1, l2, l3, l4], [vI 1, v0, v1, v2], S) := rn_step dX8_ofStone_23 rfl rfl
theorem eX8_ofStone_24 {a b : Int} {l0 l1 l2 l3 l4 : Option VV} {v2 v3 : VV} {S : MM} : rn xX8_ofStone (24, [l0, l1, l2, l3, l4], [vI b, vI a, v2, v3], S) = rn xX8_ofStone (25, [l0, l1, l2, l3, l4], [vI (a - b), v2, v3], S) := rn_step dX8_ofStone_24 rfl rfl
theorem eX8_ofStone_25 {a0 : Int} {a1 : Int} {a2 : Int} {l0 l1 l2 l3 l4 : Option VV} {S : MM} : rn xX8_ofStone (25, [l0, l1, l2, l3, l4], [vI a2, vI a1, vI a0], S) = (fX8_isBetween [vI a0, vI a1, vI a2] S).bind (fun q => rn xX8_ofStone (28, [l0, l1, l2, l3, l4], q.1.toList ++ [], q.2)) := q_callS (n := 3) (as := [vI a0, vI a1, vI a2]) (rest := []) dX8_ofStone_25 rfl rfl rfl rfl
theorem eX8_ofStone_28 {a : Int} {l0 l1 l2 l3 l4 : Option VV} (h : -2147483648 ≤ a ∧ a ≤ 2147483647) {S : MM} : rn xX8_ofStone (28, [l0, l1, l2, l3, l4], [vI a], S) = if a = 0 then rn xX8_ofStone (31, [l0, l1, l2, l3, l4], [], S) else rn xX8_ofStone (33, [l0, l1, l2, l3, l4], [], S) := q_if_ne dX8_ofStone_28 (by decide) rfl h
theorem eX8_ofStone_31 {l0 l1 l2 l3 l4 : Option VV} {S : MM} : rn xX8_ofStone (31, [l0, l1, l2, l3, l4], [], S) = rn xX8_ofStone (32, [l0, l1, l2, l3, l4], [vI (-1)], S) := rn_step dX8_ofStone_31 rfl rfl
theorem eX8_ofStone_32 {z : Int} {l0 l1 l2 l3 l4 : Option VV} {S : MM} : rn xX8_ofStone (32, [l0, l1, l2, l3, l4], [vI z], S) = some (some (vI z), S) := q_retI dX8_ofStone_32 rfl
theorem eX8_ofStone_33 {a : Int} {l0 l1 l2 l4 : Option VV} {S : MM} : rn xX8_ofStone (33, [l0, l1, l2, some (vI a), l4], [], S) = rn xX8_ofStone (34, [l0, l1, l2, some (vI a), l4], [vI a], S) := rn_step dX8_ofStone_33 rfl rfl
theorem eX8_ofStone_34 {l0 l1 l2 l3 l4 : Option VV} {v0 : VV} {S : MM} : rn xX8_ofStone (34, [l0, l1, l2, l3, l4], [v0], S) = rn xX8_ofStone (35, [l0, l1, l2, l3, l4], [vI 0, v0], S) := rn_step dX8_ofStone_34 rfl rfl
theorem eX8_ofStone_35 {l0 l1 l2 l3 l4 : Option VV} {v0 v1 : VV} {S : MM} : rn xX8_ofStone (35, [l0, l1, l2, l3, l4], [v0, v1], S) = rn xX8_ofStone (36, [l0, l1, l2, l3, l4], [vI 1, v0, v1], S) := rn_step dX8_ofStone_35 rfl rfl
theorem eX8_ofStone_36 {a0 : Int} {a1 : Int} {a2 : Int} {l0 l1 l2 l3 l4 : Option VV} {S : MM} : rn xX8_ofStone (36, [l0, l1, l2, l3, l4], [vI a2, vI a1, vI a0], S) = (fX8_isBetween [vI a0, vI a1, vI a2] S).bind (fun q => rn xX8_ofStone (39, [l0, l1, l2, l3, l4], q.1.toList ++ [], q.2)) := q_callS (n := 3) (as := [vI a0, vI a1, vI a2]) (rest := []) dX8_ofStone_36 rfl rfl rfl rfl
theorem eX8_ofStone_39 {a : Int} {l0 l1 l2 l3 l4 : Option VV} (h : -2147483648 ≤ a ∧ a ≤ 2147483647) {S : MM} : rn xX8_ofStone (39, [l0, l1, l2, l3, l4], [vI a], S) = if a = 0 then rn xX8_ofStone (42, [l0, l1, l2, l3, l4], [], S) else rn xX8_ofStone (45, [l0, l1, l2, l3, l4], [], S) := q_if_ne dX8_ofStone_39 (by decide) rfl h
theorem eX8_ofStone_42 {l0 l1 l2 l3 l4 : Option VV} {S : MM} : rn xX8_ofStone (42, [l0, l1, l2, l3, l4], [], S) = rn xX8_ofStone (44, [l0, l1, l2, l3, l4], [vI (-2)], S) := rn_step dX8_ofStone_42 rfl rfl
theorem eX8_ofStone_44 {z : Int} {l0 l1 l2 l3 l4 : Option VV} {S : MM} : rn xX8_ofStone (44, [l0, l1, l2, l3, l4], [vI z], S) = some (some (vI z), S) := q_retI dX8_ofStone_44 rfl
theorem eX8_ofStone_45 {a : Option Nat} {l1 l2 l3 l4 : Option VV} {S : MM} : rn xX8_ofStone (45, [some (.inr (.inl a)), l1, l2, l3, l4], [], S) = rn xX8_ofStone (46, [some (.inr (.inl a)), l1, l2, l3, l4], [.inr (.inl a)], S) := rn_step dX8_ofStone_45 rfl rfl
theorem eX8_ofStone_46 {l0 l1 l2 l3 l4 : Option VV} {S : MM} : rn xX8_ofStone (46, [l0, l1, l2, l3, l4], [vR 0], S) = rn xX8_ofStone (49, [l0, l1, l2, l3, l4], [vR 1], S) := q_getR dX8_ofStone_46 rfl ⟨⟨by decide, by decide⟩, by decide⟩ (fun _ => by decide +kernel) kd0
theorem eX8_ofStone_49 {i : Nat} {l0 l1 l2 l3 l4 : Option VV} (h : kd i = 6) {S : MM} : rn xX8_ofStone (49, [l0, l1, l2, l3, l4], [vR i], S) = rn xX8_ofStone (52, [l0, l1, l2, l3, l4], [vR (i + 3)], S) := q_getR dX8_ofStone_49 rfl ⟨⟨by decide, by decide⟩, by decide⟩ (fun h => (fref6 h).trans (by first | rfl | omega)) h
theorem eX8_ofStone_52 {a : Int} {l0 l2 l3 l4 : Option VV} {v0 : VV} {S : MM} : rn xX8_ofStone (52, [l0, some (vI a), l2, l3, l4], [v0], S) = rn xX8_ofStone (53, [l0, some (vI a), l2, l3, l4], [vI a, v0], S) := rn_step dX8_ofStone_52 rfl rfl
theorem eX8_ofStone_53 {a0 : Int} {i : Nat} {l0 l1 l2 l3 l4 : Option VV} (h : kd i = 5) {S : MM} : rn xX8_ofStone (53, [l0, l1, l2, l3, l4], [vI a0, vR i], S) = (fX5_pathOf [vR i, vI a0] S).bind (fun q => rn xX8_ofStone (56, [l0, l1, l2, l3, l4], q.1.toList ++ [], q.2)) := q_callV (n := 1) (as := [vI a0]) (rest := []) dX8_ofStone_53 rfl rfl rfl rfl h
theorem eX8_ofStone_56 {a : Option Nat} {w : Int} {l0 l1 l2 l4 : Option VV} {S : MM} : rn xX8_ofStone (56, [l0, l1, l2, some (vI w), l4], [.inr (.inl a)], S) = rn xX8_ofStone (58, [l0, l1, l2, some (vI w), some (.inr (.inl a))], [], S) := rn_step dX8_ofStone_56 rfl rfl
theorem eX8_ofStone_58 {a : Int} {l0 l1 l2 l4 : Option VV} {S : MM} : rn xX8_ofStone (58, [l0, l1, l2, some (vI a), l4], [], S) = rn xX8_ofStone (59, [l0, l1, l2, some (vI a), l4], [vI a], S) := rn_step dX8_ofStone_58 rfl rfl
theorem eX8_ofStone_59 {a : Int} {l0 l1 l2 l3 l4 : Option VV} (h : -2147483648 ≤ a ∧ a ≤ 2147483647) {S : MM} : rn xX8_ofStone (59, [l0, l1, l2, l3, l4], [vI a], S) = if a = 0 then rn xX8_ofStone (62, [l0, l1, l2, l3, l4], [], S) else rn xX8_ofStone (71, [l0, l1, l2, l3, l4], [], S) := q_if_ne dX8_ofStone_59 (by decide) rfl h
theorem eX8_ofStone_62 {a : Option Nat} {l0 l1 l2 l3 : Option VV} {S : MM} : rn xX8_ofStone (62, [l0, l1, l2, l3, some (.inr (.inl a))], [], S) = rn xX8_ofStone (64, [l0, l1, l2, l3, some (.inr (.inl a))], [.inr (.inl a)], S) := rn_step dX8_ofStone_62 rfl rfl
theorem eX8_ofStone_64 {a : Int} {l0 l1 l3 l4 : Option VV} {v0 : VV} {S : MM} : rn xX8_ofStone (64, [l0, l1, some (vI a), l3, l4], [v0], S) = rn xX8_ofStone (65, [l0, l1, some (vI a), l3, l4], [vI a, v0], S) := rn_step dX8_ofStone_64 rfl rfl
theorem eX8_ofStone_65 {a0 : Int} {i : Nat} {l0 l1 l2 l3 l4 : Option VV} (h : kd i = 3) {S : MM} : rn xX8_ofStone (65, [l0, l1, l2, l3, l4], [vI a0, vR i], S) = (fX3_keyAt [vR i, vI a0] S).bind (fun q => rn xX8_ofStone (68, [l0, l1, l2, l3, l4], q.1.toList ++ [], q.2)) := q_callV (n := 1) (as := [vI a0]) (rest := []) dX8_ofStone_65 rfl rfl rfl rfl h
theorem eX8_ofStone_68 {l0 l1 l2 l3 l4 : Option VV} {v0 : VV} {S : MM} : rn xX8_ofStone (68, [l0, l1, l2, l3, l4], [v0], S) = rn xX8_ofStone (77, [l0, l1, l2, l3, l4], [v0], S) := rn_step dX8_ofStone_68 rfl rfl
theorem eX8_ofStone_71 {a : Option Nat} {l0 l1 l2 l3 : Option VV} {S : MM} : rn xX8_ofStone (71, [l0, l1, l2, l3, some (.inr (.inl a))], [], S) = rn xX8_ofStone (73, [l0, l1, l2, l3, some (.inr (.inl a))], [.inr (.inl a)], S) := rn_step dX8_ofStone_71 rfl rfl
theorem eX8_ofStone_73 {a : Int} {l0 l1 l3 l4 : Option VV} {v0 : VV} {S : MM} : rn xX8_ofStone (73, [l0, l1, some (vI a), l3, l4], [v0], S) = rn xX8_ofStone (74, [l0, l1, some (vI a), l3, l4], [vI a, v0], S) := rn_step dX8_ofStone_73 rfl rfl
theorem eX8_ofStone_74 {a0 : Int} {i : Nat} {l0 l1 l2 l3 l4 : Option VV} (h : kd i = 3) {S : MM} : rn xX8_ofStone (74, [l0, l1, l2, l3, l4], [vI a0, vR i], S) = (fX3_repeatsAt [vR i, vI a0] S).bind (fun q => rn xX8_ofStone (77, [l0, l1, l2, l3, l4], q.1.toList ++ [], q.2)) := q_callV (n := 1) (as := [vI a0]) (rest := []) dX8_ofStone_74 rfl rfl rfl rfl h
theorem eX8_ofStone_77 {z : Int} {l0 l1 l2 l3 l4 : Option VV} {S : MM} : rn xX8_ofStone (77, [l0, l1, l2, l3, l4], [vI z], S) = some (some (vI z), S) := q_retI dX8_ofStone_77 rfl
noncomputable def qlX8_ofRun : List CE := [(1, 57, 0, 3, fX8_isBetween), (0, 149, 0, 2, fX0_figure)]
noncomputable def xX8_ofRun : XX := (cX8_ofRun, fcF fcl8, mcF qlX8_ofRun, 1)
noncomputable def fX8_ofRun : FN := fnX xX8_ofRun 2
set_option maxRecDepth 100000 in
theorem cwX8_ofRun : Cond.code yX8_ofRun cX8_ofRun 2 (some .int) ∈ lw_g := lw_gm 501 (by decide +kernel) (by decide +kernel)
set_option maxRecDepth 100000 in
theorem conX8_ofRun : Con yX8_ofRun cX8_ofRun 2 (some .int) { frames := 4, cells := 0, slots := 0, locals := 86 } fX8_ofRun := con_of (X := xX8_ofRun) (own := "LeapStones") (ql := qlX8_ofRun) (by decide) rfl FOK8 rfl (List.forall_mem_cons.mpr ⟨call_S conX8_isBetween cwX8_isBetween (lw_gl _ [250, 251, 21] (by decide +kernel) (by decide +kernel)) ⟨by decide, by decide, by decide +kernel⟩ ⟨rfl, rfl⟩ ⟨by decide, by decide⟩ ⟨Nat.le_refl _, Nat.le_refl _⟩, List.forall_mem_cons.mpr ⟨call_V conX0_figure cwX0_figure (lw_gl _ [502, 503, 504, 28] (by decide +kernel) (by decide +kernel)) (by decide) rfl ⟨by decide, by decide, by decide +kernel⟩ ⟨rfl, rfl⟩ ⟨by decide, by decide⟩ ⟨Nat.le_refl _, Nat.le_refl _⟩, fun _ h => absurd h List.not_mem_nil⟩⟩) (Or.inr (Or.inl ⟨rfl, rfl⟩))
theorem uX8_ofRun {i : Nat} {a0 : Int} {S : MM} : fX8_ofRun [vR i, vI a0] S = rn xX8_ofRun (0, [some (vR i), some (vI a0)], [], S) := rfl
theorem dX8_ofRun_0 : decode cX8_ofRun 0 = .ok (.iload_n 1, 1) := by decide +kernel
theorem dX8_ofRun_1 : decode cX8_ofRun 1 = .ok (.iconst 0, 1) := by decide +kernel
theorem dX8_ofRun_2 : decode cX8_ofRun 2 = .ok (.bipush 7, 2) := by decide +kernel
theorem dX8_ofRun_4 : decode cX8_ofRun 4 = .ok (.invokestatic 57, 3) := by decide +kernel
theorem dX8_ofRun_7 : decode cX8_ofRun 7 = .ok (.ifCond .eq 17, 3) := by decide +kernel
theorem dX8_ofRun_10 : decode cX8_ofRun 10 = .ok (.aload_n 0, 1) := by decide +kernel
theorem dX8_ofRun_11 : decode cX8_ofRun 11 = .ok (.getfield 12, 3) := by decide +kernel
theorem dX8_ofRun_14 : decode cX8_ofRun 14 = .ok (.getfield 95, 3) := by decide +kernel
theorem dX8_ofRun_17 : decode cX8_ofRun 17 = .ok (.iload_n 1, 1) := by decide +kernel
theorem dX8_ofRun_18 : decode cX8_ofRun 18 = .ok (.invokevirtual 149, 3) := by decide +kernel
theorem dX8_ofRun_21 : decode cX8_ofRun 21 = .ok (.goto 5, 3) := by decide +kernel
theorem dX8_ofRun_24 : decode cX8_ofRun 24 = .ok (.bipush (-2), 2) := by decide +kernel
theorem dX8_ofRun_26 : decode cX8_ofRun 26 = .ok (.ireturn, 1) := by decide +kernel
theorem eX8_ofRun_0 {a : Int} {l0 : Option VV} {S : MM} : rn xX8_ofRun (0, [l0, some (vI a)], [], S) = rn xX8_ofRun (1, [l0, some (vI a)], [vI a], S) := rn_step dX8_ofRun_0 rfl rfl
theorem eX8_ofRun_1 {l0 l1 : Option VV} {v0 : VV} {S : MM} : rn xX8_ofRun (1, [l0, l1], [v0], S) = rn xX8_ofRun (2, [l0, l1], [vI 0, v0], S) := rn_step dX8_ofRun_1 rfl rfl
theorem eX8_ofRun_2 {l0 l1 : Option VV} {v0 v1 : VV} {S : MM} : rn xX8_ofRun (2, [l0, l1], [v0, v1], S) = rn xX8_ofRun (4, [l0, l1], [vI 7, v0, v1], S) := rn_step dX8_ofRun_2 rfl rfl
theorem eX8_ofRun_4 {a0 : Int} {a1 : Int} {a2 : Int} {l0 l1 : Option VV} {S : MM} : rn xX8_ofRun (4, [l0, l1], [vI a2, vI a1, vI a0], S) = (fX8_isBetween [vI a0, vI a1, vI a2] S).bind (fun q => rn xX8_ofRun (7, [l0, l1], q.1.toList ++ [], q.2)) := q_callS (n := 3) (as := [vI a0, vI a1, vI a2]) (rest := []) dX8_ofRun_4 rfl rfl rfl rfl
theorem eX8_ofRun_7 {a : Int} {l0 l1 : Option VV} (h : -2147483648 ≤ a ∧ a ≤ 2147483647) {S : MM} : rn xX8_ofRun (7, [l0, l1], [vI a], S) = if a = 0 then rn xX8_ofRun (24, [l0, l1], [], S) else rn xX8_ofRun (10, [l0, l1], [], S) := q_if_eq dX8_ofRun_7 (by decide) rfl h
theorem eX8_ofRun_10 {a : Option Nat} {l1 : Option VV} {S : MM} : rn xX8_ofRun (10, [some (.inr (.inl a)), l1], [], S) = rn xX8_ofRun (11, [some (.inr (.inl a)), l1], [.inr (.inl a)], S) := rn_step dX8_ofRun_10 rfl rfl
theorem eX8_ofRun_11 {l0 l1 : Option VV} {S : MM} : rn xX8_ofRun (11, [l0, l1], [vR 0], S) = rn xX8_ofRun (14, [l0, l1], [vR 1], S) := q_getR dX8_ofRun_11 rfl ⟨⟨by decide, by decide⟩, by decide⟩ (fun _ => by decide +kernel) kd0
theorem eX8_ofRun_14 {i : Nat} {l0 l1 : Option VV} (h : kd i = 6) {S : MM} : rn xX8_ofRun (14, [l0, l1], [vR i], S) = rn xX8_ofRun (17, [l0, l1], [vR (i + 56)], S) := q_getR dX8_ofRun_14 rfl ⟨⟨by decide, by decide⟩, by decide⟩ (fun h => (fref6 h).trans (by first | rfl | omega)) h
theorem eX8_ofRun_17 {a : Int} {l0 : Option VV} {v0 : VV} {S : MM} : rn xX8_ofRun (17, [l0, some (vI a)], [v0], S) = rn xX8_ofRun (18, [l0, some (vI a)], [vI a, v0], S) := rn_step dX8_ofRun_17 rfl rfl
theorem eX8_ofRun_18 {a0 : Int} {i : Nat} {l0 l1 : Option VV} (h : kd i = 0) {S : MM} : rn xX8_ofRun (18, [l0, l1], [vI a0, vR i], S) = (fX0_figure [vR i, vI a0] S).bind (fun q => rn xX8_ofRun (21, [l0, l1], q.1.toList ++ [], q.2)) := q_callV (n := 1) (as := [vI a0]) (rest := []) dX8_ofRun_18 rfl rfl rfl rfl h
theorem eX8_ofRun_21 {l0 l1 : Option VV} {v0 : VV} {S : MM} : rn xX8_ofRun (21, [l0, l1], [v0], S) = rn xX8_ofRun (26, [l0, l1], [v0], S) := rn_step dX8_ofRun_21 rfl rfl
theorem eX8_ofRun_24 {l0 l1 : Option VV} {S : MM} : rn xX8_ofRun (24, [l0, l1], [], S) = rn xX8_ofRun (26, [l0, l1], [vI (-2)], S) := rn_step dX8_ofRun_24 rfl rfl
theorem eX8_ofRun_26 {z : Int} {l0 l1 : Option VV} {S : MM} : rn xX8_ofRun (26, [l0, l1], [vI z], S) = some (some (vI z), S) := q_retI dX8_ofRun_26 rfl
noncomputable def qlX8_meeting : List CE := [(0, 152, 0, 1, fX0_meetings), (1, 57, 0, 3, fX8_isBetween), (0, 155, 0, 2, fX0_keyOfMeeting), (0, 158, 0, 2, fX0_rowsOfMeeting)]
noncomputable def xX8_meeting : XX := (cX8_meeting, fcF fcl8, mcF qlX8_meeting, 1)
noncomputable def fX8_meeting : FN := fnX xX8_meeting 3
set_option maxRecDepth 100000 in
theorem cwX8_meeting : Cond.code yX8_meeting cX8_meeting 3 (some .int) ∈ lw_g := lw_gm 656 (by decide +kernel) (by decide +kernel)
set_option maxRecDepth 100000 in
theorem conX8_meeting : Con yX8_meeting cX8_meeting 3 (some .int) { frames := 2, cells := 0, slots := 0, locals := 43 } fX8_meeting := con_of (X := xX8_meeting) (own := "LeapStones") (ql := qlX8_meeting) (by decide) rfl FOK8 rfl (List.forall_mem_cons.mpr ⟨call_V conX0_meetings cwX0_meetings (lw_gl _ [657, 658, 659, 28] (by decide +kernel) (by decide +kernel)) (by decide) rfl ⟨by decide, by decide, by decide +kernel⟩ ⟨rfl, rfl⟩ ⟨by decide, by decide⟩ ⟨Nat.le_refl _, Nat.le_refl _⟩, List.forall_mem_cons.mpr ⟨call_S conX8_isBetween cwX8_isBetween (lw_gl _ [250, 251, 21] (by decide +kernel) (by decide +kernel)) ⟨by decide, by decide, by decide +kernel⟩ ⟨rfl, rfl⟩ ⟨by decide, by decide⟩ ⟨Nat.le_refl _, Nat.le_refl _⟩, List.forall_mem_cons.mpr ⟨call_V conX0_keyOfMeeting cwX0_keyOfMeeting (lw_gl _ [661, 662, 663, 28] (by decide +kernel) (by decide +kernel)) (by decide) rfl ⟨by decide, by decide, by decide +kernel⟩ ⟨rfl, rfl⟩ ⟨by decide, by decide⟩ ⟨Nat.le_refl _, Nat.le_refl _⟩, List.forall_mem_cons.mpr ⟨call_V conX0_rowsOfMeeting cwX0_rowsOfMeeting (lw_gl _ [665, 511, 512, 28] (by decide +kernel) (by decide +kernel)) (by decide) rfl ⟨by decide, by decide, by decide +kernel⟩ ⟨rfl, rfl⟩ ⟨by decide, by decide⟩ ⟨Nat.le_refl _, Nat.le_refl _⟩, fun _ h => absurd h List.not_mem_nil⟩⟩⟩⟩) (Or.inr (Or.inl ⟨rfl, rfl⟩))
theorem uX8_meeting {i : Nat} {a0 : Int} {a1 : Int} {S : MM} : fX8_meeting [vR i, vI a0, vI a1] S = rn xX8_meeting (0, [some (vR i), some (vI a0), some (vI a1)], [], S) := rfl
theorem dX8_meeting_0 : decode cX8_meeting 0 = .ok (.iload_n 1, 1) := by decide +kernel
theorem dX8_meeting_1 : decode cX8_meeting 1 = .ok (.iconst 0, 1) := by decide +kernel
theorem dX8_meeting_2 : decode cX8_meeting 2 = .ok (.aload_n 0, 1) := by decide +kernel
theorem dX8_meeting_3 : decode cX8_meeting 3 = .ok (.getfield 12, 3) := by decide +kernel
theorem dX8_meeting_6 : decode cX8_meeting 6 = .ok (.getfield 95, 3) := by decide +kernel
theorem dX8_meeting_9 : decode cX8_meeting 9 = .ok (.invokevirtual 152, 3) := by decide +kernel
theorem dX8_meeting_12 : decode cX8_meeting 12 = .ok (.iconst 1, 1) := by decide +kernel
theorem dX8_meeting_13 : decode cX8_meeting 13 = .ok (.isub, 1) := by decide +kernel
theorem dX8_meeting_14 : decode cX8_meeting 14 = .ok (.invokestatic 57, 3) := by decide +kernel
theorem dX8_meeting_17 : decode cX8_meeting 17 = .ok (.ifCond .ne 5, 3) := by decide +kernel
theorem dX8_meeting_20 : decode cX8_meeting 20 = .ok (.iconst (-1), 1) := by decide +kernel
theorem dX8_meeting_21 : decode cX8_meeting 21 = .ok (.ireturn, 1) := by decide +kernel
theorem dX8_meeting_22 : decode cX8_meeting 22 = .ok (.iload_n 2, 1) := by decide +kernel
theorem dX8_meeting_23 : decode cX8_meeting 23 = .ok (.iconst 0, 1) := by decide +kernel
theorem dX8_meeting_24 : decode cX8_meeting 24 = .ok (.iconst 1, 1) := by decide +kernel
theorem dX8_meeting_25 : decode cX8_meeting 25 = .ok (.invokestatic 57, 3) := by decide +kernel
theorem dX8_meeting_28 : decode cX8_meeting 28 = .ok (.ifCond .ne 6, 3) := by decide +kernel
theorem dX8_meeting_31 : decode cX8_meeting 31 = .ok (.bipush (-2), 2) := by decide +kernel
theorem dX8_meeting_33 : decode cX8_meeting 33 = .ok (.ireturn, 1) := by decide +kernel
theorem dX8_meeting_34 : decode cX8_meeting 34 = .ok (.iload_n 2, 1) := by decide +kernel
theorem dX8_meeting_35 : decode cX8_meeting 35 = .ok (.ifCond .ne 17, 3) := by decide +kernel
theorem dX8_meeting_38 : decode cX8_meeting 38 = .ok (.aload_n 0, 1) := by decide +kernel
theorem dX8_meeting_39 : decode cX8_meeting 39 = .ok (.getfield 12, 3) := by decide +kernel
theorem dX8_meeting_42 : decode cX8_meeting 42 = .ok (.getfield 95, 3) := by decide +kernel
theorem dX8_meeting_45 : decode cX8_meeting 45 = .ok (.iload_n 1, 1) := by decide +kernel
theorem dX8_meeting_46 : decode cX8_meeting 46 = .ok (.invokevirtual 155, 3) := by decide +kernel
theorem dX8_meeting_49 : decode cX8_meeting 49 = .ok (.goto 14, 3) := by decide +kernel
theorem dX8_meeting_52 : decode cX8_meeting 52 = .ok (.aload_n 0, 1) := by decide +kernel
theorem dX8_meeting_53 : decode cX8_meeting 53 = .ok (.getfield 12, 3) := by decide +kernel
theorem dX8_meeting_56 : decode cX8_meeting 56 = .ok (.getfield 95, 3) := by decide +kernel
theorem dX8_meeting_59 : decode cX8_meeting 59 = .ok (.iload_n 1, 1) := by decide +kernel
theorem dX8_meeting_60 : decode cX8_meeting 60 = .ok (.invokevirtual 158, 3) := by decide +kernel
theorem dX8_meeting_63 : decode cX8_meeting 63 = .ok (.ireturn, 1) := by decide +kernel
theorem eX8_meeting_0 {a : Int} {l0 l2 : Option VV} {S : MM} : rn xX8_meeting (0, [l0, some (vI a), l2], [], S) = rn xX8_meeting (1, [l0, some (vI a), l2], [vI a], S) := rn_step dX8_meeting_0 rfl rfl
theorem eX8_meeting_1 {l0 l1 l2 : Option VV} {v0 : VV} {S : MM} : rn xX8_meeting (1, [l0, l1, l2], [v0], S) = rn xX8_meeting (2, [l0, l1, l2], [vI 0, v0], S) := rn_step dX8_meeting_1 rfl rfl
theorem eX8_meeting_2 {a : Option Nat} {l1 l2 : Option VV} {v0 v1 : VV} {S : MM} : rn xX8_meeting (2, [some (.inr (.inl a)), l1, l2], [v0, v1], S) = rn xX8_meeting (3, [some (.inr (.inl a)), l1, l2], [.inr (.inl a), v0, v1], S) := rn_step dX8_meeting_2 rfl rfl
theorem eX8_meeting_3 {l0 l1 l2 : Option VV} {v1 v2 : VV} {S : MM} : rn xX8_meeting (3, [l0, l1, l2], [vR 0, v1, v2], S) = rn xX8_meeting (6, [l0, l1, l2], [vR 1, v1, v2], S) := q_getR dX8_meeting_3 rfl ⟨⟨by decide, by decide⟩, by decide⟩ (fun _ => by decide +kernel) kd0
theorem eX8_meeting_6 {i : Nat} {l0 l1 l2 : Option VV} {v1 v2 : VV} (h : kd i = 6) {S : MM} : rn xX8_meeting (6, [l0, l1, l2], [vR i, v1, v2], S) = rn xX8_meeting (9, [l0, l1, l2], [vR (i + 56), v1, v2], S) := q_getR dX8_meeting_6 rfl ⟨⟨by decide, by decide⟩, by decide⟩ (fun h => (fref6 h).trans (by first | rfl | omega)) h
theorem eX8_meeting_9 {i : Nat} {l0 l1 l2 : Option VV} {v1 v2 : VV} (h : kd i = 0) {S : MM} : rn xX8_meeting (9, [l0, l1, l2], [vR i, v1, v2], S) = (fX0_meetings [vR i] S).bind (fun q => rn xX8_meeting (12, [l0, l1, l2], q.1.toList ++ [v1, v2], q.2)) := q_callV (n := 0) (as := []) (rest := [v1, v2]) dX8_meeting_9 rfl rfl rfl rfl h
theorem eX8_meeting_12 {l0 l1 l2 : Option VV} {v0 v1 v2 : VV} {S : MM} : rn xX8_meeting (12, [l0, l1, l2], [v0, v1, v2], S) = rn xX8_meeting (13, [l0, l1, l2], [vI 1, v0, v1, v2], S) := rn_step dX8_meeting_12 rfl rfl
theorem eX8_meeting_13 {a b : Int} {l0 l1 l2 : Option VV} {v2 v3 : VV} {S : MM} : rn xX8_meeting (13, [l0, l1, l2], [vI b, vI a, v2, v3], S) = rn xX8_meeting (14, [l0, l1, l2], [vI (a - b), v2, v3], S) := rn_step dX8_meeting_13 rfl rfl
theorem eX8_meeting_14 {a0 : Int} {a1 : Int} {a2 : Int} {l0 l1 l2 : Option VV} {S : MM} : rn xX8_meeting (14, [l0, l1, l2], [vI a2, vI a1, vI a0], S) = (fX8_isBetween [vI a0, vI a1, vI a2] S).bind (fun q => rn xX8_meeting (17, [l0, l1, l2], q.1.toList ++ [], q.2)) := q_callS (n := 3) (as := [vI a0, vI a1, vI a2]) (rest := []) dX8_meeting_14 rfl rfl rfl rfl
theorem eX8_meeting_17 {a : Int} {l0 l1 l2 : Option VV} (h : -2147483648 ≤ a ∧ a ≤ 2147483647) {S : MM} : rn xX8_meeting (17, [l0, l1, l2], [vI a], S) = if a = 0 then rn xX8_meeting (20, [l0, l1, l2], [], S) else rn xX8_meeting (22, [l0, l1, l2], [], S) := q_if_ne dX8_meeting_17 (by decide) rfl h
theorem eX8_meeting_20 {l0 l1 l2 : Option VV} {S : MM} : rn xX8_meeting (20, [l0, l1, l2], [], S) = rn xX8_meeting (21, [l0, l1, l2], [vI (-1)], S) := rn_step dX8_meeting_20 rfl rfl
theorem eX8_meeting_21 {z : Int} {l0 l1 l2 : Option VV} {S : MM} : rn xX8_meeting (21, [l0, l1, l2], [vI z], S) = some (some (vI z), S) := q_retI dX8_meeting_21 rfl
theorem eX8_meeting_22 {a : Int} {l0 l1 : Option VV} {S : MM} : rn xX8_meeting (22, [l0, l1, some (vI a)], [], S) = rn xX8_meeting (23, [l0, l1, some (vI a)], [vI a], S) := rn_step dX8_meeting_22 rfl rfl
theorem eX8_meeting_23 {l0 l1 l2 : Option VV} {v0 : VV} {S : MM} : rn xX8_meeting (23, [l0, l1, l2], [v0], S) = rn xX8_meeting (24, [l0, l1, l2], [vI 0, v0], S) := rn_step dX8_meeting_23 rfl rfl
theorem eX8_meeting_24 {l0 l1 l2 : Option VV} {v0 v1 : VV} {S : MM} : rn xX8_meeting (24, [l0, l1, l2], [v0, v1], S) = rn xX8_meeting (25, [l0, l1, l2], [vI 1, v0, v1], S) := rn_step dX8_meeting_24 rfl rfl
theorem eX8_meeting_25 {a0 : Int} {a1 : Int} {a2 : Int} {l0 l1 l2 : Option VV} {S : MM} : rn xX8_meeting (25, [l0, l1, l2], [vI a2, vI a1, vI a0], S) = (fX8_isBetween [vI a0, vI a1, vI a2] S).bind (fun q => rn xX8_meeting (28, [l0, l1, l2], q.1.toList ++ [], q.2)) := q_callS (n := 3) (as := [vI a0, vI a1, vI a2]) (rest := []) dX8_meeting_25 rfl rfl rfl rfl
theorem eX8_meeting_28 {a : Int} {l0 l1 l2 : Option VV} (h : -2147483648 ≤ a ∧ a ≤ 2147483647) {S : MM} : rn xX8_meeting (28, [l0, l1, l2], [vI a], S) = if a = 0 then rn xX8_meeting (31, [l0, l1, l2], [], S) else rn xX8_meeting (34, [l0, l1, l2], [], S) := q_if_ne dX8_meeting_28 (by decide) rfl h
theorem eX8_meeting_31 {l0 l1 l2 : Option VV} {S : MM} : rn xX8_meeting (31, [l0, l1, l2], [], S) = rn xX8_meeting (33, [l0, l1, l2], [vI (-2)], S) := rn_step dX8_meeting_31 rfl rfl
theorem eX8_meeting_33 {z : Int} {l0 l1 l2 : Option VV} {S : MM} : rn xX8_meeting (33, [l0, l1, l2], [vI z], S) = some (some (vI z), S) := q_retI dX8_meeting_33 rfl
theorem eX8_meeting_34 {a : Int} {l0 l1 : Option VV} {S : MM} : rn xX8_meeting (34, [l0, l1, some (vI a)], [], S) = rn xX8_meeting (35, [l0, l1, some (vI a)], [vI a], S) := rn_step dX8_meeting_34 rfl rfl
theorem eX8_meeting_35 {a : Int} {l0 l1 l2 : Option VV} (h : -2147483648 ≤ a ∧ a ≤ 2147483647) {S : MM} : rn xX8_meeting (35, [l0, l1, l2], [vI a], S) = if a = 0 then rn xX8_meeting (38, [l0, l1, l2], [], S) else rn xX8_meeting (52, [l0, l1, l2], [], S) := q_if_ne dX8_meeting_35 (by decide) rfl h
theorem eX8_meeting_38 {a : Option Nat} {l1 l2 : Option VV} {S : MM} : rn xX8_meeting (38, [some (.inr (.inl a)), l1, l2], [], S) = rn xX8_meeting (39, [some (.inr (.inl a)), l1, l2], [.inr (.inl a)], S) := rn_step dX8_meeting_38 rfl rfl
theorem eX8_meeting_39 {l0 l1 l2 : Option VV} {S : MM} : rn xX8_meeting (39, [l0, l1, l2], [vR 0], S) = rn xX8_meeting (42, [l0, l1, l2], [vR 1], S) := q_getR dX8_meeting_39 rfl ⟨⟨by decide, by decide⟩, by decide⟩ (fun _ => by decide +kernel) kd0
theorem eX8_meeting_42 {i : Nat} {l0 l1 l2 : Option VV} (h : kd i = 6) {S : MM} : rn xX8_meeting (42, [l0, l1, l2], [vR i], S) = rn xX8_meeting (45, [l0, l1, l2], [vR (i + 56)], S) := q_getR dX8_meeting_42 rfl ⟨⟨by decide, by decide⟩, by decide⟩ (fun h => (fref6 h).trans (by first | rfl | omega)) h
theorem eX8_meeting_45 {a : Int} {l0 l2 : Option VV} {v0 : VV} {S : MM} : rn xX8_meeting (45, [l0, some (vI a), l2], [v0], S) = rn xX8_meeting (46, [l0, some (vI a), l2], [vI a, v0], S) := rn_step dX8_meeting_45 rfl rfl
theorem eX8_meeting_46 {a0 : Int} {i : Nat} {l0 l1 l2 : Option VV} (h : kd i = 0) {S : MM} : rn xX8_meeting (46, [l0, l1, l2], [vI a0, vR i], S) = (fX0_keyOfMeeting [vR i, vI a0] S).bind (fun q => rn xX8_meeting (49, [l0, l1, l2], q.1.toList ++ [], q.2)) := q_callV (n := 1) (as := [vI a0]) (rest := []) dX8_meeting_46 rfl rfl rfl rfl h
theorem eX8_meeting_49 {l0 l1 l2 : Option VV} {v0 : VV} {S : MM} : rn xX8_meeting (49, [l0, l1, l2], [v0], S) = rn xX8_meeting (63, [l0, l1, l2], [v0], S) := rn_step dX8_meeting_49 rfl rfl
theorem eX8_meeting_52 {a : Option Nat} {l1 l2 : Option VV} {S : MM} : rn xX8_meeting (52, [some (.inr (.inl a)), l1, l2], [], S) = rn xX8_meeting (53, [some (.inr (.inl a)), l1, l2], [.inr (.inl a)], S) := rn_step dX8_meeting_52 rfl rfl
theorem eX8_meeting_53 {l0 l1 l2 : Option VV} {S : MM} : rn xX8_meeting (53, [l0, l1, l2], [vR 0], S) = rn xX8_meeting (56, [l0, l1, l2], [vR 1], S) := q_getR dX8_meeting_53 rfl ⟨⟨by decide, by decide⟩, by decide⟩ (fun _ => by decide +kernel) kd0
theorem eX8_meeting_56 {i : Nat} {l0 l1 l2 : Option VV} (h : kd i = 6) {S : MM} : rn xX8_meeting (56, [l0, l1, l2], [vR i], S) = rn xX8_meeting (59, [l0, l1, l2], [vR (i + 56)], S) := q_getR dX8_meeting_56 rfl ⟨⟨by decide, by decide⟩, by decide⟩ (fun h => (fref6 h).trans (by first | rfl | omega)) h
theorem eX8_meeting_59 {a : Int} {l0 l2 : Option VV} {v0 : VV} {S : MM} : rn xX8_meeting (59, [l0, some (vI a), l2], [v0], S) = rn xX8_meeting (60, [l0, some (vI a), l2], [vI a, v0], S) := rn_step dX8_meeting_59 rfl rfl
theorem eX8_meeting_60 {a0 : Int} {i : Nat} {l0 l1 l2 : Option VV} (h : kd i = 0) {S : MM} : rn xX8_meeting (60, [l0, l1, l2], [vI a0, vR i], S) = (fX0_rowsOfMeeting [vR i, vI a0] S).bind (fun q => rn xX8_meeting (63, [l0, l1, l2], q.1.toList ++ [], q.2)) := q_callV (n := 1) (as := [vI a0]) (rest := []) dX8_meeting_60 rfl rfl rfl rfl h
theorem eX8_meeting_63 {z : Int} {l0 l1 l2 : Option VV} {S : MM} : rn xX8_meeting (63, [l0, l1, l2], [vI z], S) = some (some (vI z), S) := q_retI dX8_meeting_63 rfl
noncomputable def qlX8_count : List CE := [(0, 161, 5, 1, fX5_stones), (0, 168, 1, 1, fX1_kept), (0, 173, 7, 2, fX7_valueOf), (0, 176, 2, 1, fX2_length), (0, 179, 4, 1, fX4_kept)]
noncomputable def xX8_count : XX := (cX8_count, fcF fcl8, mcF qlX8_count, 1)
noncomputable def fX8_count : FN := fnX xX8_count 2
set_option maxRecDepth 100000 in
theorem cwX8_count : Cond.code yX8_count cX8_count 2 (some .int) ∈ lw_g := lw_gm 521 (by decide +kernel) (by decide +kernel)
set_option maxRecDepth 100000 in
theorem conX8_count : Con yX8_count cX8_count 2 (some .int) { frames := 2, cells := 0, slots := 0, locals := 43 } fX8_count := con_of (X := xX8_count) (own := "LeapStones") (ql := qlX8_count) (by decide) rfl FOK8 rfl (List.forall_mem_cons.mpr ⟨call_V conX5_stones cwX5_stones (lw_gl _ [522, 491, 492, 24] (by decide +kernel) (by decide +kernel)) (by decide) rfl ⟨by decide, by decide, by decide +kernel⟩ ⟨rfl, rfl⟩ ⟨by decide, by decide⟩ ⟨Nat.le_refl _, Nat.le_refl _⟩, List.forall_mem_cons.mpr ⟨call_V conX1_kept cwX1_kept (lw_gl _ [523, 524, 525, 26] (by decide +kernel) (by decide +kernel)) (by decide) rfl ⟨by decide, by decide, by decide +kernel⟩ ⟨rfl, rfl⟩ ⟨by decide, by decide⟩ ⟨Nat.le_refl _, Nat.le_refl _⟩, List.forall_mem_cons.mpr ⟨call_V conX7_valueOf cwX7_valueOf (lw_gl _ [531, 315, 316, 23] (by decide +kernel) (by decide +kernel)) (by decide) rfl ⟨by decide, by decide, by decide +kernel⟩ ⟨rfl, rfl⟩ ⟨by decide, by decide⟩ ⟨Nat.le_refl _, Nat.le_refl _⟩, List.forall_mem_cons.mpr ⟨call_V conX2_length cwX2_length (lw_gl _ [532, 533, 534, 29] (by decide +kernel) (by decide +kernel)) (by decide) rfl ⟨by decide, by decide, by decide +kernel⟩ ⟨rfl, rfl⟩ ⟨by decide, by decide⟩ ⟨Nat.le_refl _, Nat.le_refl _⟩, List.forall_mem_cons.mpr ⟨call_V conX4_kept cwX4_kept (lw_gl _ [536, 528, 529, 27] (by decide +kernel) (by decide +kernel)) (by decide) rfl ⟨by decide, by decide, by decide +kernel⟩ ⟨rfl, rfl⟩ ⟨by decide, by decide⟩ ⟨Nat.le_refl _, Nat.le_refl _⟩, fun _ h => absurd h List.not_mem_nil⟩⟩⟩⟩⟩) (Or.inr (Or.inl ⟨rfl, rfl⟩))
theorem uX8_count {i : Nat} {a0 : Int} {S : MM} : fX8_count [vR i, vI a0] S = rn xX8_count (0, [some (vR i), some (vI a0)], [], S) := rfl
theorem dX8_count_0 : decode cX8_count 0 = .ok (.iload_n 1, 1) := by decide +kernel
theorem dX8_count_1 : decode cX8_count 1 = .ok (.tableswitch 99 0 7 #[47, 58, 69, 69, 69, 69, 83, 91], 47) := by decide +kernel
theorem dX8_count_48 : decode cX8_count 48 = .ok (.aload_n 0, 1) := by decide +kernel
theorem dX8_count_49 : decode cX8_count 49 = .ok (.getfield 12, 3) := by decide +kernel
theorem dX8_count_52 : decode cX8_count 52 = .ok (.getfield 105, 3) := by decide +kernel
theorem dX8_count_55 : decode cX8_count 55 = .ok (.invokevirtual 161, 3) := by decide +kernel
theorem dX8_count_58 : decode cX8_count 58 = .ok (.ireturn, 1) := by decide +kernel
theorem dX8_count_59 : decode cX8_count 59 = .ok (.aload_n 0, 1) := by decide +kernel
theorem dX8_count_60 : decode cX8_count 60 = .ok (.getfield 12, 3) := by decide +kernel
theorem dX8_count_63 : decode cX8_count 63 = .ok (.getfield 164, 3) := by decide +kernel
theorem dX8_count_66 : decode cX8_count 66 = .ok (.invokevirtual 168, 3) := by decide +kernel
theorem dX8_count_69 : decode cX8_count 69 = .ok (.ireturn, 1) := by decide +kernel
theorem dX8_count_70 : decode cX8_count 70 = .ok (.aload_n 0, 1) := by decide +kernel
theorem dX8_count_71 : decode cX8_count 71 = .ok (.getfield 12, 3) := by decide +kernel
theorem dX8_count_74 : decode cX8_count 74 = .ok (.getfield 109, 3) := by decide +kernel
theorem dX8_count_77 : decode cX8_count 77 = .ok (.iload_n 1, 1) := by decide +kernel
theorem dX8_count_78 : decode cX8_count 78 = .ok (.iconst 2, 1) := by decide +kernel
theorem dX8_count_79 : decode cX8_count 79 = .ok (.isub, 1) := by decide +kernel
theorem dX8_count_80 : decode cX8_count 80 = .ok (.invokevirtual 173, 3) := by decide +kernel
theorem dX8_count_83 : decode cX8_count 83 = .ok (.ireturn, 1) := by decide +kernel
theorem dX8_count_84 : decode cX8_count 84 = .ok (.aload_n 0, 1) := by decide +kernel
theorem dX8_count_85 : decode cX8_count 85 = .ok (.getfield 39, 3) := by decide +kernel
theorem dX8_count_88 : decode cX8_count 88 = .ok (.invokevirtual 176, 3) := by decide +kernel
theorem dX8_count_91 : decode cX8_count 91 = .ok (.ireturn, 1) := by decide +kernel
theorem dX8_count_92 : decode cX8_count 92 = .ok (.aload_n 0, 1) := by decide +kernel
theorem dX8_count_93 : decode cX8_count 93 = .ok (.getfield 25, 3) := by decide +kernel
theorem dX8_count_96 : decode cX8_count 96 = .ok (.invokevirtual 179, 3) := by decide +kernel
theorem dX8_count_99 : decode cX8_count 99 = .ok (.ireturn, 1) := by decide +kernel
theorem dX8_count_100 : decode cX8_count 100 = .ok (.bipush (-2), 2) := by decide +kernel
theorem dX8_count_102 : decode cX8_count 102 = .ok (.ireturn, 1) := by decide +kernel
theorem eX8_count_0 {a : Int} {l0 : Option VV} {S : MM} : rn xX8_count (0, [l0, some (vI a)], [], S) = rn xX8_count (1, [l0, some (vI a)], [vI a], S) := rn_step dX8_count_0 rfl rfl
theorem eX8_count_1 {a : Int} {l0 l1 : Option VV} (h : -2147483648 ≤ a ∧ a ≤ 2147483647) {S : MM} : rn xX8_count (1, [l0, l1], [vI a], S) = if a = 0 then rn xX8_count (48, [l0, l1], [], S) else if a = 1 then rn xX8_count (59, [l0, l1], [], S) else if a = 2 then rn xX8_count (70, [l0, l1], [], S) else if a = 3 then rn xX8_count (70, [l0, l1], [], S) else if a = 4 then rn xX8_count (70, [l0, l1], [], S) else if a = 5 then rn xX8_count (70, [l0, l1], [], S) else if a = 6 then rn xX8_count (84, [l0, l1], [], S) else if a = 7 then rn xX8_count (92, [l0, l1], [], S) else rn xX8_count (100, [l0, l1], [], S) := by
  by_cases c0 : a = 0
  · subst c0; rw [if_pos rfl]; exact q_tab (X := xX8_count) (pc := 1) (L := [l0, l1]) (st := []) (S := S) (x := 0) (t := 48) dX8_count_1 h (by decide) rfl (by decide) rfl
  rw [if_neg c0]
  by_cases c1 : a = 1
  · subst c1; rw [if_pos rfl]; exact q_tab (X := xX8_count) (pc := 1) (L := [l0, l1]) (st := []) (S := S) (x := 1) (t := 59) dX8_count_1 h (by decide) rfl (by decide) rfl
  rw [if_neg c1]
  by_cases c2 : a = 2
  · subst c2; rw [if_pos rfl]; exact q_tab (X := xX8_count) (pc := 1) (L := [l0, l1]) (st := []) (S := S) (x := 2) (t := 70) dX8_count_1 h (by decide) rfl (by decide) rfl
  rw [if_neg c2]
  by_cases c3 : a = 3
  · subst c3; rw [if_pos rfl]; exact q_tab (X := xX8_count) (pc := 1) (L := [l0, l1]) (st := []) (S := S) (x := 3) (t := 70) dX8_count_1 h (by decide) rfl (by decide) rfl
  rw [if_neg c3]
  by_cases c4 : a = 4
  · subst c4; rw [if_pos rfl]; exact q_tab (X := xX8_count) (pc := 1) (L := [l0, l1]) (st := []) (S := S) (x := 4) (t := 70) dX8_count_1 h (by decide) rfl (by decide) rfl
  rw [if_neg c4]
  by_cases c5 : a = 5
  · subst c5; rw [if_pos rfl]; exact q_tab (X := xX8_count) (pc := 1) (L := [l0, l1]) (st := []) (S := S) (x := 5) (t := 70) dX8_count_1 h (by decide) rfl (by decide) rfl
  rw [if_neg c5]
  by_cases c6 : a = 6
  · subst c6; rw [if_pos rfl]; exact q_tab (X := xX8_count) (pc := 1) (L := [l0, l1]) (st := []) (S := S) (x := 6) (t := 84) dX8_count_1 h (by decide) rfl (by decide) rfl
  rw [if_neg c6]
  by_cases c7 : a = 7
  · subst c7; rw [if_pos rfl]; exact q_tab (X := xX8_count) (pc := 1) (L := [l0, l1]) (st := []) (S := S) (x := 7) (t := 92) dX8_count_1 h (by decide) rfl (by decide) rfl
  rw [if_neg c7]
  exact q_tabD (X := xX8_count) (pc := 1) (L := [l0, l1]) (st := []) (S := S) (x := a) (t := 100) dX8_count_1 h (by omega) (by decide) rfl
theorem eX8_count_48 {a : Option Nat} {l1 : Option VV} {S : MM} : rn xX8_count (48, [some (.inr (.inl a)), l1], [], S) = rn xX8_count (49, [some (.inr (.inl a)), l1], [.inr (.inl a)], S) := rn_step dX8_count_48 rfl rfl
theorem eX8_count_49 {l0 l1 : Option VV} {S : MM} : rn xX8_count (49, [l0, l1], [vR 0], S) = rn xX8_count (52, [l0, l1], [vR 1], S) := q_getR dX8_count_49 rfl ⟨⟨by decide, by decide⟩, by decide⟩ (fun _ => by decide +kernel) kd0
theorem eX8_count_52 {i : Nat} {l0 l1 : Option VV} (h : kd i = 6) {S : MM} : rn xX8_count (52, [l0, l1], [vR i], S) = rn xX8_count (55, [l0, l1], [vR (i + 3)], S) := q_getR dX8_count_52 rfl ⟨⟨by decide, by decide⟩, by decide⟩ (fun h => (fref6 h).trans (by first | rfl | omega)) h
theorem eX8_count_55 {i : Nat} {l0 l1 : Option VV} (h : kd i = 5) {S : MM} : rn xX8_count (55, [l0, l1], [vR i], S) = (fX5_stones [vR i] S).bind (fun q => rn xX8_count (58, [l0, l1], q.1.toList ++ [], q.2)) := q_callV (n := 0) (as := []) (rest := []) dX8_count_55 rfl rfl rfl rfl h
theorem eX8_count_58 {z : Int} {l0 l1 : Option VV} {S : MM} : rn xX8_count (58, [l0, l1], [vI z], S) = some (some (vI z), S) := q_retI dX8_count_58 rfl
theorem eX8_count_59 {a : Option Nat} {l1 : Option VV} {S : MM} : rn xX8_count (59, [some (.inr (.inl a)), l1], [], S) = rn xX8_count (60, [some (.inr (.inl a)), l1], [.inr (.inl a)], S) := rn_step dX8_count_59 rfl rfl
theorem eX8_count_60 {l0 l1 : Option VV} {S : MM} : rn xX8_count (60, [l0, l1], [vR 0], S) = rn xX8_count (63, [l0, l1], [vR 1], S) := q_getR dX8_count_60 rfl ⟨⟨by decide, by decide⟩, by decide⟩ (fun _ => by decide +kernel) kd0
theorem eX8_count_63 {i : Nat} {l0 l1 : Option VV} (h : kd i = 6) {S : MM} : rn xX8_count (63, [l0, l1], [vR i], S) = rn xX8_count (66, [l0, l1], [vR (i + 13)], S) := q_getR dX8_count_63 rfl ⟨⟨by decide, by decide⟩, by decide⟩ (fun h => (fref6 h).trans (by first | rfl | omega)) h
theorem eX8_count_66 {i : Nat} {l0 l1 : Option VV} (h : kd i = 1) {S : MM} : rn xX8_count (66, [l0, l1], [vR i], S) = (fX1_kept [vR i] S).bind (fun q => rn xX8_count (69, [l0, l1], q.1.toList ++ [], q.2)) := q_callV (n := 0) (as := []) (rest := []) dX8_count_66 rfl rfl rfl rfl h
theorem eX8_count_69 {z : Int} {l0 l1 : Option VV} {S : MM} : rn xX8_count (69, [l0, l1], [vI z], S) = some (some (vI z), S) := q_retI dX8_count_69 rfl
theorem eX8_count_70 {a : Option Nat} {l1 : Option VV} {S : MM} : rn xX8_count (70, [some (.inr (.inl a)), l1], [], S) = rn xX8_count (71, [some (.inr (.inl a)), l1], [.inr (.inl a)], S) := rn_step dX8_count_70 rfl rfl
theorem eX8_count_71 {l0 l1 : Option VV} {S : MM} : rn xX8_count (71, [l0, l1], [vR 0], S) = rn xX8_count (74, [l0, l1], [vR 1], S) := q_getR dX8_count_71 rfl ⟨⟨by decide, by decide⟩, by decide⟩ (fun _ => by decide +kernel) kd0
theorem eX8_count_74 {i : Nat} {l0 l1 : Option VV} (h : kd i = 6) {S : MM} : rn xX8_count (74, [l0, l1], [vR i], S) = rn xX8_count (77, [l0, l1], [vR (i + 1)], S) := q_getR dX8_count_74 rfl ⟨⟨by decide, by decide⟩, by decide⟩ (fun h => (fref6 h).trans (by first | rfl | omega)) h
theorem eX8_count_77 {a : Int} {l0 : Option VV} {v0 : VV} {S : MM} : rn xX8_count (77, [l0, some (vI a)], [v0], S) = rn xX8_count (78, [l0, some (vI a)], [vI a, v0], S) := rn_step dX8_count_77 rfl rfl
theorem eX8_count_78 {l0 l1 : Option VV} {v0 v1 : VV} {S : MM} : rn xX8_count (78, [l0, l1], [v0, v1], S) = rn xX8_count (79, [l0, l1], [vI 2, v0, v1], S) := rn_step dX8_count_78 rfl rfl
theorem eX8_count_79 {a b : Int} {l0 l1 : Option VV} {v2 : VV} {S : MM} : rn xX8_count (79, [l0, l1], [vI b, vI a, v2], S) = rn xX8_count (80, [l0, l1], [vI (a - b), v2], S) := rn_step dX8_count_79 rfl rfl
theorem eX8_count_80 {a0 : Int} {i : Nat} {l0 l1 : Option VV} (h : kd i = 7) {S : MM} : rn xX8_count (80, [l0, l1], [vI a0, vR i], S) = (fX7_valueOf [vR i, vI a0] S).bind (fun q => rn xX8_count (83, [l0, l1], q.1.toList ++ [], q.2)) := q_callV (n := 1) (as := [vI a0]) (rest := []) dX8_count_80 rfl rfl rfl rfl h
theorem eX8_count_83 {z : Int} {l0 l1 : Option VV} {S : MM} : rn xX8_count (83, [l0, l1], [vI z], S) = some (some (vI z), S) := q_retI dX8_count_83 rfl
theorem eX8_count_84 {a : Option Nat} {l1 : Option VV} {S : MM} : rn xX8_count (84, [some (.inr (.inl a)), l1], [], S) = rn xX8_count (85, [some (.inr (.inl a)), l1], [.inr (.inl a)], S) := rn_step dX8_count_84 rfl rfl
theorem eX8_count_85 {l0 l1 : Option VV} {S : MM} : rn xX8_count (85, [l0, l1], [vR 0], S) = rn xX8_count (88, [l0, l1], [vR 69], S) := q_getR dX8_count_85 rfl ⟨⟨by decide, by decide⟩, by decide⟩ (fun _ => by decide +kernel) kd0
theorem eX8_count_88 {i : Nat} {l0 l1 : Option VV} (h : kd i = 2) {S : MM} : rn xX8_count (88, [l0, l1], [vR i], S) = (fX2_length [vR i] S).bind (fun q => rn xX8_count (91, [l0, l1], q.1.toList ++ [], q.2)) := q_callV (n := 0) (as := []) (rest := []) dX8_count_88 rfl rfl rfl rfl h
theorem eX8_count_91 {z : Int} {l0 l1 : Option VV} {S : MM} : rn xX8_count (91, [l0, l1], [vI z], S) = some (some (vI z), S) := q_retI dX8_count_91 rfl
theorem eX8_count_92 {a : Option Nat} {l1 : Option VV} {S : MM} : rn xX8_count (92, [some (.inr (.inl a)), l1], [], S) = rn xX8_count (93, [some (.inr (.inl a)), l1], [.inr (.inl a)], S) := rn_step dX8_count_92 rfl rfl
theorem eX8_count_93 {l0 l1 : Option VV} {S : MM} : rn xX8_count (93, [l0, l1], [vR 0], S) = rn xX8_count (96, [l0, l1], [vR 66], S) := q_getR dX8_count_93 rfl ⟨⟨by decide, by decide⟩, by decide⟩ (fun _ => by decide +kernel) kd0
theorem eX8_count_96 {i : Nat} {l0 l1 : Option VV} (h : kd i = 4) {S : MM} : rn xX8_count (96, [l0, l1], [vR i], S) = (fX4_kept [vR i] S).bind (fun q => rn xX8_count (99, [l0, l1], q.1.toList ++ [], q.2)) := q_callV (n := 0) (as := []) (rest := []) dX8_count_96 rfl rfl rfl rfl h
theorem eX8_count_99 {z : Int} {l0 l1 : Option VV} {S : MM} : rn xX8_count (99, [l0, l1], [vI z], S) = some (some (vI z), S) := q_retI dX8_count_99 rfl
theorem eX8_count_100 {l0 l1 : Option VV} {S : MM} : rn xX8_count (100, [l0, l1], [], S) = rn xX8_count (102, [l0, l1], [vI (-2)], S) := rn_step dX8_count_100 rfl rfl
theorem eX8_count_102 {z : Int} {l0 l1 : Option VV} {S : MM} : rn xX8_count (102, [l0, l1], [vI z], S) = some (some (vI z), S) := q_retI dX8_count_102 rfl
noncomputable def qlX8_walking : List CE := [(0, 173, 7, 2, fX7_valueOf), (0, 180, 5, 3, fX5_sharedKeys), (0, 183, 5, 3, fX5_rowsBetween), (0, 186, 5, 3, fX5_firstShared), (0, 189, 5, 3, fX5_lastShared), (0, 192, 5, 3, fX5_widestGap)]
noncomputable def xX8_walking : XX := (cX8_walking, fcF fcl8, mcF qlX8_walking, 1)
noncomputable def fX8_walking : FN := fnX xX8_walking 4
set_option maxRecDepth 100000 in
theorem cwX8_walking : Cond.code yX8_walking cX8_walking 4 (some .int) ∈ lw_g := lw_gm 804 (by decide +kernel) (by decide +kernel)
set_option maxRecDepth 100000 in
theorem conX8_walking : Con yX8_walking cX8_walking 4 (some .int) { frames := 4, cells := 0, slots := 0, locals := 92 } fX8_walking := con_of (X := xX8_walking) (own := "LeapStones") (ql := qlX8_walking) (by decide) rfl FOK8 rfl (List.forall_mem_cons.mpr ⟨call_V conX7_valueOf cwX7_valueOf (lw_gl _ [531, 315, 316, 23] (by decide +kernel) (by decide +kernel)) (by decide) rfl ⟨by decide, by decide, by decide +kernel⟩ ⟨rfl, rfl⟩ ⟨by decide, by decide⟩ ⟨Nat.le_refl _, Nat.le_refl _⟩, List.forall_mem_cons.mpr ⟨call_V conX5_sharedKeys cwX5_sharedKeys (lw_gl _ [805, 806, 807, 24] (by decide +kernel) (by decide +kernel)) (by decide) rfl ⟨by decide, by decide, by decide +kernel⟩ ⟨rfl, rfl⟩ ⟨by decide, by decide⟩ ⟨Nat.le_refl _, Nat.le_refl _⟩, List.forall_mem_cons.mpr ⟨call_V conX5_rowsBetween cwX5_rowsBetween (lw_gl _ [816, 817, 818, 24] (by decide +kernel) (by decide +kernel)) (by decide) rfl ⟨by decide, by decide, by decide +kernel⟩ ⟨rfl, rfl⟩ ⟨by decide, by decide⟩ ⟨Nat.le_refl _, Nat.le_refl _⟩, List.forall_mem_cons.mpr ⟨call_V conX5_firstShared cwX5_firstShared (lw_gl _ [820, 821, 822, 24] (by decide +kernel) (by decide +kernel)) (by decide) rfl ⟨by decide, by decide, by decide +kernel⟩ ⟨rfl, rfl⟩ ⟨by decide, by decide⟩ ⟨Nat.le_refl _, Nat.le_refl _⟩, List.forall_mem_cons.mpr ⟨call_V conX5_lastShared cwX5_lastShared (lw_gl _ [824, 825, 826, 24] (by decide +kernel) (by decide +kernel)) (by decide) rfl ⟨by decide, by decide, by decide +kernel⟩ ⟨rfl, rfl⟩ ⟨by decide, by decide⟩ ⟨Nat.le_refl _, Nat.le_refl _⟩, List.forall_mem_cons.mpr ⟨call_V conX5_widestGap cwX5_widestGap (lw_gl _ [828, 829, 830, 24] (by decide +kernel) (by decide +kernel)) (by decide) rfl ⟨by decide, by decide, by decide +kernel⟩ ⟨rfl, rfl⟩ ⟨by decide, by decide⟩ ⟨Nat.le_refl _, Nat.le_refl _⟩, fun _ h => absurd h List.not_mem_nil⟩⟩⟩⟩⟩⟩) (Or.inr (Or.inl ⟨rfl, rfl⟩))
theorem uX8_walking {i : Nat} {a0 : Int} {S : MM} : fX8_walking [vR i, vI a0] S = rn xX8_walking (0, [some (vR i), some (vI a0), none, none], [], S) := rfl
theorem dX8_walking_0 : decode cX8_walking 0 = .ok (.aload_n 0, 1) := by decide +kernel
theorem dX8_walking_1 : decode cX8_walking 1 = .ok (.getfield 12, 3) := by decide +kernel
theorem dX8_walking_4 : decode cX8_walking 4 = .ok (.getfield 109, 3) := by decide +kernel
theorem dX8_walking_7 : decode cX8_walking 7 = .ok (.iconst 0, 1) := by decide +kernel
theorem dX8_walking_8 : decode cX8_walking 8 = .ok (.invokevirtual 173, 3) := by decide +kernel
theorem dX8_walking_11 : decode cX8_walking 11 = .ok (.istore_n 2, 1) := by decide +kernel
theorem dX8_walking_12 : decode cX8_walking 12 = .ok (.aload_n 0, 1) := by decide +kernel
theorem dX8_walking_13 : decode cX8_walking 13 = .ok (.getfield 12, 3) := by decide +kernel
theorem dX8_walking_16 : decode cX8_walking 16 = .ok (.getfield 109, 3) := by decide +kernel
theorem dX8_walking_19 : decode cX8_walking 19 = .ok (.iconst 1, 1) := by decide +kernel
theorem dX8_walking_20 : decode cX8_walking 20 = .ok (.invokevirtual 173, 3) := by decide +kernel
theorem dX8_walking_23 : decode cX8_walking 23 = .ok (.istore_n 3, 1) := by decide +kernel
theorem dX8_walking_24 : decode cX8_walking 24 = .ok (.iload_n 1, 1) := by decide +kernel
theorem dX8_walking_25 : decode cX8_walking 25 = .ok (.tableswitch 100 0 4 #[35, 48, 61, 74, 87], 35) := by decide +kernel
theorem dX8_walking_60 : decode cX8_walking 60 = .ok (.aload_n 0, 1) := by decide +kernel
theorem dX8_walking_61 : decode cX8_walking 61 = .ok (.getfield 12, 3) := by decide +kernel
theorem dX8_walking_64 : decode cX8_walking 64 = .ok (.getfield 105, 3) := by decide +kernel
theorem dX8_walking_67 : decode cX8_walking 67 = .ok (.iload_n 2, 1) := by decide +kernel
theorem dX8_walking_68 : decode cX8_walking 68 = .ok (.iload_n 3, 1) := by decide +kernel
theorem dX8_walking_69 : decode cX8_walking 69 = .ok (.invokevirtual 180, 3) := by decide +kernel
theorem dX8_walking_72 : decode cX8_walking 72 = .ok (.ireturn, 1) := by decide +kernel
theorem dX8_walking_73 : decode cX8_walking 73 = .ok (.aload_n 0, 1) := by decide +kernel
theorem dX8_walking_74 : decode cX8_walking 74 = .ok (.getfield 12, 3) := by decide +kernel
theorem dX8_walking_77 : decode cX8_walking 77 = .ok (.getfield 105, 3) := by decide +kernel
theorem dX8_walking_80 : decode cX8_walking 80 = .ok (.iload_n 2, 1) := by decide +kernel
theorem dX8_walking_81 : decode cX8_walking 81 = .ok (.iload_n 3, 1) := by decide +kernel
theorem dX8_walking_82 : decode cX8_walking 82 = .ok (.invokevirtual 183, 3) := by decide +kernel
theorem dX8_walking_85 : decode cX8_walking 85 = .ok (.ireturn, 1) := by decide +kernel
theorem dX8_walking_86 : decode cX8_walking 86 = .ok (.aload_n 0, 1) := by decide +kernel
theorem dX8_walking_87 : decode cX8_walking 87 = .ok (.getfield 12, 3) := by decide +kernel
theorem dX8_walking_90 : decode cX8_walking 90 = .ok (.getfield 105, 3) := by decide +kernel
theorem dX8_walking_93 : decode cX8_walking 93 = .ok (.iload_n 2, 1) := by decide +kernel
theorem dX8_walking_94 : decode cX8_walking 94 = .ok (.iload_n 3, 1) := by decide +kernel
theorem dX8_walking_95 : decode cX8_walking 95 = .ok (.invokevirtual 186, 3) := by decide +kernel
theorem dX8_walking_98 : decode cX8_walking 98 = .ok (.ireturn, 1) := by decide +kernel
theorem dX8_walking_99 : decode cX8_walking 99 = .ok (.aload_n 0, 1) := by decide +kernel
theorem dX8_walking_100 : decode cX8_walking 100 = .ok (.getfield 12, 3) := by decide +kernel
theorem dX8_walking_103 : decode cX8_walking 103 = .ok (.getfield 105, 3) := by decide +kernel
theorem dX8_walking_106 : decode cX8_walking 106 = .ok (.iload_n 2, 1) := by decide +kernel
theorem dX8_walking_107 : decode cX8_walking 107 = .ok (.iload_n 3, 1) := by decide +kernel
theorem dX8_walking_108 : decode cX8_walking 108 = .ok (.invokevirtual 189, 3) := by decide +kernel
theorem dX8_walking_111 : decode cX8_walking 111 = .ok (.ireturn, 1) := by decide +kernel
theorem dX8_walking_112 : decode cX8_walking 112 = .ok (.aload_n 0, 1) := by decide +kernel
theorem dX8_walking_113 : decode cX8_walking 113 = .ok (.getfield 12, 3) := by decide +kernel
theorem dX8_walking_116 : decode cX8_walking 116 = .ok (.getfield 105, 3) := by decide +kernel
theorem dX8_walking_119 : decode cX8_walking 119 = .ok (.iload_n 2, 1) := by decide +kernel
theorem dX8_walking_120 : decode cX8_walking 120 = .ok (.iload_n 3, 1) := by decide +kernel
theorem dX8_walking_121 : decode cX8_walking 121 = .ok (.invokevirtual 192, 3) := by decide +kernel
theorem dX8_walking_124 : decode cX8_walking 124 = .ok (.ireturn, 1) := by decide +kernel
theorem dX8_walking_125 : decode cX8_walking 125 = .ok (.bipush (-2), 2) := by decide +kernel
theorem dX8_walking_127 : decode cX8_walking 127 = .ok (.ireturn, 1) := by decide +kernel
theorem eX8_walking_0 {a : Option Nat} {l1 l2 l3 : Option VV} {S : MM} : rn xX8_walking (0, [some (.inr (.inl a)), l1, l2, l3], [], S) = rn xX8_walking (1, [some (.inr (.inl a)), l1, l2, l3], [.inr (.inl a)], S) := rn_step dX8_walking_0 rfl rfl
theorem eX8_walking_1 {l0 l1 l2 l3 : Option VV} {S : MM} : rn xX8_walking (1, [l0, l1, l2, l3], [vR 0], S) = rn xX8_walking (4, [l0, l1, l2, l3], [vR 1], S) := q_getR dX8_walking_1 rfl ⟨⟨by decide, by decide⟩, by decide⟩ (fun _ => by decide +kernel) kd0
theorem eX8_walking_4 {i : Nat} {l0 l1 l2 l3 : Option VV} (h : kd i = 6) {S : MM} : rn xX8_walking (4, [l0, l1, l2, l3], [vR i], S) = rn xX8_walking (7, [l0, l1, l2, l3], [vR (i + 1)], S) := q_getR dX8_walking_4 rfl ⟨⟨by decide, by decide⟩, by decide⟩ (fun h => (fref6 h).trans (by first | rfl | omega)) h
theorem eX8_walking_7 {l0 l1 l2 l3 : Option VV} {v0 : VV} {S : MM} : rn xX8_walking (7, [l0, l1, l2, l3], [v0], S) = rn xX8_walking (8, [l0, l1, l2, l3], [vI 0, v0], S) := rn_step dX8_walking_7 rfl rfl
theorem eX8_walking_8 {a0 : Int} {i : Nat} {l0 l1 l2 l3 : Option VV} (h : kd i = 7) {S : MM} : rn xX8_walking (8, [l0, l1, l2, l3], [vI a0, vR i], S) = (fX7_valueOf [vR i, vI a0] S).bind (fun q => rn xX8_walking (11, [l0, l1, l2, l3], q.1.toList ++ [], q.2)) := q_callV (n := 1) (as := [vI a0]) (rest := []) dX8_walking_8 rfl rfl rfl rfl h
theorem eX8_walking_11 {a : Int} {w : Int} {l0 l2 l3 : Option VV} {S : MM} : rn xX8_walking (11, [l0, some (vI w), l2, l3], [vI a], S) = rn xX8_walking (12, [l0, some (vI w), some (vI a), l3], [], S) := rn_step dX8_walking_11 rfl rfl
theorem eX8_walking_12 {a : Option Nat} {l1 l2 l3 : Option VV} {S : MM} : rn xX8_walking (12, [some (.inr (.inl a)), l1, l2, l3], [], S) = rn xX8_walking (13, [some (.inr (.inl a)), l1, l2, l3], [.inr (.inl a)], S) := rn_step dX8_walking_12 rfl rfl
theorem eX8_walking_13 {l0 l1 l2 l3 : Option VV} {S : MM} : rn xX8_walking (13, [l0, l1, l2, l3], [vR 0], S) = rn xX8_walking (16, [l0, l1, l2, l3], [vR 1], S) := q_getR dX8_walking_13 rfl ⟨⟨by decide, by decide⟩, by decide⟩ (fun _ => by decide +kernel) kd0
theorem eX8_walking_16 {i : Nat} {l0 l1 l2 l3 : Option VV} (h : kd i = 6) {S : MM} : rn xX8_walking (16, [l0, l1, l2, l3], [vR i], S) = rn xX8_walking (19, [l0, l1, l2, l3], [vR (i + 1)], S) := q_getR dX8_walking_16 rfl ⟨⟨by decide, by decide⟩, by decide⟩ (fun h => (fref6 h).trans (by first | rfl | omega)) h
theorem eX8_walking_19 {l0 l1 l2 l3 : Option VV} {v0 : VV} {S : MM} : rn xX8_walking (19, [l0, l1, l2, l3], [v0], S) = rn xX8_walking (20, [l0, l1, l2, l3], [vI 1, v0], S) := rn_step dX8_walking_19 rfl rfl
theorem eX8_walking_20 {a0 : Int} {i : Nat} {l0 l1 l2 l3 : Option VV} (h : kd i = 7) {S : MM} : rn xX8_walking (20, [l0, l1, l2, l3], [vI a0, vR i], S) = (fX7_valueOf [vR i, vI a0] S).bind (fun q => rn xX8_walking (23, [l0, l1, l2, l3], q.1.toList ++ [], q.2)) := q_callV (n := 1) (as := [vI a0]) (rest := []) dX8_walking_20 rfl rfl rfl rfl h
theorem eX8_walking_23 {a : Int} {w : Int} {l0 l1 l3 : Option VV} {S : MM} : rn xX8_walking (23, [l0, l1, some (vI w), l3], [vI a], S) = rn xX8_walking (24, [l0, l1, some (vI w), some (vI a)], [], S) := rn_step dX8_walking_23 rfl rfl
theorem eX8_walking_24 {a : Int} {l0 l2 l3 : Option VV} {S : MM} : rn xX8_walking (24, [l0, some (vI a), l2, l3], [], S) = rn xX8_walking (25, [l0, some (vI a), l2, l3], [vI a], S) := rn_step dX8_walking_24 rfl rfl
theorem eX8_walking_25 {a : Int} {l0 l1 l2 l3 : Option VV} (h : -2147483648 ≤ a ∧ a ≤ 2147483647) {S : MM} : rn xX8_walking (25, [l0, l1, l2, l3], [vI a], S) = if a = 0 then rn xX8_walking (60, [l0, l1, l2, l3], [], S) else if a = 1 then rn xX8_walking (73, [l0, l1, l2, l3], [], S) else if a = 2 then rn xX8_walking (86, [l0, l1, l2, l3], [], S) else if a = 3 then rn xX8_walking (99, [l0, l1, l2, l3], [], S) else if a = 4 then rn xX8_walking (112, [l0, l1, l2, l3], [], S) else rn xX8_walking (125, [l0, l1, l2, l3], [], S) := by
  by_cases c0 : a = 0
  · subst c0; rw [if_pos rfl]; exact q_tab (X := xX8_walking) (pc := 25) (L := [l0, l1, l2, l3]) (st := []) (S := S) (x := 0) (t := 60) dX8_walking_25 h (by decide) rfl (by decide) rfl
  rw [if_neg c0]
  by_cases c1 : a = 1
  · subst c1; rw [if_pos rfl]; exact q_tab (X := xX8_walking) (pc := 25) (L := [l0, l1, l2, l3]) (st := []) (S := S) (x := 1) (t := 73) dX8_walking_25 h (by decide) rfl (by decide) rfl
  rw [if_neg c1]
  by_cases c2 : a = 2
  · subst c2; rw [if_pos rfl]; exact q_tab (X := xX8_walking) (pc := 25) (L := [l0, l1, l2, l3]) (st := []) (S := S) (x := 2) (t := 86) dX8_walking_25 h (by decide) rfl (by decide) rfl
  rw [if_neg c2]
  by_cases c3 : a = 3
  · subst c3; rw [if_pos rfl]; exact q_tab (X := xX8_walking) (pc := 25) (L := [l0, l1, l2, l3]) (st := []) (S := S) (x := 3) (t := 99) dX8_walking_25 h (by decide) rfl (by decide) rfl
  rw [if_neg c3]
  by_cases c4 : a = 4
  · subst c4; rw [if_pos rfl]; exact q_tab (X := xX8_walking) (pc := 25) (L := [l0, l1, l2, l3]) (st := []) (S := S) (x := 4) (t := 112) dX8_walking_25 h (by decide) rfl (by decide) rfl
  rw [if_neg c4]
  exact q_tabD (X := xX8_walking) (pc := 25) (L := [l0, l1, l2, l3]) (st := []) (S := S) (x := a) (t := 125) dX8_walking_25 h (by omega) (by decide) rfl
theorem eX8_walking_60 {a : Option Nat} {l1 l2 l3 : Option VV} {S : MM} : rn xX8_walking (60, [some (.inr (.inl a)), l1, l2, l3], [], S) = rn xX8_walking (61, [some (.inr (.inl a)), l1, l2, l3], [.inr (.inl a)], S) := rn_step dX8_walking_60 rfl rfl
theorem eX8_walking_61 {l0 l1 l2 l3 : Option VV} {S : MM} : rn xX8_walking (61, [l0, l1, l2, l3], [vR 0], S) = rn xX8_walking (64, [l0, l1, l2, l3], [vR 1], S) := q_getR dX8_walking_61 rfl ⟨⟨by decide, by decide⟩, by decide⟩ (fun _ => by decide +kernel) kd0
theorem eX8_walking_64 {i : Nat} {l0 l1 l2 l3 : Option VV} (h : kd i = 6) {S : MM} : rn xX8_walking (64, [l0, l1, l2, l3], [vR i], S) = rn xX8_walking (67, [l0, l1, l2, l3], [vR (i + 3)], S) := q_getR dX8_walking_64 rfl ⟨⟨by decide, by decide⟩, by decide⟩ (fun h => (fref6 h).trans (by first | rfl | omega)) h
theorem eX8_walking_67 {a : Int} {l0 l1 l3 : Option VV} {v0 : VV} {S : MM} : rn xX8_walking (67, [l0, l1, some (vI a), l3], [v0], S) = rn xX8_walking (68, [l0, l1, some (vI a), l3], [vI a, v0], S) := rn_step dX8_walking_67 rfl rfl
theorem eX8_walking_68 {a : Int} {l0 l1 l2 : Option VV} {v0 v1 : VV} {S : MM} : rn xX8_walking (68, [l0, l1, l2, some (vI a)], [v0, v1], S) = rn xX8_walking (69, [l0, l1, l2, some (vI a)], [vI a, v0, v1], S) := rn_step dX8_walking_68 rfl rfl
theorem eX8_walking_69 {a0 : Int} {a1 : Int} {i : Nat} {l0 l1 l2 l3 : Option VV} (h : kd i = 5) {S : MM} : rn xX8_walking (69, [l0, l1, l2, l3], [vI a1, vI a0, vR i], S) = (fX5_sharedKeys [vR i, vI a0, vI a1] S).bind (fun q => rn xX8_walking (72, [l0, l1, l2, l3], q.1.toList ++ [], q.2)) := q_callV (n := 2) (as := [vI a0, vI a1]) (rest := []) dX8_walking_69 rfl rfl rfl rfl h
theorem eX8_walking_72 {z : Int} {l0 l1 l2 l3 : Option VV} {S : MM} : rn xX8_walking (72, [l0, l1, l2, l3], [vI z], S) = some (some (vI z), S) := q_retI dX8_walking_72 rfl
theorem eX8_walking_73 {a : Option Nat} {l1 l2 l3 : Option VV} {S : MM} : rn xX8_walking (73, [some (.inr (.inl a)), l1, l2, l3], [], S) = rn xX8_walking (74, [some (.inr (.inl a)), l1, l2, l3], [.inr (.inl a)], S) := rn_step dX8_walking_73 rfl rfl
theorem eX8_walking_74 {l0 l1 l2 l3 : Option VV} {S : MM} : rn xX8_walking (74, [l0, l1, l2, l3], [vR 0], S) = rn xX8_walking (77, [l0, l1, l2, l3], [vR 1], S) := q_getR dX8_walking_74 rfl ⟨⟨by decide, by decide⟩, by decide⟩ (fun _ => by decide +kernel) kd0
theorem eX8_walking_77 {i : Nat} {l0 l1 l2 l3 : Option VV} (h : kd i = 6) {S : MM} : rn xX8_walking (77, [l0, l1, l2, l3], [vR i], S) = rn xX8_walking (80, [l0, l1, l2, l3], [vR (i + 3)], S) := q_getR dX8_walking_77 rfl ⟨⟨by decide, by decide⟩, by decide⟩ (fun h => (fref6 h).trans (by first | rfl | omega)) h
theorem eX8_walking_80 {a : Int} {l0 l1 l3 : Option VV} {v0 : VV} {S : MM} : rn xX8_walking (80, [l0, l1, some (vI a), l3], [v0], S) = rn xX8_walking (81, [l0, l1, some (vI a), l3], [vI a, v0], S) := rn_step dX8_walking_80 rfl rfl
theorem eX8_walking_81 {a : Int} {l0 l1 l2 : Option VV} {v0 v1 : VV} {S : MM} : rn xX8_walking (81, [l0, l1, l2, some (vI a)], [v0, v1], S) = rn xX8_walking (82, [l0, l1, l2, some (vI a)], [vI a, v0, v1], S) := rn_step dX8_walking_81 rfl rfl
theorem eX8_walking_82 {a0 : Int} {a1 : Int} {i : Nat} {l0 l1 l2 l3 : Option VV} (h : kd i = 5) {S : MM} : rn xX8_walking (82, [l0, l1, l2, l3], [vI a1, vI a0, vR i], S) = (fX5_rowsBetween [vR i, vI a0, vI a1] S).bind (fun q => rn xX8_walking (85, [l0, l1, l2, l3], q.1.toList ++ [], q.2)) := q_callV (n := 2) (as := [vI a0, vI a1]) (rest := []) dX8_walking_82 rfl rfl rfl rfl h
theorem eX8_walking_85 {z : Int} {l0 l1 l2 l3 : Option VV} {S : MM} : rn xX8_walking (85, [l0, l1, l2, l3], [vI z], S) = some (some (vI z), S) := q_retI dX8_walking_85 rfl
theorem eX8_walking_86 {a : Option Nat} {l1 l2 l3 : Option VV} {S : MM} : rn xX8_walking (86, [some (.inr (.inl a)), l1, l2, l3], [], S) = rn xX8_walking (87, [some (.inr (.inl a)), l1, l2, l3], [.inr (.inl a)], S) := rn_step dX8_walking_86 rfl rfl
theorem eX8_walking_87 {l0 l1 l2 l3 : Option VV} {S : MM} : rn xX8_walking (87, [l0, l1, l2, l3], [vR 0], S) = rn xX8_walking (90, [l0, l1, l2, l3], [vR 1], S) := q_getR dX8_walking_87 rfl ⟨⟨by decide, by decide⟩, by decide⟩ (fun _ => by decide +kernel) kd0
theorem eX8_walking_90 {i : Nat} {l0 l1 l2 l3 : Option VV} (h : kd i = 6) {S : MM} : rn xX8_walking (90, [l0, l1, l2, l3], [vR i], S) = rn xX8_walking (93, [l0, l1, l2, l3], [vR (i + 3)], S) := q_getR dX8_walking_90 rfl ⟨⟨by decide, by decide⟩, by decide⟩ (fun h => (fref6 h).trans (by first | rfl | omega)) h
theorem eX8_walking_93 {a : Int} {l0 l1 l3 : Option VV} {v0 : VV} {S : MM} : rn xX8_walking (93, [l0, l1, some (vI a), l3], [v0], S) = rn xX8_walking (94, [l0, l1, some (vI a), l3], [vI a, v0], S) := rn_step dX8_walking_93 rfl rfl
theorem eX8_walking_94 {a : Int} {l0 l1 l2 : Option VV} {v0 v1 : VV} {S : MM} : rn xX8_walking (94, [l0, l1, l2, some (vI a)], [v0, v1], S) = rn xX8_walking (95, [l0, l1, l2, some (vI a)], [vI a, v0, v1], S) := rn_step dX8_walking_94 rfl rfl
theorem eX8_walking_95 {a0 : Int} {a1 : Int} {i : Nat} {l0 l1 l2 l3 : Option VV} (h : kd i = 5) {S : MM} : rn xX8_walking (95, [l0, l1, l2, l3], [vI a1, vI a0, vR i], S) = (fX5_firstShared [vR i, vI a0, vI a1] S).bind (fun q => rn xX8_walking (98, [l0, l1, l2, l3], q.1.toList ++ [], q.2)) := q_callV (n := 2) (as := [vI a0, vI a1]) (rest := []) dX8_walking_95 rfl rfl rfl rfl h
theorem eX8_walking_98 {z : Int} {l0 l1 l2 l3 : Option VV} {S : MM} : rn xX8_walking (98, [l0, l1, l2, l3], [vI z], S) = some (some (vI z), S) := q_retI dX8_walking_98 rfl
theorem eX8_walking_99 {a : Option Nat} {l1 l2 l3 : Option VV} {S : MM} : rn xX8_walking (99, [some (.inr (.inl a)), l1, l2, l3], [], S) = rn xX8_walking (100, [some (.inr (.inl a)), l1, l2, l3], [.inr (.inl a)], S) := rn_step dX8_walking_99 rfl rfl
theorem eX8_walking_100 {l0 l1 l2 l3 : Option VV} {S : MM} : rn xX8_walking (100, [l0, l1, l2, l3], [vR 0], S) = rn xX8_walking (103, [l0, l1, l2, l3], [vR 1], S) := q_getR dX8_walking_100 rfl ⟨⟨by decide, by decide⟩, by decide⟩ (fun _ => by decide +kernel) kd0
theorem eX8_walking_103 {i : Nat} {l0 l1 l2 l3 : Option VV} (h : kd i = 6) {S : MM} : rn xX8_walking (103, [l0, l1, l2, l3], [vR i], S) = rn xX8_walking (106, [l0, l1, l2, l3], [vR (i + 3)], S) := q_getR dX8_walking_103 rfl ⟨⟨by decide, by decide⟩, by decide⟩ (fun h => (fref6 h).trans (by first | rfl | omega)) h
theorem eX8_walking_106 {a : Int} {l0 l1 l3 : Option VV} {v0 : VV} {S : MM} : rn xX8_walking (106, [l0, l1, some (vI a), l3], [v0], S) = rn xX8_walking (107, [l0, l1, some (vI a), l3], [vI a, v0], S) := rn_step dX8_walking_106 rfl rfl
theorem eX8_walking_107 {a : Int} {l0 l1 l2 : Option VV} {v0 v1 : VV} {S : MM} : rn xX8_walking (107, [l0, l1, l2, some (vI a)], [v0, v1], S) = rn xX8_walking (108, [l0, l1, l2, some (vI a)], [vI a, v0, v1], S) := rn_step dX8_walking_107 rfl rfl
theorem eX8_walking_108 {a0 : Int} {a1 : Int} {i : Nat} {l0 l1 l2 l3 : Option VV} (h : kd i = 5) {S : MM} : rn xX8_walking (108, [l0, l1, l2, l3], [vI a1, vI a0, vR i], S) = (fX5_lastShared [vR i, vI a0, vI a1] S).bind (fun q => rn xX8_walking (111, [l0, l1, l2, l3], q.1.toList ++ [], q.2)) := q_callV (n := 2) (as := [vI a0, vI a1]) (rest := []) dX8_walking_108 rfl rfl rfl rfl h
theorem eX8_walking_111 {z : Int} {l0 l1 l2 l3 : Option VV} {S : MM} : rn xX8_walking (111, [l0, l1, l2, l3], [vI z], S) = some (some (vI z), S) := q_retI dX8_walking_111 rfl
theorem eX8_walking_112 {a : Option Nat} {l1 l2 l3 : Option VV} {S : MM} : rn xX8_walking (112, [some (.inr (.inl a)), l1, l2, l3], [], S) = rn xX8_walking (113, [some (.inr (.inl a)), l1, l2, l3], [.inr (.inl a)], S) := rn_step dX8_walking_112 rfl rfl
theorem eX8_walking_113 {l0 l1 l2 l3 : Option VV} {S : MM} : rn xX8_walking (113, [l0, l1, l2, l3], [vR 0], S) = rn xX8_walking (116, [l0, l1, l2, l3], [vR 1], S) := q_getR dX8_walking_113 rfl ⟨⟨by decide, by decide⟩, by decide⟩ (fun _ => by decide +kernel) kd0
theorem eX8_walking_116 {i : Nat} {l0 l1 l2 l3 : Option VV} (h : kd i = 6) {S : MM} : rn xX8_walking (116, [l0, l1, l2, l3], [vR i], S) = rn xX8_walking (119, [l0, l1, l2, l3], [vR (i + 3)], S) := q_getR dX8_walking_116 rfl ⟨⟨by decide, by decide⟩, by decide⟩ (fun h => (fref6 h).trans (by first | rfl | omega)) h
theorem eX8_walking_119 {a : Int} {l0 l1 l3 : Option VV} {v0 : VV} {S : MM} : rn xX8_walking (119, [l0, l1, some (vI a), l3], [v0], S) = rn xX8_walking (120, [l0, l1, some (vI a), l3], [vI a, v0], S) := rn_step dX8_walking_119 rfl rfl
theorem eX8_walking_120 {a : Int} {l0 l1 l2 : Option VV} {v0 v1 : VV} {S : MM} : rn xX8_walking (120, [l0, l1, l2, some (vI a)], [v0, v1], S) = rn xX8_walking (121, [l0, l1, l2, some (vI a)], [vI a, v0, v1], S) := rn_step dX8_walking_120 rfl rfl
theorem eX8_walking_121 {a0 : Int} {a1 : Int} {i : Nat} {l0 l1 l2 l3 : Option VV} (h : kd i = 5) {S : MM} : rn xX8_walking (121, [l0, l1, l2, l3], [vI a1, vI a0, vR i], S) = (fX5_widestGap [vR i, vI a0, vI a1] S).bind (fun q => rn xX8_walking (124, [l0, l1, l2, l3], q.1.toList ++ [], q.2)) := q_callV (n := 2) (as := [vI a0, vI a1]) (rest := []) dX8_walking_121 rfl rfl rfl rfl h
theorem eX8_walking_124 {z : Int} {l0 l1 l2 l3 : Option VV} {S : MM} : rn xX8_walking (124, [l0, l1, l2, l3], [vI z], S) = some (some (vI z), S) := q_retI dX8_walking_124 rfl
theorem eX8_walking_125 {l0 l1 l2 l3 : Option VV} {S : MM} : rn xX8_walking (125, [l0, l1, l2, l3], [], S) = rn xX8_walking (127, [l0, l1, l2, l3], [vI (-2)], S) := rn_step dX8_walking_125 rfl rfl
theorem eX8_walking_127 {z : Int} {l0 l1 l2 l3 : Option VV} {S : MM} : rn xX8_walking (127, [l0, l1, l2, l3], [vI z], S) = some (some (vI z), S) := q_retI dX8_walking_127 rfl
noncomputable def qlX8_tryOut : List CE := [(0, 264, 7, 2, fX7_copyFrom), (0, 267, 7, 3, fX7_change), (0, 270, 0, 3, fX0_start), (0, 112, 0, 3, fX0_finish)]
noncomputable def xX8_tryOut : XX := (cX8_tryOut, fcF fcl8, mcF qlX8_tryOut, 0)
noncomputable def fX8_tryOut : FN := fnX xX8_tryOut 3
set_option maxRecDepth 100000 in
theorem cwX8_tryOut : Cond.code yX8_tryOut cX8_tryOut 3 none ∈ lw_g := lw_gm 840 (by decide +kernel) (by decide +kernel)
set_option maxRecDepth 100000 in
theorem conX8_tryOut : Con yX8_tryOut cX8_tryOut 3 none { frames := 6, cells := 0, slots := 0, locals := 148 } fX8_tryOut := con_of (X := xX8_tryOut) (own := "LeapStones") (ql := qlX8_tryOut) (by decide) rfl FOK8 rfl (List.forall_mem_cons.mpr ⟨call_V conX7_copyFrom cwX7_copyFrom (lw_gl _ [841, 272, 273, 23] (by decide +kernel) (by decide +kernel)) (by decide) rfl ⟨by decide, by decide, by decide +kernel⟩ ⟨rfl, rfl⟩ ⟨by decide, by decide⟩ ⟨Nat.le_refl _, Nat.le_refl _⟩, List.forall_mem_cons.mpr ⟨call_V conX7_change cwX7_change (lw_gl _ [842, 320, 321, 23] (by decide +kernel) (by decide +kernel)) (by decide) rfl ⟨by decide, by decide, by decide +kernel⟩ ⟨rfl, rfl⟩ ⟨by decide, by decide⟩ ⟨Nat.le_refl _, Nat.le_refl _⟩, List.forall_mem_cons.mpr ⟨call_V conX0_start cwX0_start (lw_gl _ [843, 585, 586, 28] (by decide +kernel) (by decide +kernel)) (by decide) rfl ⟨by decide, by decide, by decide +kernel⟩ ⟨rfl, rfl⟩ ⟨by decide, by decide⟩ ⟨Nat.le_refl _, Nat.le_refl _⟩, List.forall_mem_cons.mpr ⟨call_V conX0_finish cwX0_finish (lw_gl _ [645, 646, 647, 28] (by decide +kernel) (by decide +kernel)) (by decide) rfl ⟨by decide, by decide, by decide +kernel⟩ ⟨rfl, rfl⟩ ⟨by decide, by decide⟩ ⟨Nat.le_refl _, Nat.le_refl _⟩, fun _ h => absurd h List.not_mem_nil⟩⟩⟩⟩) (Or.inl ⟨rfl, rfl⟩)
theorem uX8_tryOut {i : Nat} {a0 : Int} {a1 : Int} {S : MM} : fX8_tryOut [vR i, vI a0, vI a1] S = rn xX8_tryOut (0, [some (vR i), some (vI a0), some (vI a1)], [], S) := rfl
theorem dX8_tryOut_0 : decode cX8_tryOut 0 = .ok (.aload_n 0, 1) := by decide +kernel
theorem dX8_tryOut_1 : decode cX8_tryOut 1 = .ok (.getfield 53, 3) := by decide +kernel
theorem dX8_tryOut_4 : decode cX8_tryOut 4 = .ok (.aload_n 0, 1) := by decide +kernel
theorem dX8_tryOut_5 : decode cX8_tryOut 5 = .ok (.getfield 12, 3) := by decide +kernel
theorem dX8_tryOut_8 : decode cX8_tryOut 8 = .ok (.getfield 109, 3) := by decide +kernel
theorem dX8_tryOut_11 : decode cX8_tryOut 11 = .ok (.invokevirtual 264, 3) := by decide +kernel
theorem dX8_tryOut_14 : decode cX8_tryOut 14 = .ok (.aload_n 0, 1) := by decide +kernel
theorem dX8_tryOut_15 : decode cX8_tryOut 15 = .ok (.getfield 53, 3) := by decide +kernel
theorem dX8_tryOut_18 : decode cX8_tryOut 18 = .ok (.iconst 2, 1) := by decide +kernel
theorem dX8_tryOut_19 : decode cX8_tryOut 19 = .ok (.iload_n 1, 1) := by decide +kernel
theorem dX8_tryOut_20 : decode cX8_tryOut 20 = .ok (.invokevirtual 267, 3) := by decide +kernel
theorem dX8_tryOut_23 : decode cX8_tryOut 23 = .ok (.aload_n 0, 1) := by decide +kernel
theorem dX8_tryOut_24 : decode cX8_tryOut 24 = .ok (.getfield 53, 3) := by decide +kernel
theorem dX8_tryOut_27 : decode cX8_tryOut 27 = .ok (.iconst 3, 1) := by decide +kernel
theorem dX8_tryOut_28 : decode cX8_tryOut 28 = .ok (.iload_n 2, 1) := by decide +kernel
theorem dX8_tryOut_29 : decode cX8_tryOut 29 = .ok (.invokevirtual 267, 3) := by decide +kernel
theorem dX8_tryOut_32 : decode cX8_tryOut 32 = .ok (.aload_n 0, 1) := by decide +kernel
theorem dX8_tryOut_33 : decode cX8_tryOut 33 = .ok (.getfield 46, 3) := by decide +kernel
theorem dX8_tryOut_36 : decode cX8_tryOut 36 = .ok (.aload_n 0, 1) := by decide +kernel
theorem dX8_tryOut_37 : decode cX8_tryOut 37 = .ok (.getfield 12, 3) := by decide +kernel
theorem dX8_tryOut_40 : decode cX8_tryOut 40 = .ok (.getfield 105, 3) := by decide +kernel
theorem dX8_tryOut_43 : decode cX8_tryOut 43 = .ok (.aload_n 0, 1) := by decide +kernel
theorem dX8_tryOut_44 : decode cX8_tryOut 44 = .ok (.getfield 53, 3) := by decide +kernel
theorem dX8_tryOut_47 : decode cX8_tryOut 47 = .ok (.invokevirtual 270, 3) := by decide +kernel
theorem dX8_tryOut_50 : decode cX8_tryOut 50 = .ok (.aload_n 0, 1) := by decide +kernel
theorem dX8_tryOut_51 : decode cX8_tryOut 51 = .ok (.getfield 46, 3) := by decide +kernel
theorem dX8_tryOut_54 : decode cX8_tryOut 54 = .ok (.aload_n 0, 1) := by decide +kernel
theorem dX8_tryOut_55 : decode cX8_tryOut 55 = .ok (.getfield 12, 3) := by decide +kernel
theorem dX8_tryOut_58 : decode cX8_tryOut 58 = .ok (.getfield 105, 3) := by decide +kernel
theorem dX8_tryOut_61 : decode cX8_tryOut 61 = .ok (.aload_n 0, 1) := by decide +kernel
theorem dX8_tryOut_62 : decode cX8_tryOut 62 = .ok (.getfield 53, 3) := by decide +kernel
theorem dX8_tryOut_65 : decode cX8_tryOut 65 = .ok (.invokevirtual 112, 3) := by decide +kernel
theorem dX8_tryOut_68 : decode cX8_tryOut 68 = .ok (.pop, 1) := by decide +kernel
theorem dX8_tryOut_69 : decode cX8_tryOut 69 = .ok (.return_, 1) := by decide +kernel
theorem eX8_tryOut_0 {a : Option Nat} {l1 l2 : Option VV} {S : MM} : rn xX8_tryOut (0, [some (.inr (.inl a)), l1, l2], [], S) = rn xX8_tryOut (1, [some (.inr (.inl a)), l1, l2], [.inr (.inl a)], S) := rn_step dX8_tryOut_0 rfl rfl
theorem eX8_tryOut_1 {l0 l1 l2 : Option VV} {S : MM} : rn xX8_tryOut (1, [l0, l1, l2], [vR 0], S) = rn xX8_tryOut (4, [l0, l1, l2], [vR 79], S) := q_getR dX8_tryOut_1 rfl ⟨⟨by decide, by decide⟩, by decide⟩ (fun _ => by decide +kernel) kd0
theorem eX8_tryOut_4 {a : Option Nat} {l1 l2 : Option VV} {v0 : VV} {S : MM} : rn xX8_tryOut (4, [some (.inr (.inl a)), l1, l2], [v0], S) = rn xX8_tryOut (5, [some (.inr (.inl a)), l1, l2], [.inr (.inl a), v0], S) := rn_step dX8_tryOut_4 rfl rfl
theorem eX8_tryOut_5 {l0 l1 l2 : Option VV} {v1 : VV} {S : MM} : rn xX8_tryOut (5, [l0, l1, l2], [vR 0, v1], S) = rn xX8_tryOut (8, [l0, l1, l2], [vR 1, v1], S) := q_getR dX8_tryOut_5 rfl ⟨⟨by decide, by decide⟩, by decide⟩ (fun _ => by decide +kernel) kd0
theorem eX8_tryOut_8 {i : Nat} {l0 l1 l2 : Option VV} {v1 : VV} (h : kd i = 6) {S : MM} : rn xX8_tryOut (8, [l0, l1, l2], [vR i, v1], S) = rn xX8_tryOut (11, [l0, l1, l2], [vR (i + 1), v1], S) := q_getR dX8_tryOut_8 rfl ⟨⟨by decide, by decide⟩, by decide⟩ (fun h => (fref6 h).trans (by first | rfl | omega)) h
theorem eX8_tryOut_11 {a0 : Option Nat} {i : Nat} {l0 l1 l2 : Option VV} (h : kd i = 7) {S : MM} : rn xX8_tryOut (11, [l0, l1, l2], [.inr (.inl a0), vR i], S) = (fX7_copyFrom [vR i, .inr (.inl a0)] S).bind (fun q => rn xX8_tryOut (14, [l0, l1, l2], q.1.toList ++ [], q.2)) := q_callV (n := 1) (as := [.inr (.inl a0)]) (rest := []) dX8_tryOut_11 rfl rfl rfl rfl h
theorem eX8_tryOut_14 {a : Option Nat} {l1 l2 : Option VV} {S : MM} : rn xX8_tryOut (14, [some (.inr (.inl a)), l1, l2], [], S) = rn xX8_tryOut (15, [some (.inr (.inl a)), l1, l2], [.inr (.inl a)], S) := rn_step dX8_tryOut_14 rfl rfl
theorem eX8_tryOut_15 {l0 l1 l2 : Option VV} {S : MM} : rn xX8_tryOut (15, [l0, l1, l2], [vR 0], S) = rn xX8_tryOut (18, [l0, l1, l2], [vR 79], S) := q_getR dX8_tryOut_15 rfl ⟨⟨by decide, by decide⟩, by decide⟩ (fun _ => by decide +kernel) kd0
theorem eX8_tryOut_18 {l0 l1 l2 : Option VV} {v0 : VV} {S : MM} : rn xX8_tryOut (18, [l0, l1, l2], [v0], S) = rn xX8_tryOut (19, [l0, l1, l2], [vI 2, v0], S) := rn_step dX8_tryOut_18 rfl rfl
theorem eX8_tryOut_19 {a : Int} {l0 l2 : Option VV} {v0 v1 : VV} {S : MM} : rn xX8_tryOut (19, [l0, some (vI a), l2], [v0, v1], S) = rn xX8_tryOut (20, [l0, some (vI a), l2], [vI a, v0, v1], S) := rn_step dX8_tryOut_19 rfl rfl
theorem eX8_tryOut_20 {a0 : Int} {a1 : Int} {i : Nat} {l0 l1 l2 : Option VV} (h : kd i = 7) {S : MM} : rn xX8_tryOut (20, [l0, l1, l2], [vI a1, vI a0, vR i], S) = (fX7_change [vR i, vI a0, vI a1] S).bind (fun q => rn xX8_tryOut (23, [l0, l1, l2], q.1.toList ++ [], q.2)) := q_callV (n := 2) (as := [vI a0, vI a1]) (rest := []) dX8_tryOut_20 rfl rfl rfl rfl h
theorem eX8_tryOut_23 {a : Option Nat} {l1 l2 : Option VV} {S : MM} : rn xX8_tryOut (23, [some (.inr (.inl a)), l1, l2], [], S) = rn xX8_tryOut (24, [some (.inr (.inl a)), l1, l2], [.inr (.inl a)], S) := rn_step dX8_tryOut_23 rfl rfl
theorem eX8_tryOut_24 {l0 l1 l2 : Option VV} {S : MM} : rn xX8_tryOut (24, [l0, l1, l2], [vR 0], S) = rn xX8_tryOut (27, [l0, l1, l2], [vR 79], S) := q_getR dX8_tryOut_24 rfl ⟨⟨by decide, by decide⟩, by decide⟩ (fun _ => by decide +kernel) kd0
theorem eX8_tryOut_27 {l0 l1 l2 : Option VV} {v0 : VV} {S : MM} : rn xX8_tryOut (27, [l0, l1, l2], [v0], S) = rn xX8_tryOut (28, [l0, l1, l2], [vI 3, v0], S) := rn_step dX8_tryOut_27 rfl rfl
theorem eX8_tryOut_28 {a : Int} {l0 l1 : Option VV} {v0 v1 : VV} {S : MM} : rn xX8_tryOut (28, [l0, l1, some (vI a)], [v0, v1], S) = rn xX8_tryOut (29, [l0, l1, some (vI a)], [vI a, v0, v1], S) := rn_step dX8_tryOut_28 rfl rfl
theorem eX8_tryOut_29 {a0 : Int} {a1 : Int} {i : Nat} {l0 l1 l2 : Option VV} (h : kd i = 7) {S : MM} : rn xX8_tryOut (29, [l0, l1, l2], [vI a1, vI a0, vR i], S) = (fX7_change [vR i, vI a0, vI a1] S).bind (fun q => rn xX8_tryOut (32, [l0, l1, l2], q.1.toList ++ [], q.2)) := q_callV (n := 2) (as := [vI a0, vI a1]) (rest := []) dX8_tryOut_29 rfl rfl rfl rfl h
theorem eX8_tryOut_32 {a : Option Nat} {l1 l2 : Option VV} {S : MM} : rn xX8_tryOut (32, [some (.inr (.inl a)), l1, l2], [], S) = rn xX8_tryOut (33, [some (.inr (.inl a)), l1, l2], [.inr (.inl a)], S) := rn_step dX8_tryOut_32 rfl rfl
theorem eX8_tryOut_33 {l0 l1 l2 : Option VV} {S : MM} : rn xX8_tryOut (33, [l0, l1, l2], [vR 0], S) = rn xX8_tryOut (36, [l0, l1, l2], [vR 71], S) := q_getR dX8_tryOut_33 rfl ⟨⟨by decide, by decide⟩, by decide⟩ (fun _ => by decide +kernel) kd0
theorem eX8_tryOut_36 {a : Option Nat} {l1 l2 : Option VV} {v0 : VV} {S : MM} : rn xX8_tryOut (36, [some (.inr (.inl a)), l1, l2], [v0], S) = rn xX8_tryOut (37, [some (.inr (.inl a)), l1, l2], [.inr (.inl a), v0], S) := rn_step dX8_tryOut_36 rfl rfl
theorem eX8_tryOut_37 {l0 l1 l2 : Option VV} {v1 : VV} {S : MM} : rn xX8_tryOut (37, [l0, l1, l2], [vR 0, v1], S) = rn xX8_tryOut (40, [l0, l1, l2], [vR 1, v1], S) := q_getR dX8_tryOut_37 rfl ⟨⟨by decide, by decide⟩, by decide⟩ (fun _ => by decide +kernel) kd0
theorem eX8_tryOut_40 {i : Nat} {l0 l1 l2 : Option VV} {v1 : VV} (h : kd i = 6) {S : MM} : rn xX8_tryOut (40, [l0, l1, l2], [vR i, v1], S) = rn xX8_tryOut (43, [l0, l1, l2], [vR (i + 3), v1], S) := q_getR dX8_tryOut_40 rfl ⟨⟨by decide, by decide⟩, by decide⟩ (fun h => (fref6 h).trans (by first | rfl | omega)) h
theorem eX8_tryOut_43 {a : Option Nat} {l1 l2 : Option VV} {v0 v1 : VV} {S : MM} : rn xX8_tryOut (43, [some (.inr (.inl a)), l1, l2], [v0, v1], S) = rn xX8_tryOut (44, [some (.inr (.inl a)), l1, l2], [.inr (.inl a), v0, v1], S) := rn_step dX8_tryOut_43 rfl rfl
theorem eX8_tryOut_44 {l0 l1 l2 : Option VV} {v1 v2 : VV} {S : MM} : rn xX8_tryOut (44, [l0, l1, l2], [vR 0, v1, v2], S) = rn xX8_tryOut (47, [l0, l1, l2], [vR 79, v1, v2], S) := q_getR dX8_tryOut_44 rfl ⟨⟨by decide, by decide⟩, by decide⟩ (fun _ => by decide +kernel) kd0
theorem eX8_tryOut_47 {a0 : Option Nat} {a1 : Option Nat} {i : Nat} {l0 l1 l2 : Option VV} (h : kd i = 0) {S : MM} : rn xX8_tryOut (47, [l0, l1, l2], [.inr (.inl a1), .inr (.inl a0), vR i], S) = (fX0_start [vR i, .inr (.inl a0), .inr (.inl a1)] S).bind (fun q => rn xX8_tryOut (50, [l0, l1, l2], q.1.toList ++ [], q.2)) := q_callV (n := 2) (as := [.inr (.inl a0), .inr (.inl a1)]) (rest := []) dX8_tryOut_47 rfl rfl rfl rfl h
theorem eX8_tryOut_50 {a : Option Nat} {l1 l2 : Option VV} {S : MM} : rn xX8_tryOut (50, [some (.inr (.inl a)), l1, l2], [], S) = rn xX8_tryOut (51, [some (.inr (.inl a)), l1, l2], [.inr (.inl a)], S) := rn_step dX8_tryOut_50 rfl rfl
theorem eX8_tryOut_51 {l0 l1 l2 : Option VV} {S : MM} : rn xX8_tryOut (51, [l0, l1, l2], [vR 0], S) = rn xX8_tryOut (54, [l0, l1, l2], [vR 71], S) := q_getR dX8_tryOut_51 rfl ⟨⟨by decide, by decide⟩, by decide⟩ (fun _ => by decide +kernel) kd0
theorem eX8_tryOut_54 {a : Option Nat} {l1 l2 : Option VV} {v0 : VV} {S : MM} : rn xX8_tryOut (54, [some (.inr (.inl a)), l1, l2], [v0], S) = rn xX8_tryOut (55, [some (.inr (.inl a)), l1, l2], [.inr (.inl a), v0], S) := rn_step dX8_tryOut_54 rfl rfl
theorem eX8_tryOut_55 {l0 l1 l2 : Option VV} {v1 : VV} {S : MM} : rn xX8_tryOut (55, [l0, l1, l2], [vR 0, v1], S) = rn xX8_tryOut (58, [l0, l1, l2], [vR 1, v1], S) := q_getR dX8_tryOut_55 rfl ⟨⟨by decide, by decide⟩, by decide⟩ (fun _ => by decide +kernel) kd0
theorem eX8_tryOut_58 {i : Nat} {l0 l1 l2 : Option VV} {v1 : VV} (h : kd i = 6) {S : MM} : rn xX8_tryOut (58, [l0, l1, l2], [vR i, v1], S) = rn xX8_tryOut (61, [l0, l1, l2], [vR (i + 3), v1], S) := q_getR dX8_tryOut_58 rfl ⟨⟨by decide, by decide⟩, by decide⟩ (fun h => (fref6 h).trans (by first | rfl | omega)) h
theorem eX8_tryOut_61 {a : Option Nat} {l1 l2 : Option VV} {v0 v1 : VV} {S : MM} : rn xX8_tryOut (61, [some (.inr (.inl a)), l1, l2], [v0, v1], S) = rn xX8_tryOut (62, [some (.inr (.inl a)), l1, l2], [.inr (.inl a), v0, v1], S) := rn_step dX8_tryOut_61 rfl rfl
theorem eX8_tryOut_62 {l0 l1 l2 : Option VV} {v1 v2 : VV} {S : MM} : rn xX8_tryOut (62, [l0, l1, l2], [vR 0, v1, v2], S) = rn xX8_tryOut (65, [l0, l1, l2], [vR 79, v1, v2], S) := q_getR dX8_tryOut_62 rfl ⟨⟨by decide, by decide⟩, by decide⟩ (fun _ => by decide +kernel) kd0
theorem eX8_tryOut_65 {a0 : Option Nat} {a1 : Option Nat} {i : Nat} {l0 l1 l2 : Option VV} (h : kd i = 0) {S : MM} : rn xX8_tryOut (65, [l0, l1, l2], [.inr (.inl a1), .inr (.inl a0), vR i], S) = (fX0_finish [vR i, .inr (.inl a0), .inr (.inl a1)] S).bind (fun q => rn xX8_tryOut (68, [l0, l1, l2], q.1.toList ++ [], q.2)) := q_callV (n := 2) (as := [.inr (.inl a0), .inr (.inl a1)]) (rest := []) dX8_tryOut_65 rfl rfl rfl rfl h
theorem eX8_tryOut_68 {a : Int} {l0 l1 l2 : Option VV} {S : MM} : rn xX8_tryOut (68, [l0, l1, l2], [vI a], S) = rn xX8_tryOut (69, [l0, l1, l2], [], S) := rn_step dX8_tryOut_68 rfl rfl
theorem eX8_tryOut_69 {l0 l1 l2 : Option VV} {S : MM} : rn xX8_tryOut (69, [l0, l1, l2], [], S) = some (none, S) := q_retV dX8_tryOut_69 rfl
noncomputable def qlX8_runWith : List CE := [(1, 57, 0, 3, fX8_isBetween), (0, 195, 8, 3, fX8_tryOut), (0, 199, 0, 1, fX0_leaps), (0, 202, 0, 1, fX0_looks)]
noncomputable def xX8_runWith : XX := (cX8_runWith, fcF fcl8, mcF qlX8_runWith, 1)
noncomputable def fX8_runWith : FN := fnX xX8_runWith 4
set_option maxRecDepth 100000 in
theorem cwX8_runWith : Cond.code yX8_runWith cX8_runWith 4 (some .int) ∈ lw_g := lw_gm 836 (by decide +kernel) (by decide +kernel)
set_option maxRecDepth 100000 in
theorem conX8_runWith : Con yX8_runWith cX8_runWith 4 (some .int) { frames := 7, cells := 0, slots := 0, locals := 170 } fX8_runWith := con_of (X := xX8_runWith) (own := "LeapStones") (ql := qlX8_runWith) (by decide) rfl FOK8 rfl (List.forall_mem_cons.mpr ⟨call_S conX8_isBetween cwX8_isBetween (lw_gl _ [250, 251, 21] (by decide +kernel) (by decide +kernel)) ⟨by decide, by decide, by decide +kernel⟩ ⟨rfl, rfl⟩ ⟨by decide, by decide⟩ ⟨Nat.le_refl _, Nat.le_refl _⟩, List.forall_mem_cons.mpr ⟨call_V conX8_tryOut cwX8_tryOut (lw_gl _ [837, 839, 19, 21] (by decide +kernel) (by decide +kernel)) (by decide) rfl ⟨by decide, by decide, by decide +kernel⟩ ⟨rfl, rfl⟩ ⟨by decide, by decide⟩ ⟨Nat.le_refl _, Nat.le_refl _⟩, List.forall_mem_cons.mpr ⟨call_V conX0_leaps cwX0_leaps (lw_gl _ [844, 845, 846, 28] (by decide +kernel) (by decide +kernel)) (by decide) rfl ⟨by decide, by decide, by decide +kernel⟩ ⟨rfl, rfl⟩ ⟨by decide, by decide⟩ ⟨Nat.le_refl _, Nat.le_refl _⟩, List.forall_mem_cons.mpr ⟨call_V conX0_looks cwX0_looks (lw_gl _ [848, 849, 850, 28] (by decide +kernel) (by decide +kernel)) (by decide) rfl ⟨by decide, by decide, by decide +kernel⟩ ⟨rfl, rfl⟩ ⟨by decide, by decide⟩ ⟨Nat.le_refl _, Nat.le_refl _⟩, fun _ h => absurd h List.not_mem_nil⟩⟩⟩⟩) (Or.inr (Or.inl ⟨rfl, rfl⟩))
theorem uX8_runWith {i : Nat} {a0 : Int} {a1 : Int} {a2 : Int} {S : MM} : fX8_runWith [vR i, vI a0, vI a1, vI a2] S = rn xX8_runWith (0, [some (vR i), some (vI a0), some (vI a1), some (vI a2)], [], S) := rfl
theorem dX8_runWith_0 : decode cX8_runWith 0 = .ok (.iload_n 1, 1) := by decide +kernel
theorem dX8_runWith_1 : decode cX8_runWith 1 = .ok (.iconst 0, 1) := by decide +kernel
theorem dX8_runWith_2 : decode cX8_runWith 2 = .ok (.iconst 2, 1) := by decide +kernel
theorem dX8_runWith_3 : decode cX8_runWith 3 = .ok (.invokestatic 57, 3) := by decide +kernel
theorem dX8_runWith_6 : decode cX8_runWith 6 = .ok (.ifCond .eq 21, 3) := by decide +kernel
theorem dX8_runWith_9 : decode cX8_runWith 9 = .ok (.iload_n 2, 1) := by decide +kernel
theorem dX8_runWith_10 : decode cX8_runWith 10 = .ok (.iconst 0, 1) := by decide +kernel
theorem dX8_runWith_11 : decode cX8_runWith 11 = .ok (.iconst 5, 1) := by decide +kernel
theorem dX8_runWith_12 : decode cX8_runWith 12 = .ok (.invokestatic 57, 3) := by decide +kernel
theorem dX8_runWith_15 : decode cX8_runWith 15 = .ok (.ifCond .eq 12, 3) := by decide +kernel
theorem dX8_runWith_18 : decode cX8_runWith 18 = .ok (.iload_n 3, 1) := by decide +kernel
theorem dX8_runWith_19 : decode cX8_runWith 19 = .ok (.iconst 0, 1) := by decide +kernel
theorem dX8_runWith_20 : decode cX8_runWith 20 = .ok (.iconst 1, 1) := by decide +kernel
theorem dX8_runWith_21 : decode cX8_runWith 21 = .ok (.invokestatic 57, 3) := by decide +kernel
theorem dX8_runWith_24 : decode cX8_runWith 24 = .ok (.ifCond .ne 6, 3) := by decide +kernel
theorem dX8_runWith_27 : decode cX8_runWith 27 = .ok (.bipush (-2), 2) := by decide +kernel
theorem dX8_runWith_29 : decode cX8_runWith 29 = .ok (.ireturn, 1) := by decide +kernel
theorem dX8_runWith_30 : decode cX8_runWith 30 = .ok (.aload_n 0, 1) := by decide +kernel
theorem dX8_runWith_31 : decode cX8_runWith 31 = .ok (.iload_n 1, 1) := by decide +kernel
theorem dX8_runWith_32 : decode cX8_runWith 32 = .ok (.iload_n 2, 1) := by decide +kernel
theorem dX8_runWith_33 : decode cX8_runWith 33 = .ok (.invokevirtual 195, 3) := by decide +kernel
theorem dX8_runWith_36 : decode cX8_runWith 36 = .ok (.iload_n 3, 1) := by decide +kernel
theorem dX8_runWith_37 : decode cX8_runWith 37 = .ok (.ifCond .ne 13, 3) := by decide +kernel
theorem dX8_runWith_40 : decode cX8_runWith 40 = .ok (.aload_n 0, 1) := by decide +kernel
theorem dX8_runWith_41 : decode cX8_runWith 41 = .ok (.getfield 46, 3) := by decide +kernel
theorem dX8_runWith_44 : decode cX8_runWith 44 = .ok (.invokevirtual 199, 3) := by decide +kernel
theorem dX8_runWith_47 : decode cX8_runWith 47 = .ok (.goto 10, 3) := by decide +kernel
theorem dX8_runWith_50 : decode cX8_runWith 50 = .ok (.aload_n 0, 1) := by decide +kernel
theorem dX8_runWith_51 : decode cX8_runWith 51 = .ok (.getfield 46, 3) := by decide +kernel
theorem dX8_runWith_54 : decode cX8_runWith 54 = .ok (.invokevirtual 202, 3) := by decide +kernel
theorem dX8_runWith_57 : decode cX8_runWith 57 = .ok (.ireturn, 1) := by decide +kernel
theorem eX8_runWith_0 {a : Int} {l0 l2 l3 : Option VV} {S : MM} : rn xX8_runWith (0, [l0, some (vI a), l2, l3], [], S) = rn xX8_runWith (1, [l0, some (vI a), l2, l3], [vI a], S) := rn_step dX8_runWith_0 rfl rfl
theorem eX8_runWith_1 {l0 l1 l2 l3 : Option VV} {v0 : VV} {S : MM} : rn xX8_runWith (1, [l0, l1, l2, l3], [v0], S) = rn xX8_runWith (2, [l0, l1, l2, l3], [vI 0, v0], S) := rn_step dX8_runWith_1 rfl rfl
theorem eX8_runWith_2 {l0 l1 l2 l3 : Option VV} {v0 v1 : VV} {S : MM} : rn xX8_runWith (2, [l0, l1, l2, l3], [v0, v1], S) = rn xX8_runWith (3, [l0, l1, l2, l3], [vI 2, v0, v1], S) := rn_step dX8_runWith_2 rfl rfl
theorem eX8_runWith_3 {a0 : Int} {a1 : Int} {a2 : Int} {l0 l1 l2 l3 : Option VV} {S : MM} : rn xX8_runWith (3, [l0, l1, l2, l3], [vI a2, vI a1, vI a0], S) = (fX8_isBetween [vI a0, vI a1, vI a2] S).bind (fun q => rn xX8_runWith (6, [l0, l1, l2, l3], q.1.toList ++ [], q.2)) := q_callS (n := 3) (as := [vI a0, vI a1, vI a2]) (rest := []) dX8_runWith_3 rfl rfl rfl rfl
theorem eX8_runWith_6 {a : Int} {l0 l1 l2 l3 : Option VV} (h : -2147483648 ≤ a ∧ a ≤ 2147483647) {S : MM} : rn xX8_runWith (6, [l0, l1, l2, l3], [vI a], S) = if a = 0 then rn xX8_runWith (27, [l0, l1, l2, l3], [], S) else rn xX8_runWith (9, [l0, l1, l2, l3], [], S) := q_if_eq dX8_runWith_6 (by decide) rfl h
theorem eX8_runWith_9 {a : Int} {l0 l1 l3 : Option VV} {S : MM} : rn xX8_runWith (9, [l0, l1, some (vI a), l3], [], S) = rn xX8_runWith (10, [l0, l1, some (vI a), l3], [vI a], S) := rn_step dX8_runWith_9 rfl rfl
theorem eX8_runWith_10 {l0 l1 l2 l3 : Option VV} {v0 : VV} {S : MM} : rn xX8_runWith (10, [l0, l1, l2, l3], [v0], S) = rn xX8_runWith (11, [l0, l1, l2, l3], [vI 0, v0], S) := rn_step dX8_runWith_10 rfl rfl
theorem eX8_runWith_11 {l0 l1 l2 l3 : Option VV} {v0 v1 : VV} {S : MM} : rn xX8_runWith (11, [l0, l1, l2, l3], [v0, v1], S) = rn xX8_runWith (12, [l0, l1, l2, l3], [vI 5, v0, v1], S) := rn_step dX8_runWith_11 rfl rfl
theorem eX8_runWith_12 {a0 : Int} {a1 : Int} {a2 : Int} {l0 l1 l2 l3 : Option VV} {S : MM} : rn xX8_runWith (12, [l0, l1, l2, l3], [vI a2, vI a1, vI a0], S) = (fX8_isBetween [vI a0, vI a1, vI a2] S).bind (fun q => rn xX8_runWith (15, [l0, l1, l2, l3], q.1.toList ++ [], q.2)) := q_callS (n := 3) (as := [vI a0, vI a1, vI a2]) (rest := []) dX8_runWith_12 rfl rfl rfl rfl
theorem eX8_runWith_15 {a : Int} {l0 l1 l2 l3 : Option VV} (h : -2147483648 ≤ a ∧ a ≤ 2147483647) {S : MM} : rn xX8_runWith (15, [l0, l1, l2, l3], [vI a], S) = if a = 0 then rn xX8_runWith (27, [l0, l1, l2, l3], [], S) else rn xX8_runWith (18, [l0, l1, l2, l3], [], S) := q_if_eq dX8_runWith_15 (by decide) rfl h
theorem eX8_runWith_18 {a : Int} {l0 l1 l2 : Option VV} {S : MM} : rn xX8_runWith (18, [l0, l1, l2, some (vI a)], [], S) = rn xX8_runWith (19, [l0, l1, l2, some (vI a)], [vI a], S) := rn_step dX8_runWith_18 rfl rfl
theorem eX8_runWith_19 {l0 l1 l2 l3 : Option VV} {v0 : VV} {S : MM} : rn xX8_runWith (19, [l0, l1, l2, l3], [v0], S) = rn xX8_runWith (20, [l0, l1, l2, l3], [vI 0, v0], S) := rn_step dX8_runWith_19 rfl rfl
theorem eX8_runWith_20 {l0 l1 l2 l3 : Option VV} {v0 v1 : VV} {S : MM} : rn xX8_runWith (20, [l0, l1, l2, l3], [v0, v1], S) = rn xX8_runWith (21, [l0, l1, l2, l3], [vI 1, v0, v1], S) := rn_step dX8_runWith_20 rfl rfl
theorem eX8_runWith_21 {a0 : Int} {a1 : Int} {a2 : Int} {l0 l1 l2 l3 : Option VV} {S : MM} : rn xX8_runWith (21, [l0, l1, l2, l3], [vI a2, vI a1, vI a0], S) = (fX8_isBetween [vI a0, vI a1, vI a2] S).bind (fun q => rn xX8_runWith (24, [l0, l1, l2, l3], q.1.toList ++ [], q.2)) := q_callS (n := 3) (as := [vI a0, vI a1, vI a2]) (rest := []) dX8_runWith_21 rfl rfl rfl rfl
theorem eX8_runWith_24 {a : Int} {l0 l1 l2 l3 : Option VV} (h : -2147483648 ≤ a ∧ a ≤ 2147483647) {S : MM} : rn xX8_runWith (24, [l0, l1, l2, l3], [vI a], S) = if a = 0 then rn xX8_runWith (27, [l0, l1, l2, l3], [], S) else rn xX8_runWith (30, [l0, l1, l2, l3], [], S) := q_if_ne dX8_runWith_24 (by decide) rfl h
theorem eX8_runWith_27 {l0 l1 l2 l3 : Option VV} {S : MM} : rn xX8_runWith (27, [l0, l1, l2, l3], [], S) = rn xX8_runWith (29, [l0, l1, l2, l3], [vI (-2)], S) := rn_step dX8_runWith_27 rfl rfl
theorem eX8_runWith_29 {z : Int} {l0 l1 l2 l3 : Option VV} {S : MM} : rn xX8_runWith (29, [l0, l1, l2, l3], [vI z], S) = some (some (vI z), S) := q_retI dX8_runWith_29 rfl
theorem eX8_runWith_30 {a : Option Nat} {l1 l2 l3 : Option VV} {S : MM} : rn xX8_runWith (30, [some (.inr (.inl a)), l1, l2, l3], [], S) = rn xX8_runWith (31, [some (.inr (.inl a)), l1, l2, l3], [.inr (.inl a)], S) := rn_step dX8_runWith_30 rfl rfl
theorem eX8_runWith_31 {a : Int} {l0 l2 l3 : Option VV} {v0 : VV} {S : MM} : rn xX8_runWith (31, [l0, some (vI a), l2, l3], [v0], S) = rn xX8_runWith (32, [l0, some (vI a), l2, l3], [vI a, v0], S) := rn_step dX8_runWith_31 rfl rfl
theorem eX8_runWith_32 {a : Int} {l0 l1 l3 : Option VV} {v0 v1 : VV} {S : MM} : rn xX8_runWith (32, [l0, l1, some (vI a), l3], [v0, v1], S) = rn xX8_runWith (33, [l0, l1, some (vI a), l3], [vI a, v0, v1], S) := rn_step dX8_runWith_32 rfl rfl
theorem eX8_runWith_33 {a0 : Int} {a1 : Int} {l0 l1 l2 l3 : Option VV} {S : MM} : rn xX8_runWith (33, [l0, l1, l2, l3], [vI a1, vI a0, vR 0], S) = (fX8_tryOut [vR 0, vI a0, vI a1] S).bind (fun q => rn xX8_runWith (36, [l0, l1, l2, l3], q.1.toList ++ [], q.2)) := q_callV (n := 2) (as := [vI a0, vI a1]) (rest := []) dX8_runWith_33 rfl rfl rfl rfl kd0
theorem eX8_runWith_36 {a : Int} {l0 l1 l2 : Option VV} {S : MM} : rn xX8_runWith (36, [l0, l1, l2, some (vI a)], [], S) = rn xX8_runWith (37, [l0, l1, l2, some (vI a)], [vI a], S) := rn_step dX8_runWith_36 rfl rfl
theorem eX8_runWith_37 {a : Int} {l0 l1 l2 l3 : Option VV} (h : -2147483648 ≤ a ∧ a ≤ 2147483647) {S : MM} : rn xX8_runWith (37, [l0, l1, l2, l3], [vI a], S) = if a = 0 then rn xX8_runWith (40, [l0, l1, l2, l3], [], S) else rn xX8_runWith (50, [l0, l1, l2, l3], [], S) := q_if_ne dX8_runWith_37 (by decide) rfl h
theorem eX8_runWith_40 {a : Option Nat} {l1 l2 l3 : Option VV} {S : MM} : rn xX8_runWith (40, [some (.inr (.inl a)), l1, l2, l3], [], S) = rn xX8_runWith (41, [some (.inr (.inl a)), l1, l2, l3], [.inr (.inl a)], S) := rn_step dX8_runWith_40 rfl rfl
theorem eX8_runWith_41 {l0 l1 l2 l3 : Option VV} {S : MM} : rn xX8_runWith (41, [l0, l1, l2, l3], [vR 0], S) = rn xX8_runWith (44, [l0, l1, l2, l3], [vR 71], S) := q_getR dX8_runWith_41 rfl ⟨⟨by decide, by decide⟩, by decide⟩ (fun _ => by decide +kernel) kd0
theorem eX8_runWith_44 {i : Nat} {l0 l1 l2 l3 : Option VV} (h : kd i = 0) {S : MM} : rn xX8_runWith (44, [l0, l1, l2, l3], [vR i], S) = (fX0_leaps [vR i] S).bind (fun q => rn xX8_runWith (47, [l0, l1, l2, l3], q.1.toList ++ [], q.2)) := q_callV (n := 0) (as := []) (rest := []) dX8_runWith_44 rfl rfl rfl rfl h
theorem eX8_runWith_47 {l0 l1 l2 l3 : Option VV} {v0 : VV} {S : MM} : rn xX8_runWith (47, [l0, l1, l2, l3], [v0], S) = rn xX8_runWith (57, [l0, l1, l2, l3], [v0], S) := rn_step dX8_runWith_47 rfl rfl
theorem eX8_runWith_50 {a : Option Nat} {l1 l2 l3 : Option VV} {S : MM} : rn xX8_runWith (50, [some (.inr (.inl a)), l1, l2, l3], [], S) = rn xX8_runWith (51, [some (.inr (.inl a)), l1, l2, l3], [.inr (.inl a)], S) := rn_step dX8_runWith_50 rfl rfl
theorem eX8_runWith_51 {l0 l1 l2 l3 : Option VV} {S : MM} : rn xX8_runWith (51, [l0, l1, l2, l3], [vR 0], S) = rn xX8_runWith (54, [l0, l1, l2, l3], [vR 71], S) := q_getR dX8_runWith_51 rfl ⟨⟨by decide, by decide⟩, by decide⟩ (fun _ => by decide +kernel) kd0
theorem eX8_runWith_54 {i : Nat} {l0 l1 l2 l3 : Option VV} (h : kd i = 0) {S : MM} : rn xX8_runWith (54, [l0, l1, l2, l3], [vR i], S) = (fX0_looks [vR i] S).bind (fun q => rn xX8_runWith (57, [l0, l1, l2, l3], q.1.toList ++ [], q.2)) := q_callV (n := 0) (as := []) (rest := []) dX8_runWith_54 rfl rfl rfl rfl h
theorem eX8_runWith_57 {z : Int} {l0 l1 l2 l3 : Option VV} {S : MM} : rn xX8_runWith (57, [l0, l1, l2, l3], [vI z], S) = some (some (vI z), S) := q_retI dX8_runWith_57 rfl
noncomputable def qlX8_cheapest : List CE := [(1, 57, 0, 3, fX8_isBetween), (0, 195, 8, 3, fX8_tryOut), (0, 202, 0, 1, fX0_looks)]
noncomputable def xX8_cheapest : XX := (cX8_cheapest, fcF fcl8, mcF qlX8_cheapest, 1)
noncomputable def fX8_cheapest : FN := fnX xX8_cheapest 7
set_option maxRecDepth 100000 in
theorem cwX8_cheapest : Cond.code yX8_cheapest cX8_cheapest 7 (some .int) ∈ lw_g := lw_gm 855 (by decide +kernel) (by decide +kernel)
set_option maxRecDepth 100000 in
theorem conX8_cheapest : Con yX8_cheapest cX8_cheapest 7 (some .int) { frames := 7, cells := 0, slots := 0, locals := 170 } fX8_cheapest := con_of (X := xX8_cheapest) (own := "LeapStones") (ql := qlX8_cheapest) (by decide) rfl FOK8 rfl (List.forall_mem_cons.mpr ⟨call_S conX8_isBetween cwX8_isBetween (lw_gl _ [250, 251, 21] (by decide +kernel) (by decide +kernel)) ⟨by decide, by decide, by decide +kernel⟩ ⟨rfl, rfl⟩ ⟨by decide, by decide⟩ ⟨Nat.le_refl _, Nat.le_refl _⟩, List.forall_mem_cons.mpr ⟨call_V conX8_tryOut cwX8_tryOut (lw_gl _ [837, 839, 19, 21] (by decide +kernel) (by decide +kernel)) (by decide) rfl ⟨by decide, by decide, by decide +kernel⟩ ⟨rfl, rfl⟩ ⟨by decide, by decide⟩ ⟨Nat.le_refl _, Nat.le_refl _⟩, List.forall_mem_cons.mpr ⟨call_V conX0_looks cwX0_looks (lw_gl _ [848, 849, 850, 28] (by decide +kernel) (by decide +kernel)) (by decide) rfl ⟨by decide, by decide, by decide +kernel⟩ ⟨rfl, rfl⟩ ⟨by decide, by decide⟩ ⟨Nat.le_refl _, Nat.le_refl _⟩, fun _ h => absurd h List.not_mem_nil⟩⟩⟩) (Or.inr (Or.inl ⟨rfl, rfl⟩))
theorem uX8_cheapest {i : Nat} {a0 : Int} {S : MM} : fX8_cheapest [vR i, vI a0] S = rn xX8_cheapest (0, [some (vR i), some (vI a0), none, none, none, none, none], [], S) := rfl
theorem dX8_cheapest_0 : decode cX8_cheapest 0 = .ok (.iload_n 1, 1) := by decide +kernel
theorem dX8_cheapest_1 : decode cX8_cheapest 1 = .ok (.iconst 0, 1) := by decide +kernel
theorem dX8_cheapest_2 : decode cX8_cheapest 2 = .ok (.iconst 2, 1) := by decide +kernel
theorem dX8_cheapest_3 : decode cX8_cheapest 3 = .ok (.invokestatic 57, 3) := by decide +kernel
theorem dX8_cheapest_6 : decode cX8_cheapest 6 = .ok (.ifCond .ne 6, 3) := by decide +kernel
theorem dX8_cheapest_9 : decode cX8_cheapest 9 = .ok (.bipush (-2), 2) := by decide +kernel
theorem dX8_cheapest_11 : decode cX8_cheapest 11 = .ok (.ireturn, 1) := by decide +kernel
theorem dX8_cheapest_12 : decode cX8_cheapest 12 = .ok (.iconst 0, 1) := by decide +kernel
theorem dX8_cheapest_13 : decode cX8_cheapest 13 = .ok (.istore_n 2, 1) := by decide +kernel
theorem dX8_cheapest_14 : decode cX8_cheapest 14 = .ok (.iconst 0, 1) := by decide +kernel
theorem dX8_cheapest_15 : decode cX8_cheapest 15 = .ok (.istore_n 3, 1) := by decide +kernel
theorem dX8_cheapest_16 : decode cX8_cheapest 16 = .ok (.bipush (-6), 2) := by decide +kernel
theorem dX8_cheapest_18 : decode cX8_cheapest 18 = .ok (.istore 4, 2) := by decide +kernel
theorem dX8_cheapest_20 : decode cX8_cheapest 20 = .ok (.iconst 0, 1) := by decide +kernel
theorem dX8_cheapest_21 : decode cX8_cheapest 21 = .ok (.istore 5, 2) := by decide +kernel
theorem dX8_cheapest_23 : decode cX8_cheapest 23 = .ok (.iload 5, 2) := by decide +kernel
theorem dX8_cheapest_25 : decode cX8_cheapest 25 = .ok (.iconst 2, 1) := by decide +kernel
theorem dX8_cheapest_26 : decode cX8_cheapest 26 = .ok (.if_icmp .gt 66, 3) := by decide +kernel
theorem dX8_cheapest_29 : decode cX8_cheapest 29 = .ok (.iconst 0, 1) := by decide +kernel
theorem dX8_cheapest_30 : decode cX8_cheapest 30 = .ok (.istore 6, 2) := by decide +kernel
theorem dX8_cheapest_32 : decode cX8_cheapest 32 = .ok (.iload 6, 2) := by decide +kernel
theorem dX8_cheapest_34 : decode cX8_cheapest 34 = .ok (.iconst 5, 1) := by decide +kernel
theorem dX8_cheapest_35 : decode cX8_cheapest 35 = .ok (.if_icmp .gt 51, 3) := by decide +kernel
theorem dX8_cheapest_38 : decode cX8_cheapest 38 = .ok (.aload_n 0, 1) := by decide +kernel
theorem dX8_cheapest_39 : decode cX8_cheapest 39 = .ok (.iload 5, 2) := by decide +kernel
theorem dX8_cheapest_41 : decode cX8_cheapest 41 = .ok (.iload 6, 2) := by decide +kernel
theorem dX8_cheapest_43 : decode cX8_cheapest 43 = .ok (.invokevirtual 195, 3) := by decide +kernel
theorem dX8_cheapest_46 : decode cX8_cheapest 46 = .ok (.iload 4, 2) := by decide +kernel
theorem dX8_cheapest_48 : decode cX8_cheapest 48 = .ok (.bipush (-6), 2) := by decide +kernel
theorem dX8_cheapest_50 : decode cX8_cheapest 50 = .ok (.if_icmp .eq 15, 3) := by decide +kernel
theorem dX8_cheapest_53 : decode cX8_cheapest 53 = .ok (.aload_n 0, 1) := by decide +kernel
theorem dX8_cheapest_54 : decode cX8_cheapest 54 = .ok (.getfield 46, 3) := by decide +kernel
theorem dX8_cheapest_57 : decode cX8_cheapest 57 = .ok (.invokevirtual 202, 3) := by decide +kernel
theorem dX8_cheapest_60 : decode cX8_cheapest 60 = .ok (.iload 4, 2) := by decide +kernel
theorem dX8_cheapest_62 : decode cX8_cheapest 62 = .ok (.if_icmp .ge 18, 3) := by decide +kernel
theorem dX8_cheapest_65 : decode cX8_cheapest 65 = .ok (.aload_n 0, 1) := by decide +kernel
theorem dX8_cheapest_66 : decode cX8_cheapest 66 = .ok (.getfield 46, 3) := by decide +kernel
theorem dX8_cheapest_69 : decode cX8_cheapest 69 = .ok (.invokevirtual 202, 3) := by decide +kernel
theorem dX8_cheapest_72 : decode cX8_cheapest 72 = .ok (.istore 4, 2) := by decide +kernel
theorem dX8_cheapest_74 : decode cX8_cheapest 74 = .ok (.iload 5, 2) := by decide +kernel
theorem dX8_cheapest_76 : decode cX8_cheapest 76 = .ok (.istore_n 2, 1) := by decide +kernel
theorem dX8_cheapest_77 : decode cX8_cheapest 77 = .ok (.iload 6, 2) := by decide +kernel
theorem dX8_cheapest_79 : decode cX8_cheapest 79 = .ok (.istore_n 3, 1) := by decide +kernel
theorem dX8_cheapest_80 : decode cX8_cheapest 80 = .ok (.iinc 6 1, 3) := by decide +kernel
theorem dX8_cheapest_83 : decode cX8_cheapest 83 = .ok (.goto (-51), 3) := by decide +kernel
theorem dX8_cheapest_86 : decode cX8_cheapest 86 = .ok (.iinc 5 1, 3) := by decide +kernel
theorem dX8_cheapest_89 : decode cX8_cheapest 89 = .ok (.goto (-66), 3) := by decide +kernel
theorem dX8_cheapest_92 : decode cX8_cheapest 92 = .ok (.iload_n 1, 1) := by decide +kernel
theorem dX8_cheapest_93 : decode cX8_cheapest 93 = .ok (.ifCond .ne 7, 3) := by decide +kernel
theorem dX8_cheapest_96 : decode cX8_cheapest 96 = .ok (.iload_n 2, 1) := by decide +kernel
theorem dX8_cheapest_97 : decode cX8_cheapest 97 = .ok (.goto 14, 3) := by decide +kernel
theorem dX8_cheapest_100 : decode cX8_cheapest 100 = .ok (.iload_n 1, 1) := by decide +kernel
theorem dX8_cheapest_101 : decode cX8_cheapest 101 = .ok (.iconst 1, 1) := by decide +kernel
theorem dX8_cheapest_102 : decode cX8_cheapest 102 = .ok (.if_icmp .ne 7, 3) := by decide +kernel
theorem dX8_cheapest_105 : decode cX8_cheapest 105 = .ok (.iload_n 3, 1) := by decide +kernel
theorem dX8_cheapest_106 : decode cX8_cheapest 106 = .ok (.goto 5, 3) := by decide +kernel
theorem dX8_cheapest_109 : decode cX8_cheapest 109 = .ok (.iload 4, 2) := by decide +kernel
theorem dX8_cheapest_111 : decode cX8_cheapest 111 = .ok (.ireturn, 1) := by decide +kernel
theorem eX8_cheapest_0 {a : Int} {l0 l2 l3 l4 l5 l6 : Option VV} {S : MM} : rn xX8_cheapest (0, [l0, some (vI a), l2, l3, l4, l5, l6], [], S) = rn xX8_cheapest (1, [l0, some (vI a), l2, l3, l4, l5, l6], [vI a], S) := rn_step dX8_cheapest_0 rfl rfl
theorem eX8_cheapest_1 {l0 l1 l2 l3 l4 l5 l6 : Option VV} {v0 : VV} {S : MM} : rn xX8_cheapest (1, [l0, l1, l2, l3, l4, l5, l6], [v0], S) = rn xX8_cheapest (2, [l0, l1, l2, l3, l4, l5, l6], [vI 0, v0], S) := rn_step dX8_cheapest_1 rfl rfl
theorem eX8_cheapest_2 {l0 l1 l2 l3 l4 l5 l6 : Option VV} {v0 v1 : VV} {S : MM} : rn xX8_cheapest (2, [l0, l1, l2, l3, l4, l5, l6], [v0, v1], S) = rn xX8_cheapest (3, [l0, l1, l2, l3, l4, l5, l6], [vI 2, v0, v1], S) := rn_step dX8_cheapest_2 rfl rfl
theorem eX8_cheapest_3 {a0 : Int} {a1 : Int} {a2 : Int} {l0 l1 l2 l3 l4 l5 l6 : Option VV} {S : MM} : rn xX8_cheapest (3, [l0, l1, l2, l3, l4, l5, l6], [vI a2, vI a1, vI a0], S) = (fX8_isBetween [vI a0, vI a1, vI a2] S).bind (fun q => rn xX8_cheapest (6, [l0, l1, l2, l3, l4, l5, l6], q.1.toList ++ [], q.2)) := q_callS (n := 3) (as := [vI a0, vI a1, vI a2]) (rest := []) dX8_cheapest_3 rfl rfl rfl rfl
theorem eX8_cheapest_6 {a : Int} {l0 l1 l2 l3 l4 l5 l6 : Option VV} (h : -2147483648 ≤ a ∧ a ≤ 2147483647) {S : MM} : rn xX8_cheapest (6, [l0, l1, l2, l3, l4, l5, l6], [vI a], S) = if a = 0 then rn xX8_cheapest (9, [l0, l1, l2, l3, l4, l5, l6], [], S) else rn xX8_cheapest (12, [l0, l1, l2, l3, l4, l5, l6], [], S) := q_if_ne dX8_cheapest_6 (by decide) rfl h
theorem eX8_cheapest_9 {l0 l1 l2 l3 l4 l5 l6 : Option VV} {S : MM} : rn xX8_cheapest (9, [l0, l1, l2, l3, l4, l5, l6], [], S) = rn xX8_cheapest (11, [l0, l1, l2, l3, l4, l5, l6], [vI (-2)], S) := rn_step dX8_cheapest_9 rfl rfl
theorem eX8_cheapest_11 {z : Int} {l0 l1 l2 l3 l4 l5 l6 : Option VV} {S : MM} : rn xX8_cheapest (11, [l0, l1, l2, l3, l4, l5, l6], [vI z], S) = some (some (vI z), S) := q_retI dX8_cheapest_11 rfl
theorem eX8_cheapest_12 {l0 l1 l2 l3 l4 l5 l6 : Option VV} {S : MM} : rn xX8_cheapest (12, [l0, l1, l2, l3, l4, l5, l6], [], S) = rn xX8_cheapest (13, [l0, l1, l2, l3, l4, l5, l6], [vI 0], S) := rn_step dX8_cheapest_12 rfl rfl
theorem eX8_cheapest_13 {a : Int} {w : Int} {l0 l2 l3 l4 l5 l6 : Option VV} {S : MM} : rn xX8_cheapest (13, [l0, some (vI w), l2, l3, l4, l5, l6], [vI a], S) = rn xX8_cheapest (14, [l0, some (vI w), some (vI a), l3, l4, l5, l6], [], S) := rn_step dX8_cheapest_13 rfl rfl
theorem eX8_cheapest_14 {l0 l1 l2 l3 l4 l5 l6 : Option VV} {S : MM} : rn xX8_cheapest (14, [l0, l1, l2, l3, l4, l5, l6], [], S) = rn xX8_cheapest (15, [l0, l1, l2, l3, l4, l5, l6], [vI 0], S) := rn_step dX8_cheapest_14 rfl rfl
theorem eX8_cheapest_15 {a : Int} {w : Int} {l0 l1 l3 l4 l5 l6 : Option VV} {S : MM} : rn xX8_cheapest (15, [l0, l1, some (vI w), l3, l4, l5, l6], [vI a], S) = rn xX8_cheapest (16, [l0, l1, some (vI w), some (vI a), l4, l5, l6], [], S) := rn_step dX8_cheapest_15 rfl rfl
theorem eX8_cheapest_16 {l0 l1 l2 l3 l4 l5 l6 : Option VV} {S : MM} : rn xX8_cheapest (16, [l0, l1, l2, l3, l4, l5, l6], [], S) = rn xX8_cheapest (18, [l0, l1, l2, l3, l4, l5, l6], [vI (-6)], S) := rn_step dX8_cheapest_16 rfl rfl
theorem eX8_cheapest_18 {a : Int} {w : Int} {l0 l1 l2 l4 l5 l6 : Option VV} {S : MM} : rn xX8_cheapest (18, [l0, l1, l2, some (vI w), l4, l5, l6], [vI a], S) = rn xX8_cheapest (20, [l0, l1, l2, some (vI w), some (vI a), l5, l6], [], S) := rn_step dX8_cheapest_18 rfl rfl
theorem eX8_cheapest_20 {l0 l1 l2 l3 l4 l5 l6 : Option VV} {S : MM} : rn xX8_cheapest (20, [l0, l1, l2, l3, l4, l5, l6], [], S) = rn xX8_cheapest (21, [l0, l1, l2, l3, l4, l5, l6], [vI 0], S) := rn_step dX8_cheapest_20 rfl rfl
theorem eX8_cheapest_21 {a : Int} {w : Int} {l0 l1 l2 l3 l5 l6 : Option VV} {S : MM} : rn xX8_cheapest (21, [l0, l1, l2, l3, some (vI w), l5, l6], [vI a], S) = rn xX8_cheapest (23, [l0, l1, l2, l3, some (vI w), some (vI a), l6], [], S) := rn_step dX8_cheapest_21 rfl rfl
theorem eX8_cheapest_23 {a : Int} {l0 l1 l2 l3 l4 l6 : Option VV} {S : MM} : rn xX8_cheapest (23, [l0, l1, l2, l3, l4, some (vI a), l6], [], S) = rn xX8_cheapest (25, [l0, l1, l2, l3, l4, some (vI a), l6], [vI a], S) := rn_step dX8_cheapest_23 rfl rfl
theorem eX8_cheapest_25 {l0 l1 l2 l3 l4 l5 l6 : Option VV} {v0 : VV} {S : MM} : rn xX8_cheapest (25, [l0, l1, l2, l3, l4, l5, l6], [v0], S) = rn xX8_cheapest (26, [l0, l1, l2, l3, l4, l5, l6], [vI 2, v0], S) := rn_step dX8_cheapest_25 rfl rfl
theorem eX8_cheapest_26 {a b : Int} {l0 l1 l2 l3 l4 l5 l6 : Option VV} (h : -2147483648 ≤ a ∧ a ≤ 2147483647) (h1 : -2147483648 ≤ b ∧ b ≤ 2147483647) {S : MM} : rn xX8_cheapest (26, [l0, l1, l2, l3, l4, l5, l6], [vI b, vI a], S) = if b < a then rn xX8_cheapest (92, [l0, l1, l2, l3, l4, l5, l6], [], S) else rn xX8_cheapest (29, [l0, l1, l2, l3, l4, l5, l6], [], S) := q_icmp_gt dX8_cheapest_26 (by decide) rfl h h1
theorem eX8_cheapest_29 {l0 l1 l2 l3 l4 l5 l6 : Option VV} {S : MM} : rn xX8_cheapest (29, [l0, l1, l2, l3, l4, l5, l6], [], S) = rn xX8_cheapest (30, [l0, l1, l2, l3, l4, l5, l6], [vI 0], S) := rn_step dX8_cheapest_29 rfl rfl
theorem eX8_cheapest_30 {a : Int} {w : Int} {l0 l1 l2 l3 l4 l6 : Option VV} {S : MM} : rn xX8_cheapest (30, [l0, l1, l2, l3, l4, some (vI w), l6], [vI a], S) = rn xX8_cheapest (32, [l0, l1, l2, l3, l4, some (vI w), some (vI a)], [], S) := rn_step dX8_cheapest_30 rfl rfl
theorem eX8_cheapest_32 {a : Int} {l0 l1 l2 l3 l4 l5 : Option VV} {S : MM} : rn xX8_cheapest (32, [l0, l1, l2, l3, l4, l5, some (vI a)], [], S) = rn xX8_cheapest (34, [l0, l1, l2, l3, l4, l5, some (vI a)], [vI a], S) := rn_step dX8_cheapest_32 rfl rfl
theorem eX8_cheapest_34 {l0 l1 l2 l3 l4 l5 l6 : Option VV} {v0 : VV} {S : MM} : rn xX8_cheapest (34, [l0, l1, l2, l3, l4, l5, l6], [v0], S) = rn xX8_cheapest (35, [l0, l1, l2, l3, l4, l5, l6], [vI 5, v0], S) := rn_step dX8_cheapest_34 rfl rfl
theorem eX8_cheapest_35 {a b : Int} {l0 l1 l2 l3 l4 l5 l6 : Option VV} (h : -2147483648 ≤ a ∧ a ≤ 2147483647) (h1 : -2147483648 ≤ b ∧ b ≤ 2147483647) {S : MM} : rn xX8_cheapest (35, [l0, l1, l2, l3, l4, l5, l6], [vI b, vI a], S) = if b < a then rn xX8_cheapest (86, [l0, l1, l2, l3, l4, l5, l6], [], S) else rn xX8_cheapest (38, [l0, l1, l2, l3, l4, l5, l6], [], S) := q_icmp_gt dX8_cheapest_35 (by decide) rfl h h1
theorem eX8_cheapest_38 {a : Option Nat} {l1 l2 l3 l4 l5 l6 : Option VV} {S : MM} : rn xX8_cheapest (38, [some (.inr (.inl a)), l1, l2, l3, l4, l5, l6], [], S) = rn xX8_cheapest (39, [some (.inr (.inl a)), l1, l2, l3, l4, l5, l6], [.inr (.inl a)], S) := rn_step dX8_cheapest_38 rfl rfl
theorem eX8_cheapest_39 {a : Int} {l0 l1 l2 l3 l4 l6 : Option VV} {v0 : VV} {S : MM} : rn xX8_cheapest (39, [l0, l1, l2, l3, l4, some (vI a), l6], [v0], S) = rn xX8_cheapest (41, [l0, l1, l2, l3, l4, some (vI a), l6], [vI a, v0], S) := rn_step dX8_cheapest_39 rfl rfl
theorem eX8_cheapest_41 {a : Int} {l0 l1 l2 l3 l4 l5 : Option VV} {v0 v1 : VV} {S : MM} : rn xX8_cheapest (41, [l0, l1, l2, l3, l4, l5, some (vI a)], [v0, v1], S) = rn xX8_cheapest (43, [l0, l1, l2, l3, l4, l5, some (vI a)], [vI a, v0, v1], S) := rn_step dX8_cheapest_41 rfl rfl
theorem eX8_cheapest_43 {a0 : Int} {a1 : Int} {l0 l1 l2 l3 l4 l5 l6 : Option VV} {S : MM} : rn xX8_cheapest (43, [l0, l1, l2, l3, l4, l5, l6], [vI a1, vI a0, vR 0], S) = (fX8_tryOut [vR 0, vI a0, vI a1] S).bind (fun q => rn xX8_cheapest (46, [l0, l1, l2, l3, l4, l5, l6], q.1.toList ++ [], q.2)) := q_callV (n := 2) (as := [vI a0, vI a1]) (rest := []) dX8_cheapest_43 rfl rfl rfl rfl kd0
theorem eX8_cheapest_46 {a : Int} {l0 l1 l2 l3 l5 l6 : Option VV} {S : MM} : rn xX8_cheapest (46, [l0, l1, l2, l3, some (vI a), l5, l6], [], S) = rn xX8_cheapest (48, [l0, l1, l2, l3, some (vI a), l5, l6], [vI a], S) := rn_step dX8_cheapest_46 rfl rfl
theorem eX8_cheapest_48 {l0 l1 l2 l3 l4 l5 l6 : Option VV} {v0 : VV} {S : MM} : rn xX8_cheapest (48, [l0, l1, l2, l3, l4, l5, l6], [v0], S) = rn xX8_cheapest (50, [l0, l1, l2, l3, l4, l5, l6], [vI (-6), v0], S) := rn_step dX8_cheapest_48 rfl rfl
theorem eX8_cheapest_50 {a b : Int} {l0 l1 l2 l3 l4 l5 l6 : Option VV} (h : -2147483648 ≤ a ∧ a ≤ 2147483647) (h1 : -2147483648 ≤ b ∧ b ≤ 2147483647) {S : MM} : rn xX8_cheapest (50, [l0, l1, l2, l3, l4, l5, l6], [vI b, vI a], S) = if a = b then rn xX8_cheapest (65, [l0, l1, l2, l3, l4, l5, l6], [], S) else rn xX8_cheapest (53, [l0, l1, l2, l3, l4, l5, l6], [], S) := q_icmp_eq dX8_cheapest_50 (by decide) rfl h h1
theorem eX8_cheapest_53 {a : Option Nat} {l1 l2 l3 l4 l5 l6 : Option VV} {S : MM} : rn xX8_cheapest (53, [some (.inr (.inl a)), l1, l2, l3, l4, l5, l6], [], S) = rn xX8_cheapest (54, [some (.inr (.inl a)), l1, l2, l3, l4, l5, l6], [.inr (.inl a)], S) := rn_step dX8_cheapest_53 rfl rfl
theorem eX8_cheapest_54 {l0 l1 l2 l3 l4 l5 l6 : Option VV} {S : MM} : rn xX8_cheapest (54, [l0, l1, l2, l3, l4, l5, l6], [vR 0], S) = rn xX8_cheapest (57, [l0, l1, l2, l3, l4, l5, l6], [vR 71], S) := q_getR dX8_cheapest_54 rfl ⟨⟨by decide, by decide⟩, by decide⟩ (fun _ => by decide +kernel) kd0
theorem eX8_cheapest_57 {i : Nat} {l0 l1 l2 l3 l4 l5 l6 : Option VV} (h : kd i = 0) {S : MM} : rn xX8_cheapest (57, [l0, l1, l2, l3, l4, l5, l6], [vR i], S) = (fX0_looks [vR i] S).bind (fun q => rn xX8_cheapest (60, [l0, l1, l2, l3, l4, l5, l6], q.1.toList ++ [], q.2)) := q_callV (n := 0) (as := []) (rest := []) dX8_cheapest_57 rfl rfl rfl rfl h
theorem eX8_cheapest_60 {a : Int} {l0 l1 l2 l3 l5 l6 : Option VV} {v0 : VV} {S : MM} : rn xX8_cheapest (60, [l0, l1, l2, l3, some (vI a), l5, l6], [v0], S) = rn xX8_cheapest (62, [l0, l1, l2, l3, some (vI a), l5, l6], [vI a, v0], S) := rn_step dX8_cheapest_60 rfl rfl
theorem eX8_cheapest_62 {a b : Int} {l0 l1 l2 l3 l4 l5 l6 : Option VV} (h : -2147483648 ≤ a ∧ a ≤ 2147483647) (h1 : -2147483648 ≤ b ∧ b ≤ 2147483647) {S : MM} : rn xX8_cheapest (62, [l0, l1, l2, l3, l4, l5, l6], [vI b, vI a], S) = if a < b then rn xX8_cheapest (65, [l0, l1, l2, l3, l4, l5, l6], [], S) else rn xX8_cheapest (80, [l0, l1, l2, l3, l4, l5, l6], [], S) := q_icmp_ge dX8_cheapest_62 (by decide) rfl h h1
theorem eX8_cheapest_65 {a : Option Nat} {l1 l2 l3 l4 l5 l6 : Option VV} {S : MM} : rn xX8_cheapest (65, [some (.inr (.inl a)), l1, l2, l3, l4, l5, l6], [], S) = rn xX8_cheapest (66, [some (.inr (.inl a)), l1, l2, l3, l4, l5, l6], [.inr (.inl a)], S) := rn_step dX8_cheapest_65 rfl rfl
theorem eX8_cheapest_66 {l0 l1 l2 l3 l4 l5 l6 : Option VV} {S : MM} : rn xX8_cheapest (66, [l0, l1, l2, l3, l4, l5, l6], [vR 0], S) = rn xX8_cheapest (69, [l0, l1, l2, l3, l4, l5, l6], [vR 71], S) := q_getR dX8_cheapest_66 rfl ⟨⟨by decide, by decide⟩, by decide⟩ (fun _ => by decide +kernel) kd0
theorem eX8_cheapest_69 {i : Nat} {l0 l1 l2 l3 l4 l5 l6 : Option VV} (h : kd i = 0) {S : MM} : rn xX8_cheapest (69, [l0, l1, l2, l3, l4, l5, l6], [vR i], S) = (fX0_looks [vR i] S).bind (fun q => rn xX8_cheapest (72, [l0, l1, l2, l3, l4, l5, l6], q.1.toList ++ [], q.2)) := q_callV (n := 0) (as := []) (rest := []) dX8_cheapest_69 rfl rfl rfl rfl h
theorem eX8_cheapest_72 {a : Int} {w : Int} {l0 l1 l2 l4 l5 l6 : Option VV} {S : MM} : rn xX8_cheapest (72, [l0, l1, l2, some (vI w), l4, l5, l6], [vI a], S) = rn xX8_cheapest (74, [l0, l1, l2, some (vI w), some (vI a), l5, l6], [], S) := rn_step dX8_cheapest_72 rfl rfl
theorem eX8_cheapest_74 {a : Int} {l0 l1 l2 l3 l4 l6 : Option VV} {S : MM} : rn xX8_cheapest (74, [l0, l1, l2, l3, l4, some (vI a), l6], [], S) = rn xX8_cheapest (76, [l0, l1, l2, l3, l4, some (vI a), l6], [vI a], S) := rn_step dX8_cheapest_74 rfl rfl
theorem eX8_cheapest_76 {a : Int} {w : Int} {l0 l2 l3 l4 l5 l6 : Option VV} {S : MM} : rn xX8_cheapest (76, [l0, some (vI w), l2, l3, l4, l5, l6], [vI a], S) = rn xX8_cheapest (77, [l0, some (vI w), some (vI a), l3, l4, l5, l6], [], S) := rn_step dX8_cheapest_76 rfl rfl
theorem eX8_cheapest_77 {a : Int} {l0 l1 l2 l3 l4 l5 : Option VV} {S : MM} : rn xX8_cheapest (77, [l0, l1, l2, l3, l4, l5, some (vI a)], [], S) = rn xX8_cheapest (79, [l0, l1, l2, l3, l4, l5, some (vI a)], [vI a], S) := rn_step dX8_cheapest_77 rfl rfl
theorem eX8_cheapest_79 {a : Int} {w : Int} {l0 l1 l3 l4 l5 l6 : Option VV} {S : MM} : rn xX8_cheapest (79, [l0, l1, some (vI w), l3, l4, l5, l6], [vI a], S) = rn xX8_cheapest (80, [l0, l1, some (vI w), some (vI a), l4, l5, l6], [], S) := rn_step dX8_cheapest_79 rfl rfl
theorem eX8_cheapest_80 {a : Int} {w : Int} {l0 l1 l2 l3 l4 : Option VV} {S : MM} : rn xX8_cheapest (80, [l0, l1, l2, l3, l4, some (vI w), some (vI a)], [], S) = rn xX8_cheapest (83, [l0, l1, l2, l3, l4, some (vI w), some (vI (a + 1))], [], S) := rn_step dX8_cheapest_80 rfl rfl
theorem eX8_cheapest_83 {l0 l1 l2 l3 l4 l5 l6 : Option VV} {S : MM} : rn xX8_cheapest (83, [l0, l1, l2, l3, l4, l5, l6], [], S) = rn xX8_cheapest (32, [l0, l1, l2, l3, l4, l5, l6], [], S) := rn_step dX8_cheapest_83 rfl rfl
theorem eX8_cheapest_86 {a : Int} {w : Int} {l0 l1 l2 l3 l6 : Option VV} {S : MM} : rn xX8_cheapest (86, [l0, l1, l2, l3, some (vI w), some (vI a), l6], [], S) = rn xX8_cheapest (89, [l0, l1, l2, l3, some (vI w), some (vI (a + 1)), l6], [], S) := rn_step dX8_cheapest_86 rfl rfl
theorem eX8_cheapest_89 {l0 l1 l2 l3 l4 l5 l6 : Option VV} {S : MM} : rn xX8_cheapest (89, [l0, l1, l2, l3, l4, l5, l6], [], S) = rn xX8_cheapest (23, [l0, l1, l2, l3, l4, l5, l6], [], S) := rn_step dX8_cheapest_89 rfl rfl
theorem eX8_cheapest_92 {a : Int} {l0 l2 l3 l4 l5 l6 : Option VV} {S : MM} : rn xX8_cheapest (92, [l0, some (vI a), l2, l3, l4, l5, l6], [], S) = rn xX8_cheapest (93, [l0, some (vI a), l2, l3, l4, l5, l6], [vI a], S) := rn_step dX8_cheapest_92 rfl rfl
theorem eX8_cheapest_93 {a : Int} {l0 l1 l2 l3 l4 l5 l6 : Option VV} (h : -2147483648 ≤ a ∧ a ≤ 2147483647) {S : MM} : rn xX8_cheapest (93, [l0, l1, l2, l3, l4, l5, l6], [vI a], S) = if a = 0 then rn xX8_cheapest (96, [l0, l1, l2, l3, l4, l5, l6], [], S) else rn xX8_cheapest (100, [l0, l1, l2, l3, l4, l5, l6], [], S) := q_if_ne dX8_cheapest_93 (by decide) rfl h
theorem eX8_cheapest_96 {a : Int} {l0 l1 l3 l4 l5 l6 : Option VV} {S : MM} : rn xX8_cheapest (96, [l0, l1, some (vI a), l3, l4, l5, l6], [], S) = rn xX8_cheapest (97, [l0, l1, some (vI a), l3, l4, l5, l6], [vI a], S) := rn_step dX8_cheapest_96 rfl rfl
theorem eX8_cheapest_97 {l0 l1 l2 l3 l4 l5 l6 : Option VV} {v0 : VV} {S : MM} : rn xX8_cheapest (97, [l0, l1, l2, l3, l4, l5, l6], [v0], S) = rn xX8_cheapest (111, [l0, l1, l2, l3, l4, l5, l6], [v0], S) := rn_step dX8_cheapest_97 rfl rfl
theorem eX8_cheapest_100 {a : Int} {l0 l2 l3 l4 l5 l6 : Option VV} {S : MM} : rn xX8_cheapest (100, [l0, some (vI a), l2, l3, l4, l5, l6], [], S) = rn xX8_cheapest (101, [l0, some (vI a), l2, l3, l4, l5, l6], [vI a], S) := rn_step dX8_cheapest_100 rfl rfl
theorem eX8_cheapest_101 {l0 l1 l2 l3 l4 l5 l6 : Option VV} {v0 : VV} {S : MM} : rn xX8_cheapest (101, [l0, l1, l2, l3, l4, l5, l6], [v0], S) = rn xX8_cheapest (102, [l0, l1, l2, l3, l4, l5, l6], [vI 1, v0], S) := rn_step dX8_cheapest_101 rfl rfl
theorem eX8_cheapest_102 {a b : Int} {l0 l1 l2 l3 l4 l5 l6 : Option VV} (h : -2147483648 ≤ a ∧ a ≤ 2147483647) (h1 : -2147483648 ≤ b ∧ b ≤ 2147483647) {S : MM} : rn xX8_cheapest (102, [l0, l1, l2, l3, l4, l5, l6], [vI b, vI a], S) = if a = b then rn xX8_cheapest (105, [l0, l1, l2, l3, l4, l5, l6], [], S) else rn xX8_cheapest (109, [l0, l1, l2, l3, l4, l5, l6], [], S) := q_icmp_ne dX8_cheapest_102 (by decide) rfl h h1
theorem eX8_cheapest_105 {a : Int} {l0 l1 l2 l4 l5 l6 : Option VV} {S : MM} : rn xX8_cheapest (105, [l0, l1, l2, some (vI a), l4, l5, l6], [], S) = rn xX8_cheapest (106, [l0, l1, l2, some (vI a), l4, l5, l6], [vI a], S) := rn_step dX8_cheapest_105 rfl rfl
theorem eX8_cheapest_106 {l0 l1 l2 l3 l4 l5 l6 : Option VV} {v0 : VV} {S : MM} : rn xX8_cheapest (106, [l0, l1, l2, l3, l4, l5, l6], [v0], S) = rn xX8_cheapest (111, [l0, l1, l2, l3, l4, l5, l6], [v0], S) := rn_step dX8_cheapest_106 rfl rfl
theorem eX8_cheapest_109 {a : Int} {l0 l1 l2 l3 l5 l6 : Option VV} {S : MM} : rn xX8_cheapest (109, [l0, l1, l2, l3, some (vI a), l5, l6], [], S) = rn xX8_cheapest (111, [l0, l1, l2, l3, some (vI a), l5, l6], [vI a], S) := rn_step dX8_cheapest_109 rfl rfl
theorem eX8_cheapest_111 {z : Int} {l0 l1 l2 l3 l4 l5 l6 : Option VV} {S : MM} : rn xX8_cheapest (111, [l0, l1, l2, l3, l4, l5, l6], [vI z], S) = some (some (vI z), S) := q_retI dX8_cheapest_111 rfl
noncomputable def qlX8_lostBy : List CE := [(1, 205, 0, 2, fX8_isRange), (0, 173, 7, 2, fX7_valueOf), (1, 209, 0, 2, f_max), (1, 214, 0, 2, f_min), (0, 183, 5, 3, fX5_rowsBetween)]
noncomputable def xX8_lostBy : XX := (cX8_lostBy, fcF fcl8, mcF qlX8_lostBy, 1)
noncomputable def fX8_lostBy : FN := fnX xX8_lostBy 5
set_option maxRecDepth 100000 in
theorem cwX8_lostBy : Cond.code yX8_lostBy cX8_lostBy 5 (some .int) ∈ lw_g := lw_gm 859 (by decide +kernel) (by decide +kernel)
set_option maxRecDepth 100000 in
theorem conX8_lostBy : Con yX8_lostBy cX8_lostBy 5 (some .int) { frames := 3, cells := 0, slots := 0, locals := 67 } fX8_lostBy := con_of (X := xX8_lostBy) (own := "LeapStones") (ql := qlX8_lostBy) (by decide) rfl FOK8 rfl (List.forall_mem_cons.mpr ⟨call_S conX8_isRange cwX8_isRange (lw_gl _ [860, 434, 21] (by decide +kernel) (by decide +kernel)) ⟨by decide, by decide, by decide +kernel⟩ ⟨rfl, rfl⟩ ⟨by decide, by decide⟩ ⟨Nat.le_refl _, Nat.le_refl _⟩, List.forall_mem_cons.mpr ⟨call_V conX7_valueOf cwX7_valueOf (lw_gl _ [531, 315, 316, 23] (by decide +kernel) (by decide +kernel)) (by decide) rfl ⟨by decide, by decide, by decide +kernel⟩ ⟨rfl, rfl⟩ ⟨by decide, by decide⟩ ⟨Nat.le_refl _, Nat.le_refl _⟩, List.forall_mem_cons.mpr ⟨call_max (lw_gl _ [861, 332, 30, 333] (by decide +kernel) (by decide +kernel)) ⟨by decide, by decide⟩ ⟨Nat.le_refl _, Nat.le_refl _⟩, List.forall_mem_cons.mpr ⟨call_min (lw_gl _ [278, 265, 30, 266] (by decide +kernel) (by decide +kernel)) ⟨by decide, by decide⟩ ⟨Nat.le_refl _, Nat.le_refl _⟩, List.forall_mem_cons.mpr ⟨call_V conX5_rowsBetween cwX5_rowsBetween (lw_gl _ [816, 817, 818, 24] (by decide +kernel) (by decide +kernel)) (by decide) rfl ⟨by decide, by decide, by decide +kernel⟩ ⟨rfl, rfl⟩ ⟨by decide, by decide⟩ ⟨Nat.le_refl _, Nat.le_refl _⟩, fun _ h => absurd h List.not_mem_nil⟩⟩⟩⟩⟩) (Or.inr (Or.inl ⟨rfl, rfl⟩))
theorem uX8_lostBy {i : Nat} {a0 : Int} {a1 : Int} {S : MM} : fX8_lostBy [vR i, vI a0, vI a1] S = rn xX8_lostBy (0, [some (vR i), some (vI a0), some (vI a1), none, none], [], S) := rfl
theorem dX8_lostBy_0 : decode cX8_lostBy 0 = .ok (.iload_n 1, 1) := by decide +kernel
theorem dX8_lostBy_1 : decode cX8_lostBy 1 = .ok (.iload_n 2, 1) := by decide +kernel
theorem dX8_lostBy_2 : decode cX8_lostBy 2 = .ok (.invokestatic 205, 3) := by decide +kernel
theorem dX8_lostBy_5 : decode cX8_lostBy 5 = .ok (.ifCond .ne 6, 3) := by decide +kernel
theorem dX8_lostBy_8 : decode cX8_lostBy 8 = .ok (.bipush (-2), 2) := by decide +kernel
theorem dX8_lostBy_10 : decode cX8_lostBy 10 = .ok (.ireturn, 1) := by decide +kernel
theorem dX8_lostBy_11 : decode cX8_lostBy 11 = .ok (.iload_n 1, 1) := by decide +kernel
theorem dX8_lostBy_12 : decode cX8_lostBy 12 = .ok (.aload_n 0, 1) := by decide +kernel
theorem dX8_lostBy_13 : decode cX8_lostBy 13 = .ok (.getfield 12, 3) := by decide +kernel
theorem dX8_lostBy_16 : decode cX8_lostBy 16 = .ok (.getfield 109, 3) := by decide +kernel
theorem dX8_lostBy_19 : decode cX8_lostBy 19 = .ok (.iconst 0, 1) := by decide +kernel
theorem dX8_lostBy_20 : decode cX8_lostBy 20 = .ok (.invokevirtual 173, 3) := by decide +kernel
theorem dX8_lostBy_23 : decode cX8_lostBy 23 = .ok (.invokestatic 209, 3) := by decide +kernel
theorem dX8_lostBy_26 : decode cX8_lostBy 26 = .ok (.istore_n 3, 1) := by decide +kernel
theorem dX8_lostBy_27 : decode cX8_lostBy 27 = .ok (.iload_n 2, 1) := by decide +kernel
theorem dX8_lostBy_28 : decode cX8_lostBy 28 = .ok (.aload_n 0, 1) := by decide +kernel
theorem dX8_lostBy_29 : decode cX8_lostBy 29 = .ok (.getfield 12, 3) := by decide +kernel
theorem dX8_lostBy_32 : decode cX8_lostBy 32 = .ok (.getfield 109, 3) := by decide +kernel
theorem dX8_lostBy_35 : decode cX8_lostBy 35 = .ok (.iconst 1, 1) := by decide +kernel
theorem dX8_lostBy_36 : decode cX8_lostBy 36 = .ok (.invokevirtual 173, 3) := by decide +kernel
theorem dX8_lostBy_39 : decode cX8_lostBy 39 = .ok (.invokestatic 214, 3) := by decide +kernel
theorem dX8_lostBy_42 : decode cX8_lostBy 42 = .ok (.istore 4, 2) := by decide +kernel
theorem dX8_lostBy_44 : decode cX8_lostBy 44 = .ok (.aload_n 0, 1) := by decide +kernel
theorem dX8_lostBy_45 : decode cX8_lostBy 45 = .ok (.getfield 12, 3) := by decide +kernel
theorem dX8_lostBy_48 : decode cX8_lostBy 48 = .ok (.getfield 105, 3) := by decide +kernel
theorem dX8_lostBy_51 : decode cX8_lostBy 51 = .ok (.iload_n 3, 1) := by decide +kernel
theorem dX8_lostBy_52 : decode cX8_lostBy 52 = .ok (.iload 4, 2) := by decide +kernel
theorem dX8_lostBy_54 : decode cX8_lostBy 54 = .ok (.invokevirtual 183, 3) := by decide +kernel
theorem dX8_lostBy_57 : decode cX8_lostBy 57 = .ok (.ireturn, 1) := by decide +kernel
theorem eX8_lostBy_0 {a : Int} {l0 l2 l3 l4 : Option VV} {S : MM} : rn xX8_lostBy (0, [l0, some (vI a), l2, l3, l4], [], S) = rn xX8_lostBy (1, [l0, some (vI a), l2, l3, l4], [vI a], S) := rn_step dX8_lostBy_0 rfl rfl
theorem eX8_lostBy_1 {a : Int} {l0 l1 l3 l4 : Option VV} {v0 : VV} {S : MM} : rn xX8_lostBy (1, [l0, l1, some (vI a), l3, l4], [v0], S) = rn xX8_lostBy (2, [l0, l1, some (vI a), l3, l4], [vI a, v0], S) := rn_step dX8_lostBy_1 rfl rfl
theorem eX8_lostBy_2 {a0 : Int} {a1 : Int} {l0 l1 l2 l3 l4 : Option VV} {S : MM} : rn xX8_lostBy (2, [l0, l1, l2, l3, l4], [vI a1, vI a0], S) = (fX8_isRange [vI a0, vI a1] S).bind (fun q => rn xX8_lostBy (5, [l0, l1, l2, l3, l4], q.1.toList ++ [], q.2)) := q_callS (n := 2) (as := [vI a0, vI a1]) (rest := []) dX8_lostBy_2 rfl rfl rfl rfl
theorem eX8_lostBy_5 {a : Int} {l0 l1 l2 l3 l4 : Option VV} (h : -2147483648 ≤ a ∧ a ≤ 2147483647) {S : MM} : rn xX8_lostBy (5, [l0, l1, l2, l3, l4], [vI a], S) = if a = 0 then rn xX8_lostBy (8, [l0, l1, l2, l3, l4], [], S) else rn xX8_lostBy (11, [l0, l1, l2, l3, l4], [], S) := q_if_ne dX8_lostBy_5 (by decide) rfl h
theorem eX8_lostBy_8 {l0 l1 l2 l3 l4 : Option VV} {S : MM} : rn xX8_lostBy (8, [l0, l1, l2, l3, l4], [], S) = rn xX8_lostBy (10, [l0, l1, l2, l3, l4], [vI (-2)], S) := rn_step dX8_lostBy_8 rfl rfl
theorem eX8_lostBy_10 {z : Int} {l0 l1 l2 l3 l4 : Option VV} {S : MM} : rn xX8_lostBy (10, [l0, l1, l2, l3, l4], [vI z], S) = some (some (vI z), S) := q_retI dX8_lostBy_10 rfl
theorem eX8_lostBy_11 {a : Int} {l0 l2 l3 l4 : Option VV} {S : MM} : rn xX8_lostBy (11, [l0, some (vI a), l2, l3, l4], [], S) = rn xX8_lostBy (12, [l0, some (vI a), l2, l3, l4], [vI a], S) := rn_step dX8_lostBy_11 rfl rfl
theorem eX8_lostBy_12 {a : Option Nat} {l1 l2 l3 l4 : Option VV} {v0 : VV} {S : MM} : rn xX8_lostBy (12, [some (.inr (.inl a)), l1, l2, l3, l4], [v0], S) = rn xX8_lostBy (13, [some (.inr (.inl a)), l1, l2, l3, l4], [.inr (.inl a), v0], S) := rn_step dX8_lostBy_12 rfl rfl
theorem eX8_lostBy_13 {l0 l1 l2 l3 l4 : Option VV} {v1 : VV} {S : MM} : rn xX8_lostBy (13, [l0, l1, l2, l3, l4], [vR 0, v1], S) = rn xX8_lostBy (16, [l0, l1, l2, l3, l4], [vR 1, v1], S) := q_getR dX8_lostBy_13 rfl ⟨⟨by decide, by decide⟩, by decide⟩ (fun _ => by decide +kernel) kd0
theorem eX8_lostBy_16 {i : Nat} {l0 l1 l2 l3 l4 : Option VV} {v1 : VV} (h : kd i = 6) {S : MM} : rn xX8_lostBy (16, [l0, l1, l2, l3, l4], [vR i, v1], S) = rn xX8_lostBy (19, [l0, l1, l2, l3, l4], [vR (i + 1), v1], S) := q_getR dX8_lostBy_16 rfl ⟨⟨by decide, by decide⟩, by decide⟩ (fun h => (fref6 h).trans (by first | rfl | omega)) h
theorem eX8_lostBy_19 {l0 l1 l2 l3 l4 : Option VV} {v0 v1 : VV} {S : MM} : rn xX8_lostBy (19, [l0, l1, l2, l3, l4], [v0, v1], S) = rn xX8_lostBy (20, [l0, l1, l2, l3, l4], [vI 0, v0, v1], S) := rn_step dX8_lostBy_19 rfl rfl
theorem eX8_lostBy_20 {a0 : Int} {i : Nat} {l0 l1 l2 l3 l4 : Option VV} {v2 : VV} (h : kd i = 7) {S : MM} : rn xX8_lostBy (20, [l0, l1, l2, l3, l4], [vI a0, vR i, v2], S) = (fX7_valueOf [vR i, vI a0] S).bind (fun q => rn xX8_lostBy (23, [l0, l1, l2, l3, l4], q.1.toList ++ [v2], q.2)) := q_callV (n := 1) (as := [vI a0]) (rest := [v2]) dX8_lostBy_20 rfl rfl rfl rfl h
theorem eX8_lostBy_23 {a0 : Int} {a1 : Int} {l0 l1 l2 l3 l4 : Option VV} {S : MM} : rn xX8_lostBy (23, [l0, l1, l2, l3, l4], [vI a1, vI a0], S) = (f_max [vI a0, vI a1] S).bind (fun q => rn xX8_lostBy (26, [l0, l1, l2, l3, l4], q.1.toList ++ [], q.2)) := q_callS (n := 2) (as := [vI a0, vI a1]) (rest := []) dX8_lostBy_23 rfl rfl rfl rfl
theorem eX8_lostBy_26 {a : Int} {w : Int} {l0 l1 l3 l4 : Option VV} {S : MM} : rn xX8_lostBy (26, [l0, l1, some (vI w), l3, l4], [vI a], S) = rn xX8_lostBy (27, [l0, l1, some (vI w), some (vI a), l4], [], S) := rn_step dX8_lostBy_26 rfl rfl
theorem eX8_lostBy_27 {a : Int} {l0 l1 l3 l4 : Option VV} {S : MM} : rn xX8_lostBy (27, [l0, l1, some (vI a), l3, l4], [], S) = rn xX8_lostBy (28, [l0, l1, some (vI a), l3, l4], [vI a], S) := rn_step dX8_lostBy_27 rfl rfl
theorem eX8_lostBy_28 {a : Option Nat} {l1 l2 l3 l4 : Option VV} {v0 : VV} {S : MM} : rn xX8_lostBy (28, [some (.inr (.inl a)), l1, l2, l3, l4], [v0], S) = rn xX8_lostBy (29, [some (.inr (.inl a)), l1, l2, l3, l4], [.inr (.inl a), v0], S) := rn_step dX8_lostBy_28 rfl rfl
theorem eX8_lostBy_29 {l0 l1 l2 l3 l4 : Option VV} {v1 : VV} {S : MM} : rn xX8_lostBy (29, [l0, l1, l2, l3, l4], [vR 0, v1], S) = rn xX8_lostBy (32, [l0, l1, l2, l3, l4], [vR 1, v1], S) := q_getR dX8_lostBy_29 rfl ⟨⟨by decide, by decide⟩, by decide⟩ (fun _ => by decide +kernel) kd0
theorem eX8_lostBy_32 {i : Nat} {l0 l1 l2 l3 l4 : Option VV} {v1 : VV} (h : kd i = 6) {S : MM} : rn xX8_lostBy (32, [l0, l1, l2, l3, l4], [vR i, v1], S) = rn xX8_lostBy (35, [l0, l1, l2, l3, l4], [vR (i + 1), v1], S) := q_getR dX8_lostBy_32 rfl ⟨⟨by decide, by decide⟩, by decide⟩ (fun h => (fref6 h).trans (by first | rfl | omega)) h
theorem eX8_lostBy_35 {l0 l1 l2 l3 l4 : Option VV} {v0 v1 : VV} {S : MM} : rn xX8_lostBy (35, [l0, l1, l2, l3, l4], [v0, v1], S) = rn xX8_lostBy (36, [l0, l1, l2, l3, l4], [vI 1, v0, v1], S) := rn_step dX8_lostBy_35 rfl rfl
theorem eX8_lostBy_36 {a0 : Int} {i : Nat} {l0 l1 l2 l3 l4 : Option VV} {v2 : VV} (h : kd i = 7) {S : MM} : rn xX8_lostBy (36, [l0, l1, l2, l3, l4], [vI a0, vR i, v2], S) = (fX7_valueOf [vR i, vI a0] S).bind (fun q => rn xX8_lostBy (39, [l0, l1, l2, l3, l4], q.1.toList ++ [v2], q.2)) := q_callV (n := 1) (as := [vI a0]) (rest := [v2]) dX8_lostBy_36 rfl rfl rfl rfl h
theorem eX8_lostBy_39 {a0 : Int} {a1 : Int} {l0 l1 l2 l3 l4 : Option VV} {S : MM} : rn xX8_lostBy (39, [l0, l1, l2, l3, l4], [vI a1, vI a0], S) = (f_min [vI a0, vI a1] S).bind (fun q => rn xX8_lostBy (42, [l0, l1, l2, l3, l4], q.1.toList ++ [], q.2)) := q_callS (n := 2) (as := [vI a0, vI a1]) (rest := []) dX8_lostBy_39 rfl rfl rfl rfl
theorem eX8_lostBy_42 {a : Int} {w : Int} {l0 l1 l2 l4 : Option VV} {S : MM} : rn xX8_lostBy (42, [l0, l1, l2, some (vI w), l4], [vI a], S) = rn xX8_lostBy (44, [l0, l1, l2, some (vI w), some (vI a)], [], S) := rn_step dX8_lostBy_42 rfl rfl
theorem eX8_lostBy_44 {a : Option Nat} {l1 l2 l3 l4 : Option VV} {S : MM} : rn xX8_lostBy (44, [some (.inr (.inl a)), l1, l2, l3, l4], [], S) = rn xX8_lostBy (45, [some (.inr (.inl a)), l1, l2, l3, l4], [.inr (.inl a)], S) := rn_step dX8_lostBy_44 rfl rfl
theorem eX8_lostBy_45 {l0 l1 l2 l3 l4 : Option VV} {S : MM} : rn xX8_lostBy (45, [l0, l1, l2, l3, l4], [vR 0], S) = rn xX8_lostBy (48, [l0, l1, l2, l3, l4], [vR 1], S) := q_getR dX8_lostBy_45 rfl ⟨⟨by decide, by decide⟩, by decide⟩ (fun _ => by decide +kernel) kd0
theorem eX8_lostBy_48 {i : Nat} {l0 l1 l2 l3 l4 : Option VV} (h : kd i = 6) {S : MM} : rn xX8_lostBy (48, [l0, l1, l2, l3, l4], [vR i], S) = rn xX8_lostBy (51, [l0, l1, l2, l3, l4], [vR (i + 3)], S) := q_getR dX8_lostBy_48 rfl ⟨⟨by decide, by decide⟩, by decide⟩ (fun h => (fref6 h).trans (by first | rfl | omega)) h
theorem eX8_lostBy_51 {a : Int} {l0 l1 l2 l4 : Option VV} {v0 : VV} {S : MM} : rn xX8_lostBy (51, [l0, l1, l2, some (vI a), l4], [v0], S) = rn xX8_lostBy (52, [l0, l1, l2, some (vI a), l4], [vI a, v0], S) := rn_step dX8_lostBy_51 rfl rfl
theorem eX8_lostBy_52 {a : Int} {l0 l1 l2 l3 : Option VV} {v0 v1 : VV} {S : MM} : rn xX8_lostBy (52, [l0, l1, l2, l3, some (vI a)], [v0, v1], S) = rn xX8_lostBy (54, [l0, l1, l2, l3, some (vI a)], [vI a, v0, v1], S) := rn_step dX8_lostBy_52 rfl rfl
theorem eX8_lostBy_54 {a0 : Int} {a1 : Int} {i : Nat} {l0 l1 l2 l3 l4 : Option VV} (h : kd i = 5) {S : MM} : rn xX8_lostBy (54, [l0, l1, l2, l3, l4], [vI a1, vI a0, vR i], S) = (fX5_rowsBetween [vR i, vI a0, vI a1] S).bind (fun q => rn xX8_lostBy (57, [l0, l1, l2, l3, l4], q.1.toList ++ [], q.2)) := q_callV (n := 2) (as := [vI a0, vI a1]) (rest := []) dX8_lostBy_54 rfl rfl rfl rfl h
theorem eX8_lostBy_57 {z : Int} {l0 l1 l2 l3 l4 : Option VV} {S : MM} : rn xX8_lostBy (57, [l0, l1, l2, l3, l4], [vI z], S) = some (some (vI z), S) := q_retI dX8_lostBy_57 rfl
noncomputable def qlX8_signOf : List CE := []
noncomputable def xX8_signOf : XX := (cX8_signOf, fcF fcl8, mcF qlX8_signOf, 3)
noncomputable def fX8_signOf : FN := fnX xX8_signOf 3
set_option maxRecDepth 100000 in
theorem cwX8_signOf : Cond.code yX8_signOf cX8_signOf 3 (some .char) ∈ lw_g := lw_gm 689 (by decide +kernel) (by decide +kernel)
set_option maxRecDepth 100000 in
theorem conX8_signOf : Con yX8_signOf cX8_signOf 3 (some .char) { frames := 0, cells := 0, slots := 0, locals := 0 } fX8_signOf := con_of (X := xX8_signOf) (own := "LeapStones") (ql := qlX8_signOf) (by decide) rfl FOK8 rfl (fun _ h => absurd h List.not_mem_nil) (Or.inr (Or.inr (Or.inr (Or.inl ⟨rfl, rfl⟩))))
theorem uX8_signOf {a0 : Nat} {a1 : Int} {S : MM} : fX8_signOf [vJ a0, vI a1] S = rn xX8_signOf (0, [some (vJ a0), none, some (vI a1)], [], S) := rfl
theorem dX8_signOf_0 : decode cX8_signOf 0 = .ok (.lload_n 0, 1) := by decide +kernel
theorem dX8_signOf_1 : decode cX8_signOf 1 = .ok (.bipush 8, 2) := by decide +kernel
theorem dX8_signOf_3 : decode cX8_signOf 3 = .ok (.iload_n 2, 1) := by decide +kernel
theorem dX8_signOf_4 : decode cX8_signOf 4 = .ok (.imul, 1) := by decide +kernel
theorem dX8_signOf_5 : decode cX8_signOf 5 = .ok (.lushr, 1) := by decide +kernel
theorem dX8_signOf_6 : decode cX8_signOf 6 = .ok (.ldc2_w 299, 3) := by decide +kernel
theorem dX8_signOf_9 : decode cX8_signOf 9 = .ok (.land, 1) := by decide +kernel
theorem dX8_signOf_10 : decode cX8_signOf 10 = .ok (.l2i, 1) := by decide +kernel
theorem dX8_signOf_11 : decode cX8_signOf 11 = .ok (.i2c, 1) := by decide +kernel
theorem dX8_signOf_12 : decode cX8_signOf 12 = .ok (.ireturn, 1) := by decide +kernel
theorem eX8_signOf_0 {a : Nat} {l1 l2 : Option VV} {S : MM} : rn xX8_signOf (0, [some (vJ a), l1, l2], [], S) = rn xX8_signOf (1, [some (vJ a), l1, l2], [vJ a], S) := rn_step dX8_signOf_0 rfl rfl
theorem eX8_signOf_1 {l0 l1 l2 : Option VV} {v0 : VV} {S : MM} : rn xX8_signOf (1, [l0, l1, l2], [v0], S) = rn xX8_signOf (3, [l0, l1, l2], [vI 8, v0], S) := rn_step dX8_signOf_1 rfl rfl
theorem eX8_signOf_3 {a : Int} {l0 l1 : Option VV} {v0 v1 : VV} {S : MM} : rn xX8_signOf (3, [l0, l1, some (vI a)], [v0, v1], S) = rn xX8_signOf (4, [l0, l1, some (vI a)], [vI a, v0, v1], S) := rn_step dX8_signOf_3 rfl rfl
theorem eX8_signOf_4 {a b : Int} {l0 l1 l2 : Option VV} {v2 : VV} {S : MM} : rn xX8_signOf (4, [l0, l1, l2], [vI b, vI a, v2], S) = rn xX8_signOf (5, [l0, l1, l2], [vI (a * b), v2], S) := rn_step dX8_signOf_4 rfl rfl
theorem eX8_signOf_5 {a : Nat} {k : Int} {l0 l1 l2 : Option VV} (h : a < 18446744073709551616) (h0 : 0 ≤ k) (h1 : k < 64) {S : MM} : rn xX8_signOf (5, [l0, l1, l2], [vI k, vJ a], S) = rn xX8_signOf (6, [l0, l1, l2], [vJ (a / 2 ^ k.toNat)], S) := q_lushr dX8_signOf_5 h h0 h1
theorem eX8_signOf_6 {l0 l1 l2 : Option VV} {v0 : VV} {S : MM} : rn xX8_signOf (6, [l0, l1, l2], [v0], S) = rn xX8_signOf (9, [l0, l1, l2], [vJ 255, v0], S) := q_ldc2 dX8_signOf_6 rfl
theorem eX8_signOf_9 {a b : Nat} {l0 l1 l2 : Option VV} (h : a < 18446744073709551616) (h1 : b < 18446744073709551616) {S : MM} : rn xX8_signOf (9, [l0, l1, l2], [vJ b, vJ a], S) = rn xX8_signOf (10, [l0, l1, l2], [vJ (a &&& b)], S) := q_land dX8_signOf_9 h h1
theorem eX8_signOf_10 {a : Nat} {l0 l1 l2 : Option VV} (h : a < 18446744073709551616) {S : MM} : rn xX8_signOf (10, [l0, l1, l2], [vJ a], S) = rn xX8_signOf (11, [l0, l1, l2], [vI (Int.bmod a 4294967296)], S) := q_l2i dX8_signOf_10 h
theorem eX8_signOf_11 {a : Int} {l0 l1 l2 : Option VV} {S : MM} : rn xX8_signOf (11, [l0, l1, l2], [vI a], S) = rn xX8_signOf (12, [l0, l1, l2], [vI (a % 65536)], S) := rn_step dX8_signOf_11 rfl rfl
theorem eX8_signOf_12 {z : Int} {l0 l1 l2 : Option VV} (hz : 0 ≤ z ∧ z ≤ 65535) {S : MM} : rn xX8_signOf (12, [l0, l1, l2], [vI z], S) = some (some (vI z), S) := q_retC dX8_signOf_12 rfl hz
noncomputable def qlX8_signsIn : List CE := [(1, 221, 0, 2, fX8_signOf), (1, 57, 0, 3, fX8_isBetween)]
noncomputable def xX8_signsIn : XX := (cX8_signsIn, fcF fcl8, mcF qlX8_signsIn, 1)
noncomputable def fX8_signsIn : FN := fnX xX8_signsIn 4
set_option maxRecDepth 100000 in
theorem cwX8_signsIn : Cond.code yX8_signsIn cX8_signsIn 4 (some .int) ∈ lw_g := lw_gm 686 (by decide +kernel) (by decide +kernel)
set_option maxRecDepth 100000 in
theorem conX8_signsIn : Con yX8_signsIn cX8_signsIn 4 (some .int) { frames := 1, cells := 0, slots := 0, locals := 22 } fX8_signsIn := con_of (X := xX8_signsIn) (own := "LeapStones") (ql := qlX8_signsIn) (by decide) rfl FOK8 rfl (List.forall_mem_cons.mpr ⟨call_S conX8_signOf cwX8_signOf (lw_gl _ [687, 688, 21] (by decide +kernel) (by decide +kernel)) ⟨by decide, by decide, by decide +kernel⟩ ⟨rfl, rfl⟩ ⟨by decide, by decide⟩ ⟨Nat.le_refl _, Nat.le_refl _⟩, List.forall_mem_cons.mpr ⟨call_S conX8_isBetween cwX8_isBetween (lw_gl _ [250, 251, 21] (by decide +kernel) (by decide +kernel)) ⟨by decide, by decide, by decide +kernel⟩ ⟨rfl, rfl⟩ ⟨by decide, by decide⟩ ⟨Nat.le_refl _, Nat.le_refl _⟩, fun _ h => absurd h List.not_mem_nil⟩⟩) (Or.inr (Or.inl ⟨rfl, rfl⟩))
theorem uX8_signsIn {a0 : Nat} {S : MM} : fX8_signsIn [vJ a0] S = rn xX8_signsIn (0, [some (vJ a0), none, none, none], [], S) := rfl
theorem dX8_signsIn_0 : decode cX8_signsIn 0 = .ok (.iconst 0, 1) := by decide +kernel
theorem dX8_signsIn_1 : decode cX8_signsIn 1 = .ok (.istore_n 2, 1) := by decide +kernel
theorem dX8_signsIn_2 : decode cX8_signsIn 2 = .ok (.iload_n 2, 1) := by decide +kernel
theorem dX8_signsIn_3 : decode cX8_signsIn 3 = .ok (.bipush 8, 2) := by decide +kernel
theorem dX8_signsIn_5 : decode cX8_signsIn 5 = .ok (.if_icmp .ge 51, 3) := by decide +kernel
theorem dX8_signsIn_8 : decode cX8_signsIn 8 = .ok (.lload_n 0, 1) := by decide +kernel
theorem dX8_signsIn_9 : decode cX8_signsIn 9 = .ok (.iload_n 2, 1) := by decide +kernel
theorem dX8_signsIn_10 : decode cX8_signsIn 10 = .ok (.invokestatic 221, 3) := by decide +kernel
theorem dX8_signsIn_13 : decode cX8_signsIn 13 = .ok (.istore_n 3, 1) := by decide +kernel
theorem dX8_signsIn_14 : decode cX8_signsIn 14 = .ok (.iload_n 3, 1) := by decide +kernel
theorem dX8_signsIn_15 : decode cX8_signsIn 15 = .ok (.ifCond .ne 21, 3) := by decide +kernel
theorem dX8_signsIn_18 : decode cX8_signsIn 18 = .ok (.lload_n 0, 1) := by decide +kernel
theorem dX8_signsIn_19 : decode cX8_signsIn 19 = .ok (.bipush 8, 2) := by decide +kernel
theorem dX8_signsIn_21 : decode cX8_signsIn 21 = .ok (.iload_n 2, 1) := by decide +kernel
theorem dX8_signsIn_22 : decode cX8_signsIn 22 = .ok (.imul, 1) := by decide +kernel
theorem dX8_signsIn_23 : decode cX8_signsIn 23 = .ok (.lushr, 1) := by decide +kernel
theorem dX8_signsIn_24 : decode cX8_signsIn 24 = .ok (.lconst 0, 1) := by decide +kernel
theorem dX8_signsIn_25 : decode cX8_signsIn 25 = .ok (.lcmp, 1) := by decide +kernel
theorem dX8_signsIn_26 : decode cX8_signsIn 26 = .ok (.ifCond .ne 7, 3) := by decide +kernel
theorem dX8_signsIn_29 : decode cX8_signsIn 29 = .ok (.iload_n 2, 1) := by decide +kernel
theorem dX8_signsIn_30 : decode cX8_signsIn 30 = .ok (.goto 5, 3) := by decide +kernel
theorem dX8_signsIn_33 : decode cX8_signsIn 33 = .ok (.bipush (-2), 2) := by decide +kernel
theorem dX8_signsIn_35 : decode cX8_signsIn 35 = .ok (.ireturn, 1) := by decide +kernel
theorem dX8_signsIn_36 : decode cX8_signsIn 36 = .ok (.iload_n 3, 1) := by decide +kernel
theorem dX8_signsIn_37 : decode cX8_signsIn 37 = .ok (.bipush 33, 2) := by decide +kernel
theorem dX8_signsIn_39 : decode cX8_signsIn 39 = .ok (.bipush 126, 2) := by decide +kernel
theorem dX8_signsIn_41 : decode cX8_signsIn 41 = .ok (.invokestatic 57, 3) := by decide +kernel
theorem dX8_signsIn_44 : decode cX8_signsIn 44 = .ok (.ifCond .ne 6, 3) := by decide +kernel
theorem dX8_signsIn_47 : decode cX8_signsIn 47 = .ok (.bipush (-2), 2) := by decide +kernel
theorem dX8_signsIn_49 : decode cX8_signsIn 49 = .ok (.ireturn, 1) := by decide +kernel
theorem dX8_signsIn_50 : decode cX8_signsIn 50 = .ok (.iinc 2 1, 3) := by decide +kernel
theorem dX8_signsIn_53 : decode cX8_signsIn 53 = .ok (.goto (-51), 3) := by decide +kernel
theorem dX8_signsIn_56 : decode cX8_signsIn 56 = .ok (.bipush 8, 2) := by decide +kernel
theorem dX8_signsIn_58 : decode cX8_signsIn 58 = .ok (.ireturn, 1) := by decide +kernel
theorem eX8_signsIn_0 {l0 l1 l2 l3 : Option VV} {S : MM} : rn xX8_signsIn (0, [l0, l1, l2, l3], [], S) = rn xX8_signsIn (1, [l0, l1, l2, l3], [vI 0], S) := rn_step dX8_signsIn_0 rfl rfl
theorem eX8_signsIn_1 {a : Int} {l0 l2 l3 : Option VV} {S : MM} : rn xX8_signsIn (1, [l0, none, l2, l3], [vI a], S) = rn xX8_signsIn (2, [l0, none, some (vI a), l3], [], S) := rn_step dX8_signsIn_1 rfl rfl
theorem eX8_signsIn_2 {a : Int} {l0 l1 l3 : Option VV} {S : MM} : rn xX8_signsIn (2, [l0, l1, some (vI a), l3], [], S) = rn xX8_signsIn (3, [l0, l1, some (vI a), l3], [vI a], S) := rn_step dX8_signsIn_2 rfl rfl
theorem eX8_signsIn_3 {l0 l1 l2 l3 : Option VV} {v0 : VV} {S : MM} : rn xX8_signsIn (3, [l0, l1, l2, l3], [v0], S) = rn xX8_signsIn (5, [l0, l1, l2, l3], [vI 8, v0], S) := rn_step dX8_signsIn_3 rfl rfl
theorem eX8_signsIn_5 {a b : Int} {l0 l1 l2 l3 : Option VV} (h : -2147483648 ≤ a ∧ a ≤ 2147483647) (h1 : -2147483648 ≤ b ∧ b ≤ 2147483647) {S : MM} : rn xX8_signsIn (5, [l0, l1, l2, l3], [vI b, vI a], S) = if a < b then rn xX8_signsIn (8, [l0, l1, l2, l3], [], S) else rn xX8_signsIn (56, [l0, l1, l2, l3], [], S) := q_icmp_ge dX8_signsIn_5 (by decide) rfl h h1
theorem eX8_signsIn_8 {a : Nat} {l1 l2 l3 : Option VV} {S : MM} : rn xX8_signsIn (8, [some (vJ a), l1, l2, l3], [], S) = rn xX8_signsIn (9, [some (vJ a), l1, l2, l3], [vJ a], S) := rn_step dX8_signsIn_8 rfl rfl
theorem eX8_signsIn_9 {a : Int} {l0 l1 l3 : Option VV} {v0 : VV} {S : MM} : rn xX8_signsIn (9, [l0, l1, some (vI a), l3], [v0], S) = rn xX8_signsIn (10, [l0, l1, some (vI a), l3], [vI a, v0], S) := rn_step dX8_signsIn_9 rfl rfl
theorem eX8_signsIn_10 {a0 : Nat} {a1 : Int} {l0 l1 l2 l3 : Option VV} {S : MM} : rn xX8_signsIn (10, [l0, l1, l2, l3], [vI a1, vJ a0], S) = (fX8_signOf [vJ a0, vI a1] S).bind (fun q => rn xX8_signsIn (13, [l0, l1, l2, l3], q.1.toList ++ [], q.2)) := q_callS (n := 2) (as := [vJ a0, vI a1]) (rest := []) dX8_signsIn_10 rfl rfl rfl rfl
theorem eX8_signsIn_13 {a : Int} {w : Int} {l0 l1 l3 : Option VV} {S : MM} : rn xX8_signsIn (13, [l0, l1, some (vI w), l3], [vI a], S) = rn xX8_signsIn (14, [l0, l1, some (vI w), some (vI a)], [], S) := rn_step dX8_signsIn_13 rfl rfl
theorem eX8_signsIn_14 {a : Int} {l0 l1 l2 : Option VV} {S : MM} : rn xX8_signsIn (14, [l0, l1, l2, some (vI a)], [], S) = rn xX8_signsIn (15, [l0, l1, l2, some (vI a)], [vI a], S) := rn_step dX8_signsIn_14 rfl rfl
theorem eX8_signsIn_15 {a : Int} {l0 l1 l2 l3 : Option VV} (h : -2147483648 ≤ a ∧ a ≤ 2147483647) {S : MM} : rn xX8_signsIn (15, [l0, l1, l2, l3], [vI a], S) = if a = 0 then rn xX8_signsIn (18, [l0, l1, l2, l3], [], S) else rn xX8_signsIn (36, [l0, l1, l2, l3], [], S) := q_if_ne dX8_signsIn_15 (by decide) rfl h
theorem eX8_signsIn_18 {a : Nat} {l1 l2 l3 : Option VV} {S : MM} : rn xX8_signsIn (18, [some (vJ a), l1, l2, l3], [], S) = rn xX8_signsIn (19, [some (vJ a), l1, l2, l3], [vJ a], S) := rn_step dX8_signsIn_18 rfl rfl
theorem eX8_signsIn_19 {l0 l1 l2 l3 : Option VV} {v0 : VV} {S : MM} : rn xX8_signsIn (19, [l0, l1, l2, l3], [v0], S) = rn xX8_signsIn (21, [l0, l1, l2, l3], [vI 8, v0], S) := rn_step dX8_signsIn_19 rfl rfl
theorem eX8_signsIn_21 {a : Int} {l0 l1 l3 : Option VV} {v0 v1 : VV} {S : MM} : rn xX8_signsIn (21, [l0, l1, some (vI a), l3], [v0, v1], S) = rn xX8_signsIn (22, [l0, l1, some (vI a), l3], [vI a, v0, v1], S) := rn_step dX8_signsIn_21 rfl rfl
theorem eX8_signsIn_22 {a b : Int} {l0 l1 l2 l3 : Option VV} {v2 : VV} {S : MM} : rn xX8_signsIn (22, [l0, l1, l2, l3], [vI b, vI a, v2], S) = rn xX8_signsIn (23, [l0, l1, l2, l3], [vI (a * b), v2], S) := rn_step dX8_signsIn_22 rfl rfl
theorem eX8_signsIn_23 {a : Nat} {k : Int} {l0 l1 l2 l3 : Option VV} (h : a < 18446744073709551616) (h0 : 0 ≤ k) (h1 : k < 64) {S : MM} : rn xX8_signsIn (23, [l0, l1, l2, l3], [vI k, vJ a], S) = rn xX8_signsIn (24, [l0, l1, l2, l3], [vJ (a / 2 ^ k.toNat)], S) := q_lushr dX8_signsIn_23 h h0 h1
theorem eX8_signsIn_24 {l0 l1 l2 l3 : Option VV} {v0 : VV} {S : MM} : rn xX8_signsIn (24, [l0, l1, l2, l3], [v0], S) = rn xX8_signsIn (25, [l0, l1, l2, l3], [vJ 0, v0], S) := rn_step dX8_signsIn_24 rfl rfl
theorem eX8_signsIn_25 {a b : Nat} {l0 l1 l2 l3 : Option VV} (h : a < 18446744073709551616) (h1 : b < 18446744073709551616) {S : MM} : rn xX8_signsIn (25, [l0, l1, l2, l3], [vJ b, vJ a], S) = rn xX8_signsIn (26, [l0, l1, l2, l3], [vI (if a = b then 0 else if sgn a < sgn b then -1 else 1)], S) := q_lcmp dX8_signsIn_25 h h1
theorem eX8_signsIn_26 {a : Int} {l0 l1 l2 l3 : Option VV} (h : -2147483648 ≤ a ∧ a ≤ 2147483647) {S : MM} : rn xX8_signsIn (26, [l0, l1, l2, l3], [vI a], S) = if a = 0 then rn xX8_signsIn (29, [l0, l1, l2, l3], [], S) else rn xX8_signsIn (33, [l0, l1, l2, l3], [], S) := q_if_ne dX8_signsIn_26 (by decide) rfl h
theorem eX8_signsIn_29 {a : Int} {l0 l1 l3 : Option VV} {S : MM} : rn xX8_signsIn (29, [l0, l1, some (vI a), l3], [], S) = rn xX8_signsIn (30, [l0, l1, some (vI a), l3], [vI a], S) := rn_step dX8_signsIn_29 rfl rfl
theorem eX8_signsIn_30 {l0 l1 l2 l3 : Option VV} {v0 : VV} {S : MM} : rn xX8_signsIn (30, [l0, l1, l2, l3], [v0], S) = rn xX8_signsIn (35, [l0, l1, l2, l3], [v0], S) := rn_step dX8_signsIn_30 rfl rfl
theorem eX8_signsIn_33 {l0 l1 l2 l3 : Option VV} {S : MM} : rn xX8_signsIn (33, [l0, l1, l2, l3], [], S) = rn xX8_signsIn (35, [l0, l1, l2, l3], [vI (-2)], S) := rn_step dX8_signsIn_33 rfl rfl
theorem eX8_signsIn_35 {z : Int} {l0 l1 l2 l3 : Option VV} {S : MM} : rn xX8_signsIn (35, [l0, l1, l2, l3], [vI z], S) = some (some (vI z), S) := q_retI dX8_signsIn_35 rfl
theorem eX8_signsIn_36 {a : Int} {l0 l1 l2 : Option VV} {S : MM} : rn xX8_signsIn (36, [l0, l1, l2, some (vI a)], [], S) = rn xX8_signsIn (37, [l0, l1, l2, some (vI a)], [vI a], S) := rn_step dX8_signsIn_36 rfl rfl
theorem eX8_signsIn_37 {l0 l1 l2 l3 : Option VV} {v0 : VV} {S : MM} : rn xX8_signsIn (37, [l0, l1, l2, l3], [v0], S) = rn xX8_signsIn (39, [l0, l1, l2, l3], [vI 33, v0], S) := rn_step dX8_signsIn_37 rfl rfl
theorem eX8_signsIn_39 {l0 l1 l2 l3 : Option VV} {v0 v1 : VV} {S : MM} : rn xX8_signsIn (39, [l0, l1, l2, l3], [v0, v1], S) = rn xX8_signsIn (41, [l0, l1, l2, l3], [vI 126, v0, v1], S) := rn_step dX8_signsIn_39 rfl rfl
theorem eX8_signsIn_41 {a0 : Int} {a1 : Int} {a2 : Int} {l0 l1 l2 l3 : Option VV} {S : MM} : rn xX8_signsIn (41, [l0, l1, l2, l3], [vI a2, vI a1, vI a0], S) = (fX8_isBetween [vI a0, vI a1, vI a2] S).bind (fun q => rn xX8_signsIn (44, [l0, l1, l2, l3], q.1.toList ++ [], q.2)) := q_callS (n := 3) (as := [vI a0, vI a1, vI a2]) (rest := []) dX8_signsIn_41 rfl rfl rfl rfl
theorem eX8_signsIn_44 {a : Int} {l0 l1 l2 l3 : Option VV} (h : -2147483648 ≤ a ∧ a ≤ 2147483647) {S : MM} : rn xX8_signsIn (44, [l0, l1, l2, l3], [vI a], S) = if a = 0 then rn xX8_signsIn (47, [l0, l1, l2, l3], [], S) else rn xX8_signsIn (50, [l0, l1, l2, l3], [], S) := q_if_ne dX8_signsIn_44 (by decide) rfl h
theorem eX8_signsIn_47 {l0 l1 l2 l3 : Option VV} {S : MM} : rn xX8_signsIn (47, [l0, l1, l2, l3], [], S) = rn xX8_signsIn (49, [l0, l1, l2, l3], [vI (-2)], S) := rn_step dX8_signsIn_47 rfl rfl
theorem eX8_signsIn_49 {z : Int} {l0 l1 l2 l3 : Option VV} {S : MM} : rn xX8_signsIn (49, [l0, l1, l2, l3], [vI z], S) = some (some (vI z), S) := q_retI dX8_signsIn_49 rfl
theorem eX8_signsIn_50 {a : Int} {l0 l3 : Option VV} {S : MM} : rn xX8_signsIn (50, [l0, none, some (vI a), l3], [], S) = rn xX8_signsIn (53, [l0, none, some (vI (a + 1)), l3], [], S) := rn_step dX8_signsIn_50 rfl rfl
theorem eX8_signsIn_53 {l0 l1 l2 l3 : Option VV} {S : MM} : rn xX8_signsIn (53, [l0, l1, l2, l3], [], S) = rn xX8_signsIn (2, [l0, l1, l2, l3], [], S) := rn_step dX8_signsIn_53 rfl rfl
theorem eX8_signsIn_56 {l0 l1 l2 l3 : Option VV} {S : MM} : rn xX8_signsIn (56, [l0, l1, l2, l3], [], S) = rn xX8_signsIn (58, [l0, l1, l2, l3], [vI 8], S) := rn_step dX8_signsIn_56 rfl rfl
theorem eX8_signsIn_58 {z : Int} {l0 l1 l2 l3 : Option VV} {S : MM} : rn xX8_signsIn (58, [l0, l1, l2, l3], [vI z], S) = some (some (vI z), S) := q_retI dX8_signsIn_58 rfl
noncomputable def qlX8_put : List CE := [(1, 217, 0, 1, fX8_signsIn), (0, 176, 2, 1, fX2_length), (1, 221, 0, 2, fX8_signOf), (0, 225, 2, 2, fX2_append)]
noncomputable def xX8_put : XX := (cX8_put, fcF fcl8, mcF qlX8_put, 1)
noncomputable def fX8_put : FN := fnX xX8_put 5
set_option maxRecDepth 100000 in
theorem cwX8_put : Cond.code yX8_put cX8_put 5 (some .int) ∈ lw_g := lw_gm 683 (by decide +kernel) (by decide +kernel)
set_option maxRecDepth 100000 in
theorem conX8_put : Con yX8_put cX8_put 5 (some .int) { frames := 2, cells := 0, slots := 0, locals := 45 } fX8_put := con_of (X := xX8_put) (own := "LeapStones") (ql := qlX8_put) (by decide) rfl FOK8 rfl (List.forall_mem_cons.mpr ⟨call_S conX8_signsIn cwX8_signsIn (lw_gl _ [684, 685, 21] (by decide +kernel) (by decide +kernel)) ⟨by decide, by decide, by decide +kernel⟩ ⟨rfl, rfl⟩ ⟨by decide, by decide⟩ ⟨Nat.le_refl _, Nat.le_refl _⟩, List.forall_mem_cons.mpr ⟨call_V conX2_length cwX2_length (lw_gl _ [532, 533, 534, 29] (by decide +kernel) (by decide +kernel)) (by decide) rfl ⟨by decide, by decide, by decide +kernel⟩ ⟨rfl, rfl⟩ ⟨by decide, by decide⟩ ⟨Nat.le_refl _, Nat.le_refl _⟩, List.forall_mem_cons.mpr ⟨call_S conX8_signOf cwX8_signOf (lw_gl _ [687, 688, 21] (by decide +kernel) (by decide +kernel)) ⟨by decide, by decide, by decide +kernel⟩ ⟨rfl, rfl⟩ ⟨by decide, by decide⟩ ⟨Nat.le_refl _, Nat.le_refl _⟩, List.forall_mem_cons.mpr ⟨call_V conX2_append cwX2_append (lw_gl _ [691, 692, 693, 29] (by decide +kernel) (by decide +kernel)) (by decide) rfl ⟨by decide, by decide, by decide +kernel⟩ ⟨rfl, rfl⟩ ⟨by decide, by decide⟩ ⟨Nat.le_refl _, Nat.le_refl _⟩, fun _ h => absurd h List.not_mem_nil⟩⟩⟩⟩) (Or.inr (Or.inl ⟨rfl, rfl⟩))
theorem uX8_put {i : Nat} {a0 : Nat} {S : MM} : fX8_put [vR i, vJ a0] S = rn xX8_put (0, [some (vR i), some (vJ a0), none, none, none], [], S) := rfl
theorem dX8_put_0 : decode cX8_put 0 = .ok (.lload_n 1, 1) := by decide +kernel
theorem dX8_put_1 : decode cX8_put 1 = .ok (.invokestatic 217, 3) := by decide +kernel
theorem dX8_put_4 : decode cX8_put 4 = .ok (.istore_n 3, 1) := by decide +kernel
theorem dX8_put_5 : decode cX8_put 5 = .ok (.iload_n 3, 1) := by decide +kernel
theorem dX8_put_6 : decode cX8_put 6 = .ok (.iconst 1, 1) := by decide +kernel
theorem dX8_put_7 : decode cX8_put 7 = .ok (.if_icmp .ge 6, 3) := by decide +kernel
theorem dX8_put_10 : decode cX8_put 10 = .ok (.bipush (-2), 2) := by decide +kernel
theorem dX8_put_12 : decode cX8_put 12 = .ok (.ireturn, 1) := by decide +kernel
theorem dX8_put_13 : decode cX8_put 13 = .ok (.aload_n 0, 1) := by decide +kernel
theorem dX8_put_14 : decode cX8_put 14 = .ok (.getfield 39, 3) := by decide +kernel
theorem dX8_put_17 : decode cX8_put 17 = .ok (.invokevirtual 176, 3) := by decide +kernel
theorem dX8_put_20 : decode cX8_put 20 = .ok (.iload_n 3, 1) := by decide +kernel
theorem dX8_put_21 : decode cX8_put 21 = .ok (.iadd, 1) := by decide +kernel
theorem dX8_put_22 : decode cX8_put 22 = .ok (.bipush 80, 2) := by decide +kernel
theorem dX8_put_24 : decode cX8_put 24 = .ok (.if_icmp .le 6, 3) := by decide +kernel
theorem dX8_put_27 : decode cX8_put 27 = .ok (.bipush (-4), 2) := by decide +kernel
theorem dX8_put_29 : decode cX8_put 29 = .ok (.ireturn, 1) := by decide +kernel
theorem dX8_put_30 : decode cX8_put 30 = .ok (.iload_n 3, 1) := by decide +kernel
theorem dX8_put_31 : decode cX8_put 31 = .ok (.iconst 1, 1) := by decide +kernel
theorem dX8_put_32 : decode cX8_put 32 = .ok (.isub, 1) := by decide +kernel
theorem dX8_put_33 : decode cX8_put 33 = .ok (.istore 4, 2) := by decide +kernel
theorem dX8_put_35 : decode cX8_put 35 = .ok (.iload 4, 2) := by decide +kernel
theorem dX8_put_37 : decode cX8_put 37 = .ok (.ifCond .lt 22, 3) := by decide +kernel
theorem dX8_put_40 : decode cX8_put 40 = .ok (.aload_n 0, 1) := by decide +kernel
theorem dX8_put_41 : decode cX8_put 41 = .ok (.getfield 39, 3) := by decide +kernel
theorem dX8_put_44 : decode cX8_put 44 = .ok (.lload_n 1, 1) := by decide +kernel
theorem dX8_put_45 : decode cX8_put 45 = .ok (.iload 4, 2) := by decide +kernel
theorem dX8_put_47 : decode cX8_put 47 = .ok (.invokestatic 221, 3) := by decide +kernel
theorem dX8_put_50 : decode cX8_put 50 = .ok (.invokevirtual 225, 3) := by decide +kernel
theorem dX8_put_53 : decode cX8_put 53 = .ok (.iinc 4 (-1), 3) := by decide +kernel
theorem dX8_put_56 : decode cX8_put 56 = .ok (.goto (-21), 3) := by decide +kernel
theorem dX8_put_59 : decode cX8_put 59 = .ok (.aload_n 0, 1) := by decide +kernel
theorem dX8_put_60 : decode cX8_put 60 = .ok (.getfield 39, 3) := by decide +kernel
theorem dX8_put_63 : decode cX8_put 63 = .ok (.invokevirtual 176, 3) := by decide +kernel
theorem dX8_put_66 : decode cX8_put 66 = .ok (.ireturn, 1) := by decide +kernel
theorem eX8_put_0 {a : Nat} {l0 l2 l3 l4 : Option VV} {S : MM} : rn xX8_put (0, [l0, some (vJ a), l2, l3, l4], [], S) = rn xX8_put (1, [l0, some (vJ a), l2, l3, l4], [vJ a], S) := rn_step dX8_put_0 rfl rfl
theorem eX8_put_1 {a0 : Nat} {l0 l1 l2 l3 l4 : Option VV} {S : MM} : rn xX8_put (1, [l0, l1, l2, l3, l4], [vJ a0], S) = (fX8_signsIn [vJ a0] S).bind (fun q => rn xX8_put (4, [l0, l1, l2, l3, l4], q.1.toList ++ [], q.2)) := q_callS (n := 1) (as := [vJ a0]) (rest := []) dX8_put_1 rfl rfl rfl rfl
theorem eX8_put_4 {a : Int} {l0 l1 l3 l4 : Option VV} {S : MM} : rn xX8_put (4, [l0, l1, none, l3, l4], [vI a], S) = rn xX8_put (5, [l0, l1, none, some (vI a), l4], [], S) := rn_step dX8_put_4 rfl rfl
theorem eX8_put_5 {a : Int} {l0 l1 l2 l4 : Option VV} {S : MM} : rn xX8_put (5, [l0, l1, l2, some (vI a), l4], [], S) = rn xX8_put (6, [l0, l1, l2, some (vI a), l4], [vI a], S) := rn_step dX8_put_5 rfl rfl
theorem eX8_put_6 {l0 l1 l2 l3 l4 : Option VV} {v0 : VV} {S : MM} : rn xX8_put (6, [l0, l1, l2, l3, l4], [v0], S) = rn xX8_put (7, [l0, l1, l2, l3, l4], [vI 1, v0], S) := rn_step dX8_put_6 rfl rfl
theorem eX8_put_7 {a b : Int} {l0 l1 l2 l3 l4 : Option VV} (h : -2147483648 ≤ a ∧ a ≤ 2147483647) (h1 : -2147483648 ≤ b ∧ b ≤ 2147483647) {S : MM} : rn xX8_put (7, [l0, l1, l2, l3, l4], [vI b, vI a], S) = if a < b then rn xX8_put (10, [l0, l1, l2, l3, l4], [], S) else rn xX8_put (13, [l0, l1, l2, l3, l4], [], S) := q_icmp_ge dX8_put_7 (by decide) rfl h h1
theorem eX8_put_10 {l0 l1 l2 l3 l4 : Option VV} {S : MM} : rn xX8_put (10, [l0, l1, l2, l3, l4], [], S) = rn xX8_put (12, [l0, l1, l2, l3, l4], [vI (-2)], S) := rn_step dX8_put_10 rfl rfl
theorem eX8_put_12 {z : Int} {l0 l1 l2 l3 l4 : Option VV} {S : MM} : rn xX8_put (12, [l0, l1, l2, l3, l4], [vI z], S) = some (some (vI z), S) := q_retI dX8_put_12 rfl
theorem eX8_put_13 {a : Option Nat} {l1 l2 l3 l4 : Option VV} {S : MM} : rn xX8_put (13, [some (.inr (.inl a)), l1, l2, l3, l4], [], S) = rn xX8_put (14, [some (.inr (.inl a)), l1, l2, l3, l4], [.inr (.inl a)], S) := rn_step dX8_put_13 rfl rfl
theorem eX8_put_14 {l0 l1 l2 l3 l4 : Option VV} {S : MM} : rn xX8_put (14, [l0, l1, l2, l3, l4], [vR 0], S) = rn xX8_put (17, [l0, l1, l2, l3, l4], [vR 69], S) := q_getR dX8_put_14 rfl ⟨⟨by decide, by decide⟩, by decide⟩ (fun _ => by decide +kernel) kd0
theorem eX8_put_17 {i : Nat} {l0 l1 l2 l3 l4 : Option VV} (h : kd i = 2) {S : MM} : rn xX8_put (17, [l0, l1, l2, l3, l4], [vR i], S) = (fX2_length [vR i] S).bind (fun q => rn xX8_put (20, [l0, l1, l2, l3, l4], q.1.toList ++ [], q.2)) := q_callV (n := 0) (as := []) (rest := []) dX8_put_17 rfl rfl rfl rfl h
theorem eX8_put_20 {a : Int} {l0 l1 l2 l4 : Option VV} {v0 : VV} {S : MM} : rn xX8_put (20, [l0, l1, l2, some (vI a), l4], [v0], S) = rn xX8_put (21, [l0, l1, l2, some (vI a), l4], [vI a, v0], S) := rn_step dX8_put_20 rfl rfl
theorem eX8_put_21 {a b : Int} {l0 l1 l2 l3 l4 : Option VV} {S : MM} : rn xX8_put (21, [l0, l1, l2, l3, l4], [vI b, vI a], S) = rn xX8_put (22, [l0, l1, l2, l3, l4], [vI (a + b)], S) := rn_step dX8_put_21 rfl rfl
theorem eX8_put_22 {l0 l1 l2 l3 l4 : Option VV} {v0 : VV} {S : MM} : rn xX8_put (22, [l0, l1, l2, l3, l4], [v0], S) = rn xX8_put (24, [l0, l1, l2, l3, l4], [vI 80, v0], S) := rn_step dX8_put_22 rfl rfl
theorem eX8_put_24 {a b : Int} {l0 l1 l2 l3 l4 : Option VV} (h : -2147483648 ≤ a ∧ a ≤ 2147483647) (h1 : -2147483648 ≤ b ∧ b ≤ 2147483647) {S : MM} : rn xX8_put (24, [l0, l1, l2, l3, l4], [vI b, vI a], S) = if b < a then rn xX8_put (27, [l0, l1, l2, l3, l4], [], S) else rn xX8_put (30, [l0, l1, l2, l3, l4], [], S) := q_icmp_le dX8_put_24 (by decide) rfl h h1
theorem eX8_put_27 {l0 l1 l2 l3 l4 : Option VV} {S : MM} : rn xX8_put (27, [l0, l1, l2, l3, l4], [], S) = rn xX8_put (29, [l0, l1, l2, l3, l4], [vI (-4)], S) := rn_step dX8_put_27 rfl rfl
theorem eX8_put_29 {z : Int} {l0 l1 l2 l3 l4 : Option VV} {S : MM} : rn xX8_put (29, [l0, l1, l2, l3, l4], [vI z], S) = some (some (vI z), S) := q_retI dX8_put_29 rfl
theorem eX8_put_30 {a : Int} {l0 l1 l2 l4 : Option VV} {S : MM} : rn xX8_put (30, [l0, l1, l2, some (vI a), l4], [], S) = rn xX8_put (31, [l0, l1, l2, some (vI a), l4], [vI a], S) := rn_step dX8_put_30 rfl rfl
theorem eX8_put_31 {l0 l1 l2 l3 l4 : Option VV} {v0 : VV} {S : MM} : rn xX8_put (31, [l0, l1, l2, l3, l4], [v0], S) = rn xX8_put (32, [l0, l1, l2, l3, l4], [vI 1, v0], S) := rn_step dX8_put_31 rfl rfl
theorem eX8_put_32 {a b : Int} {l0 l1 l2 l3 l4 : Option VV} {S : MM} : rn xX8_put (32, [l0, l1, l2, l3, l4], [vI b, vI a], S) = rn xX8_put (33, [l0, l1, l2, l3, l4], [vI (a - b)], S) := rn_step dX8_put_32 rfl rfl
theorem eX8_put_33 {a : Int} {w : Int} {l0 l1 l2 l4 : Option VV} {S : MM} : rn xX8_put (33, [l0, l1, l2, some (vI w), l4], [vI a], S) = rn xX8_put (35, [l0, l1, l2, some (vI w), some (vI a)], [], S) := rn_step dX8_put_33 rfl rfl
theorem eX8_put_35 {a : Int} {l0 l1 l2 l3 : Option VV} {S : MM} : rn xX8_put (35, [l0, l1, l2, l3, some (vI a)], [], S) = rn xX8_put (37, [l0, l1, l2, l3, some (vI a)], [vI a], S) := rn_step dX8_put_35 rfl rfl
theorem eX8_put_37 {a : Int} {l0 l1 l2 l3 l4 : Option VV} (h : -2147483648 ≤ a ∧ a ≤ 2147483647) {S : MM} : rn xX8_put (37, [l0, l1, l2, l3, l4], [vI a], S) = if a < 0 then rn xX8_put (59, [l0, l1, l2, l3, l4], [], S) else rn xX8_put (40, [l0, l1, l2, l3, l4], [], S) := q_if_lt dX8_put_37 (by decide) rfl h
theorem eX8_put_40 {a : Option Nat} {l1 l2 l3 l4 : Option VV} {S : MM} : rn xX8_put (40, [some (.inr (.inl a)), l1, l2, l3, l4], [], S) = rn xX8_put (41, [some (.inr (.inl a)), l1, l2, l3, l4], [.inr (.inl a)], S) := rn_step dX8_put_40 rfl rfl
theorem eX8_put_41 {l0 l1 l2 l3 l4 : Option VV} {S : MM} : rn xX8_put (41, [l0, l1, l2, l3, l4], [vR 0], S) = rn xX8_put (44, [l0, l1, l2, l3, l4], [vR 69], S) := q_getR dX8_put_41 rfl ⟨⟨by decide, by decide⟩, by decide⟩ (fun _ => by decide +kernel) kd0
theorem eX8_put_44 {a : Nat} {l0 l2 l3 l4 : Option VV} {v0 : VV} {S : MM} : rn xX8_put (44, [l0, some (vJ a), l2, l3, l4], [v0], S) = rn xX8_put (45, [l0, some (vJ a), l2, l3, l4], [vJ a, v0], S) := rn_step dX8_put_44 rfl rfl
theorem eX8_put_45 {a : Int} {l0 l1 l2 l3 : Option VV} {v0 v1 : VV} {S : MM} : rn xX8_put (45, [l0, l1, l2, l3, some (vI a)], [v0, v1], S) = rn xX8_put (47, [l0, l1, l2, l3, some (vI a)], [vI a, v0, v1], S) := rn_step dX8_put_45 rfl rfl
theorem eX8_put_47 {a0 : Nat} {a1 : Int} {l0 l1 l2 l3 l4 : Option VV} {v2 : VV} {S : MM} : rn xX8_put (47, [l0, l1, l2, l3, l4], [vI a1, vJ a0, v2], S) = (fX8_signOf [vJ a0, vI a1] S).bind (fun q => rn xX8_put (50, [l0, l1, l2, l3, l4], q.1.toList ++ [v2], q.2)) := q_callS (n := 2) (as := [vJ a0, vI a1]) (rest := [v2]) dX8_put_47 rfl rfl rfl rfl
theorem eX8_put_50 {a0 : Int} {i : Nat} {l0 l1 l2 l3 l4 : Option VV} (h : kd i = 2) {S : MM} : rn xX8_put (50, [l0, l1, l2, l3, l4], [vI a0, vR i], S) = (fX2_append [vR i, vI a0] S).bind (fun q => rn xX8_put (53, [l0, l1, l2, l3, l4], q.1.toList ++ [], q.2)) := q_callV (n := 1) (as := [vI a0]) (rest := []) dX8_put_50 rfl rfl rfl rfl h
theorem eX8_put_53 {a : Int} {w : Int} {l0 l1 l2 : Option VV} {S : MM} : rn xX8_put (53, [l0, l1, l2, some (vI w), some (vI a)], [], S) = rn xX8_put (56, [l0, l1, l2, some (vI w), some (vI (a + (-1)))], [], S) := rn_step dX8_put_53 rfl rfl
theorem eX8_put_56 {l0 l1 l2 l3 l4 : Option VV} {S : MM} : rn xX8_put (56, [l0, l1, l2, l3, l4], [], S) = rn xX8_put (35, [l0, l1, l2, l3, l4], [], S) := rn_step dX8_put_56 rfl rfl
theorem eX8_put_59 {a : Option Nat} {l1 l2 l3 l4 : Option VV} {S : MM} : rn xX8_put (59, [some (.inr (.inl a)), l1, l2, l3, l4], [], S) = rn xX8_put (60, [some (.inr (.inl a)), l1, l2, l3, l4], [.inr (.inl a)], S) := rn_step dX8_put_59 rfl rfl
theorem eX8_put_60 {l0 l1 l2 l3 l4 : Option VV} {S : MM} : rn xX8_put (60, [l0, l1, l2, l3, l4], [vR 0], S) = rn xX8_put (63, [l0, l1, l2, l3, l4], [vR 69], S) := q_getR dX8_put_60 rfl ⟨⟨by decide, by decide⟩, by decide⟩ (fun _ => by decide +kernel) kd0
theorem eX8_put_63 {i : Nat} {l0 l1 l2 l3 l4 : Option VV} (h : kd i = 2) {S : MM} : rn xX8_put (63, [l0, l1, l2, l3, l4], [vR i], S) = (fX2_length [vR i] S).bind (fun q => rn xX8_put (66, [l0, l1, l2, l3, l4], q.1.toList ++ [], q.2)) := q_callV (n := 0) (as := []) (rest := []) dX8_put_63 rfl rfl rfl rfl h
theorem eX8_put_66 {z : Int} {l0 l1 l2 l3 l4 : Option VV} {S : MM} : rn xX8_put (66, [l0, l1, l2, l3, l4], [vI z], S) = some (some (vI z), S) := q_retI dX8_put_66 rfl
noncomputable def qlX8_wipe : List CE := [(0, 176, 2, 1, fX2_length), (0, 229, 2, 1, fX2_clear)]
noncomputable def xX8_wipe : XX := (cX8_wipe, fcF fcl8, mcF qlX8_wipe, 1)
noncomputable def fX8_wipe : FN := fnX xX8_wipe 2
set_option maxRecDepth 100000 in
theorem cwX8_wipe : Cond.code yX8_wipe cX8_wipe 2 (some .int) ∈ lw_g := lw_gm 672 (by decide +kernel) (by decide +kernel)
set_option maxRecDepth 100000 in
theorem conX8_wipe : Con yX8_wipe cX8_wipe 2 (some .int) { frames := 1, cells := 0, slots := 0, locals := 20 } fX8_wipe := con_of (X := xX8_wipe) (own := "LeapStones") (ql := qlX8_wipe) (by decide) rfl FOK8 rfl (List.forall_mem_cons.mpr ⟨call_V conX2_length cwX2_length (lw_gl _ [532, 533, 534, 29] (by decide +kernel) (by decide +kernel)) (by decide) rfl ⟨by decide, by decide, by decide +kernel⟩ ⟨rfl, rfl⟩ ⟨by decide, by decide⟩ ⟨Nat.le_refl _, Nat.le_refl _⟩, List.forall_mem_cons.mpr ⟨call_V conX2_clear cwX2_clear (lw_gl _ [673, 674, 675, 29] (by decide +kernel) (by decide +kernel)) (by decide) rfl ⟨by decide, by decide, by decide +kernel⟩ ⟨rfl, rfl⟩ ⟨by decide, by decide⟩ ⟨Nat.le_refl _, Nat.le_refl _⟩, fun _ h => absurd h List.not_mem_nil⟩⟩) (Or.inr (Or.inl ⟨rfl, rfl⟩))
theorem uX8_wipe {i : Nat} {S : MM} : fX8_wipe [vR i] S = rn xX8_wipe (0, [some (vR i), none], [], S) := rfl
theorem dX8_wipe_0 : decode cX8_wipe 0 = .ok (.aload_n 0, 1) := by decide +kernel
theorem dX8_wipe_1 : decode cX8_wipe 1 = .ok (.getfield 39, 3) := by decide +kernel
theorem dX8_wipe_4 : decode cX8_wipe 4 = .ok (.invokevirtual 176, 3) := by decide +kernel
theorem dX8_wipe_7 : decode cX8_wipe 7 = .ok (.istore_n 1, 1) := by decide +kernel
theorem dX8_wipe_8 : decode cX8_wipe 8 = .ok (.aload_n 0, 1) := by decide +kernel
theorem dX8_wipe_9 : decode cX8_wipe 9 = .ok (.getfield 39, 3) := by decide +kernel
theorem dX8_wipe_12 : decode cX8_wipe 12 = .ok (.invokevirtual 229, 3) := by decide +kernel
theorem dX8_wipe_15 : decode cX8_wipe 15 = .ok (.iload_n 1, 1) := by decide +kernel
theorem dX8_wipe_16 : decode cX8_wipe 16 = .ok (.ireturn, 1) := by decide +kernel
theorem eX8_wipe_0 {a : Option Nat} {l1 : Option VV} {S : MM} : rn xX8_wipe (0, [some (.inr (.inl a)), l1], [], S) = rn xX8_wipe (1, [some (.inr (.inl a)), l1], [.inr (.inl a)], S) := rn_step dX8_wipe_0 rfl rfl
theorem eX8_wipe_1 {l0 l1 : Option VV} {S : MM} : rn xX8_wipe (1, [l0, l1], [vR 0], S) = rn xX8_wipe (4, [l0, l1], [vR 69], S) := q_getR dX8_wipe_1 rfl ⟨⟨by decide, by decide⟩, by decide⟩ (fun _ => by decide +kernel) kd0
theorem eX8_wipe_4 {i : Nat} {l0 l1 : Option VV} (h : kd i = 2) {S : MM} : rn xX8_wipe (4, [l0, l1], [vR i], S) = (fX2_length [vR i] S).bind (fun q => rn xX8_wipe (7, [l0, l1], q.1.toList ++ [], q.2)) := q_callV (n := 0) (as := []) (rest := []) dX8_wipe_4 rfl rfl rfl rfl h
theorem eX8_wipe_7 {a : Int} {w : Option Nat} {l1 : Option VV} {S : MM} : rn xX8_wipe (7, [some (.inr (.inl w)), l1], [vI a], S) = rn xX8_wipe (8, [some (.inr (.inl w)), some (vI a)], [], S) := rn_step dX8_wipe_7 rfl rfl
theorem eX8_wipe_8 {a : Option Nat} {l1 : Option VV} {S : MM} : rn xX8_wipe (8, [some (.inr (.inl a)), l1], [], S) = rn xX8_wipe (9, [some (.inr (.inl a)), l1], [.inr (.inl a)], S) := rn_step dX8_wipe_8 rfl rfl
theorem eX8_wipe_9 {l0 l1 : Option VV} {S : MM} : rn xX8_wipe (9, [l0, l1], [vR 0], S) = rn xX8_wipe (12, [l0, l1], [vR 69], S) := q_getR dX8_wipe_9 rfl ⟨⟨by decide, by decide⟩, by decide⟩ (fun _ => by decide +kernel) kd0
theorem eX8_wipe_12 {i : Nat} {l0 l1 : Option VV} (h : kd i = 2) {S : MM} : rn xX8_wipe (12, [l0, l1], [vR i], S) = (fX2_clear [vR i] S).bind (fun q => rn xX8_wipe (15, [l0, l1], q.1.toList ++ [], q.2)) := q_callV (n := 0) (as := []) (rest := []) dX8_wipe_12 rfl rfl rfl rfl h
theorem eX8_wipe_15 {a : Int} {l0 : Option VV} {S : MM} : rn xX8_wipe (15, [l0, some (vI a)], [], S) = rn xX8_wipe (16, [l0, some (vI a)], [vI a], S) := rn_step dX8_wipe_15 rfl rfl
theorem eX8_wipe_16 {z : Int} {l0 l1 : Option VV} {S : MM} : rn xX8_wipe (16, [l0, l1], [vI z], S) = some (some (vI z), S) := q_retI dX8_wipe_16 rfl
noncomputable def qlX8_fault : List CE := [(0, 232, 2, 1, fX2_firstFault)]
noncomputable def xX8_fault : XX := (cX8_fault, fcF fcl8, mcF qlX8_fault, 1)
noncomputable def fX8_fault : FN := fnX xX8_fault 1
set_option maxRecDepth 100000 in
theorem cwX8_fault : Cond.code yX8_fault cX8_fault 1 (some .int) ∈ lw_g := lw_gm 698 (by decide +kernel) (by decide +kernel)
set_option maxRecDepth 100000 in
theorem conX8_fault : Con yX8_fault cX8_fault 1 (some .int) { frames := 6, cells := 0, slots := 0, locals := 128 } fX8_fault := con_of (X := xX8_fault) (own := "LeapStones") (ql := qlX8_fault) (by decide) rfl FOK8 rfl (List.forall_mem_cons.mpr ⟨call_V conX2_firstFault cwX2_firstFault (lw_gl _ [699, 700, 701, 29] (by decide +kernel) (by decide +kernel)) (by decide) rfl ⟨by decide, by decide, by decide +kernel⟩ ⟨rfl, rfl⟩ ⟨by decide, by decide⟩ ⟨Nat.le_refl _, Nat.le_refl _⟩, fun _ h => absurd h List.not_mem_nil⟩) (Or.inr (Or.inl ⟨rfl, rfl⟩))
theorem uX8_fault {i : Nat} {S : MM} : fX8_fault [vR i] S = rn xX8_fault (0, [some (vR i)], [], S) := rfl
theorem dX8_fault_0 : decode cX8_fault 0 = .ok (.aload_n 0, 1) := by decide +kernel
theorem dX8_fault_1 : decode cX8_fault 1 = .ok (.getfield 39, 3) := by decide +kernel
theorem dX8_fault_4 : decode cX8_fault 4 = .ok (.invokevirtual 232, 3) := by decide +kernel
theorem dX8_fault_7 : decode cX8_fault 7 = .ok (.ireturn, 1) := by decide +kernel
theorem eX8_fault_0 {a : Option Nat} {S : MM} : rn xX8_fault (0, [some (.inr (.inl a))], [], S) = rn xX8_fault (1, [some (.inr (.inl a))], [.inr (.inl a)], S) := rn_step dX8_fault_0 rfl rfl
theorem eX8_fault_1 {l0 : Option VV} {S : MM} : rn xX8_fault (1, [l0], [vR 0], S) = rn xX8_fault (4, [l0], [vR 69], S) := q_getR dX8_fault_1 rfl ⟨⟨by decide, by decide⟩, by decide⟩ (fun _ => by decide +kernel) kd0
theorem eX8_fault_4 {i : Nat} {l0 : Option VV} (h : kd i = 2) {S : MM} : rn xX8_fault (4, [l0], [vR i], S) = (fX2_firstFault [vR i] S).bind (fun q => rn xX8_fault (7, [l0], q.1.toList ++ [], q.2)) := q_callV (n := 0) (as := []) (rest := []) dX8_fault_4 rfl rfl rfl rfl h
theorem eX8_fault_7 {z : Int} {l0 : Option VV} {S : MM} : rn xX8_fault (7, [l0], [vI z], S) = some (some (vI z), S) := q_retI dX8_fault_7 rfl
noncomputable def qlX8_layRange : List CE := [(0, 72, 6, 4, fX6_errorOfLaying), (0, 76, 6, 4, fX6_lay)]
noncomputable def xX8_layRange : XX := (cX8_layRange, fcF fcl8, mcF qlX8_layRange, 2)
noncomputable def fX8_layRange : FN := fnX xX8_layRange 6
set_option maxRecDepth 100000 in
theorem cwX8_layRange : Cond.code yX8_layRange cX8_layRange 6 (some .boolean) ∈ lw_g := lw_gm 787 (by decide +kernel) (by decide +kernel)
set_option maxRecDepth 100000 in
theorem conX8_layRange : Con yX8_layRange cX8_layRange 6 (some .boolean) { frames := 3, cells := 0, slots := 0, locals := 74 } fX8_layRange := con_of (X := xX8_layRange) (own := "LeapStones") (ql := qlX8_layRange) (by decide) rfl FOK8 rfl (List.forall_mem_cons.mpr ⟨call_V conX6_errorOfLaying cwX6_errorOfLaying (lw_gl _ [338, 339, 340, 22] (by decide +kernel) (by decide +kernel)) (by decide) rfl ⟨by decide, by decide, by decide +kernel⟩ ⟨rfl, rfl⟩ ⟨by decide, by decide⟩ ⟨Nat.le_refl _, Nat.le_refl _⟩, List.forall_mem_cons.mpr ⟨call_V conX6_lay cwX6_lay (lw_gl _ [358, 359, 360, 22] (by decide +kernel) (by decide +kernel)) (by decide) rfl ⟨by decide, by decide, by decide +kernel⟩ ⟨rfl, rfl⟩ ⟨by decide, by decide⟩ ⟨Nat.le_refl _, Nat.le_refl _⟩, fun _ h => absurd h List.not_mem_nil⟩⟩) (Or.inr (Or.inr (Or.inl ⟨rfl, rfl⟩)))
theorem uX8_layRange {i : Nat} {a0 : Int} {a1 : Int} {a2 : Int} {a3 : Int} {S : MM} : fX8_layRange [vR i, vI a0, vI a1, vI a2, vI a3] S = rn xX8_layRange (0, [some (vR i), some (vI a0), some (vI a1), some (vI a2), some (vI a3), none], [], S) := rfl
theorem dX8_layRange_0 : decode cX8_layRange 0 = .ok (.iload_n 2, 1) := by decide +kernel
theorem dX8_layRange_1 : decode cX8_layRange 1 = .ok (.istore 5, 2) := by decide +kernel
theorem dX8_layRange_3 : decode cX8_layRange 3 = .ok (.iload 5, 2) := by decide +kernel
theorem dX8_layRange_5 : decode cX8_layRange 5 = .ok (.iload_n 3, 1) := by decide +kernel
theorem dX8_layRange_6 : decode cX8_layRange 6 = .ok (.if_icmp .gt 47, 3) := by decide +kernel
theorem dX8_layRange_9 : decode cX8_layRange 9 = .ok (.iload 5, 2) := by decide +kernel
theorem dX8_layRange_11 : decode cX8_layRange 11 = .ok (.sipush 299, 3) := by decide +kernel
theorem dX8_layRange_14 : decode cX8_layRange 14 = .ok (.if_icmp .gt 39, 3) := by decide +kernel
theorem dX8_layRange_17 : decode cX8_layRange 17 = .ok (.aload_n 0, 1) := by decide +kernel
theorem dX8_layRange_18 : decode cX8_layRange 18 = .ok (.getfield 12, 3) := by decide +kernel
theorem dX8_layRange_21 : decode cX8_layRange 21 = .ok (.iload_n 1, 1) := by decide +kernel
theorem dX8_layRange_22 : decode cX8_layRange 22 = .ok (.iload 5, 2) := by decide +kernel
theorem dX8_layRange_24 : decode cX8_layRange 24 = .ok (.iload 4, 2) := by decide +kernel
theorem dX8_layRange_26 : decode cX8_layRange 26 = .ok (.invokevirtual 72, 3) := by decide +kernel
theorem dX8_layRange_29 : decode cX8_layRange 29 = .ok (.ifCond .ge 5, 3) := by decide +kernel
theorem dX8_layRange_32 : decode cX8_layRange 32 = .ok (.iconst 0, 1) := by decide +kernel
theorem dX8_layRange_33 : decode cX8_layRange 33 = .ok (.ireturn, 1) := by decide +kernel
theorem dX8_layRange_34 : decode cX8_layRange 34 = .ok (.aload_n 0, 1) := by decide +kernel
theorem dX8_layRange_35 : decode cX8_layRange 35 = .ok (.getfield 12, 3) := by decide +kernel
theorem dX8_layRange_38 : decode cX8_layRange 38 = .ok (.iload_n 1, 1) := by decide +kernel
theorem dX8_layRange_39 : decode cX8_layRange 39 = .ok (.iload 5, 2) := by decide +kernel
theorem dX8_layRange_41 : decode cX8_layRange 41 = .ok (.iload 4, 2) := by decide +kernel
theorem dX8_layRange_43 : decode cX8_layRange 43 = .ok (.invokevirtual 76, 3) := by decide +kernel
theorem dX8_layRange_46 : decode cX8_layRange 46 = .ok (.pop, 1) := by decide +kernel
theorem dX8_layRange_47 : decode cX8_layRange 47 = .ok (.iinc 5 1, 3) := by decide +kernel
theorem dX8_layRange_50 : decode cX8_layRange 50 = .ok (.goto (-47), 3) := by decide +kernel
theorem dX8_layRange_53 : decode cX8_layRange 53 = .ok (.iconst 1, 1) := by decide +kernel
theorem dX8_layRange_54 : decode cX8_layRange 54 = .ok (.ireturn, 1) := by decide +kernel
theorem eX8_layRange_0 {a : Int} {l0 l1 l3 l4 l5 : Option VV} {S : MM} : rn xX8_layRange (0, [l0, l1, some (vI a), l3, l4, l5], [], S) = rn xX8_layRange (1, [l0, l1, some (vI a), l3, l4, l5], [vI a], S) := rn_step dX8_layRange_0 rfl rfl
theorem eX8_layRange_1 {a : Int} {w : Int} {l0 l1 l2 l3 l5 : Option VV} {S : MM} : rn xX8_layRange (1, [l0, l1, l2, l3, some (vI w), l5], [vI a], S) = rn xX8_layRange (3, [l0, l1, l2, l3, some (vI w), some (vI a)], [], S) := rn_step dX8_layRange_1 rfl rfl
theorem eX8_layRange_3 {a : Int} {l0 l1 l2 l3 l4 : Option VV} {S : MM} : rn xX8_layRange (3, [l0, l1, l2, l3, l4, some (vI a)], [], S) = rn xX8_layRange (5, [l0, l1, l2, l3, l4, some (vI a)], [vI a], S) := rn_step dX8_layRange_3 rfl rfl
theorem eX8_layRange_5 {a : Int} {l0 l1 l2 l4 l5 : Option VV} {v0 : VV} {S : MM} : rn xX8_layRange (5, [l0, l1, l2, some (vI a), l4, l5], [v0], S) = rn xX8_layRange (6, [l0, l1, l2, some (vI a), l4, l5], [vI a, v0], S) := rn_step dX8_layRange_5 rfl rfl
theorem eX8_layRange_6 {a b : Int} {l0 l1 l2 l3 l4 l5 : Option VV} (h : -2147483648 ≤ a ∧ a ≤ 2147483647) (h1 : -2147483648 ≤ b ∧ b ≤ 2147483647) {S : MM} : rn xX8_layRange (6, [l0, l1, l2, l3, l4, l5], [vI b, vI a], S) = if b < a then rn xX8_layRange (53, [l0, l1, l2, l3, l4, l5], [], S) else rn xX8_layRange (9, [l0, l1, l2, l3, l4, l5], [], S) := q_icmp_gt dX8_layRange_6 (by decide) rfl h h1
theorem eX8_layRange_9 {a : Int} {l0 l1 l2 l3 l4 : Option VV} {S : MM} : rn xX8_layRange (9, [l0, l1, l2, l3, l4, some (vI a)], [], S) = rn xX8_layRange (11, [l0, l1, l2, l3, l4, some (vI a)], [vI a], S) := rn_step dX8_layRange_9 rfl rfl
theorem eX8_layRange_11 {l0 l1 l2 l3 l4 l5 : Option VV} {v0 : VV} {S : MM} : rn xX8_layRange (11, [l0, l1, l2, l3, l4, l5], [v0], S) = rn xX8_layRange (14, [l0, l1, l2, l3, l4, l5], [vI 299, v0], S) := rn_step dX8_layRange_11 rfl rfl
theorem eX8_layRange_14 {a b : Int} {l0 l1 l2 l3 l4 l5 : Option VV} (h : -2147483648 ≤ a ∧ a ≤ 2147483647) (h1 : -2147483648 ≤ b ∧ b ≤ 2147483647) {S : MM} : rn xX8_layRange (14, [l0, l1, l2, l3, l4, l5], [vI b, vI a], S) = if b < a then rn xX8_layRange (53, [l0, l1, l2, l3, l4, l5], [], S) else rn xX8_layRange (17, [l0, l1, l2, l3, l4, l5], [], S) := q_icmp_gt dX8_layRange_14 (by decide) rfl h h1
theorem eX8_layRange_17 {a : Option Nat} {l1 l2 l3 l4 l5 : Option VV} {S : MM} : rn xX8_layRange (17, [some (.inr (.inl a)), l1, l2, l3, l4, l5], [], S) = rn xX8_layRange (18, [some (.inr (.inl a)), l1, l2, l3, l4, l5], [.inr (.inl a)], S) := rn_step dX8_layRange_17 rfl rfl
theorem eX8_layRange_18 {l0 l1 l2 l3 l4 l5 : Option VV} {S : MM} : rn xX8_layRange (18, [l0, l1, l2, l3, l4, l5], [vR 0], S) = rn xX8_layRange (21, [l0, l1, l2, l3, l4, l5], [vR 1], S) := q_getR dX8_layRange_18 rfl ⟨⟨by decide, by decide⟩, by decide⟩ (fun _ => by decide +kernel) kd0
theorem eX8_layRange_21 {a : Int} {l0 l2 l3 l4 l5 : Option VV} {v0 : VV} {S : MM} : rn xX8_layRange (21, [l0, some (vI a), l2, l3, l4, l5], [v0], S) = rn xX8_layRange (22, [l0, some (vI a), l2, l3, l4, l5], [vI a, v0], S) := rn_step dX8_layRange_21 rfl rfl
theorem eX8_layRange_22 {a : Int} {l0 l1 l2 l3 l4 : Option VV} {v0 v1 : VV} {S : MM} : rn xX8_layRange (22, [l0, l1, l2, l3, l4, some (vI a)], [v0, v1], S) = rn xX8_layRange (24, [l0, l1, l2, l3, l4, some (vI a)], [vI a, v0, v1], S) := rn_step dX8_layRange_22 rfl rfl
theorem eX8_layRange_24 {a : Int} {l0 l1 l2 l3 l5 : Option VV} {v0 v1 v2 : VV} {S : MM} : rn xX8_layRange (24, [l0, l1, l2, l3, some (vI a), l5], [v0, v1, v2], S) = rn xX8_layRange (26, [l0, l1, l2, l3, some (vI a), l5], [vI a, v0, v1, v2], S) := rn_step dX8_layRange_24 rfl rfl
theorem eX8_layRange_26 {a0 : Int} {a1 : Int} {a2 : Int} {i : Nat} {l0 l1 l2 l3 l4 l5 : Option VV} (h : kd i = 6) {S : MM} : rn xX8_layRange (26, [l0, l1, l2, l3, l4, l5], [vI a2, vI a1, vI a0, vR i], S) = (fX6_errorOfLaying [vR i, vI a0, vI a1, vI a2] S).bind (fun q => rn xX8_layRange (29, [l0, l1, l2, l3, l4, l5], q.1.toList ++ [], q.2)) := q_callV (n := 3) (as := [vI a0, vI a1, vI a2]) (rest := []) dX8_layRange_26 rfl rfl rfl rfl h
theorem eX8_layRange_29 {a : Int} {l0 l1 l2 l3 l4 l5 : Option VV} (h : -2147483648 ≤ a ∧ a ≤ 2147483647) {S : MM} : rn xX8_layRange (29, [l0, l1, l2, l3, l4, l5], [vI a], S) = if a < 0 then rn xX8_layRange (32, [l0, l1, l2, l3, l4, l5], [], S) else rn xX8_layRange (34, [l0, l1, l2, l3, l4, l5], [], S) := q_if_ge dX8_layRange_29 (by decide) rfl h
theorem eX8_layRange_32 {l0 l1 l2 l3 l4 l5 : Option VV} {S : MM} : rn xX8_layRange (32, [l0, l1, l2, l3, l4, l5], [], S) = rn xX8_layRange (33, [l0, l1, l2, l3, l4, l5], [vI 0], S) := rn_step dX8_layRange_32 rfl rfl
theorem eX8_layRange_33 {z : Int} {l0 l1 l2 l3 l4 l5 : Option VV} (hz : z = 0 ∨ z = 1) {S : MM} : rn xX8_layRange (33, [l0, l1, l2, l3, l4, l5], [vI z], S) = some (some (vI z), S) := q_retZ dX8_layRange_33 rfl hz
theorem eX8_layRange_34 {a : Option Nat} {l1 l2 l3 l4 l5 : Option VV} {S : MM} : rn xX8_layRange (34, [some (.inr (.inl a)), l1, l2, l3, l4, l5], [], S) = rn xX8_layRange (35, [some (.inr (.inl a)), l1, l2, l3, l4, l5], [.inr (.inl a)], S) := rn_step dX8_layRange_34 rfl rfl
theorem eX8_layRange_35 {l0 l1 l2 l3 l4 l5 : Option VV} {S : MM} : rn xX8_layRange (35, [l0, l1, l2, l3, l4, l5], [vR 0], S) = rn xX8_layRange (38, [l0, l1, l2, l3, l4, l5], [vR 1], S) := q_getR dX8_layRange_35 rfl ⟨⟨by decide, by decide⟩, by decide⟩ (fun _ => by decide +kernel) kd0
theorem eX8_layRange_38 {a : Int} {l0 l2 l3 l4 l5 : Option VV} {v0 : VV} {S : MM} : rn xX8_layRange (38, [l0, some (vI a), l2, l3, l4, l5], [v0], S) = rn xX8_layRange (39, [l0, some (vI a), l2, l3, l4, l5], [vI a, v0], S) := rn_step dX8_layRange_38 rfl rfl
theorem eX8_layRange_39 {a : Int} {l0 l1 l2 l3 l4 : Option VV} {v0 v1 : VV} {S : MM} : rn xX8_layRange (39, [l0, l1, l2, l3, l4, some (vI a)], [v0, v1], S) = rn xX8_layRange (41, [l0, l1, l2, l3, l4, some (vI a)], [vI a, v0, v1], S) := rn_step dX8_layRange_39 rfl rfl
theorem eX8_layRange_41 {a : Int} {l0 l1 l2 l3 l5 : Option VV} {v0 v1 v2 : VV} {S : MM} : rn xX8_layRange (41, [l0, l1, l2, l3, some (vI a), l5], [v0, v1, v2], S) = rn xX8_layRange (43, [l0, l1, l2, l3, some (vI a), l5], [vI a, v0, v1, v2], S) := rn_step dX8_layRange_41 rfl rfl
theorem eX8_layRange_43 {a0 : Int} {a1 : Int} {a2 : Int} {i : Nat} {l0 l1 l2 l3 l4 l5 : Option VV} (h : kd i = 6) {S : MM} : rn xX8_layRange (43, [l0, l1, l2, l3, l4, l5], [vI a2, vI a1, vI a0, vR i], S) = (fX6_lay [vR i, vI a0, vI a1, vI a2] S).bind (fun q => rn xX8_layRange (46, [l0, l1, l2, l3, l4, l5], q.1.toList ++ [], q.2)) := q_callV (n := 3) (as := [vI a0, vI a1, vI a2]) (rest := []) dX8_layRange_43 rfl rfl rfl rfl h
theorem eX8_layRange_46 {a : Int} {l0 l1 l2 l3 l4 l5 : Option VV} {S : MM} : rn xX8_layRange (46, [l0, l1, l2, l3, l4, l5], [vI a], S) = rn xX8_layRange (47, [l0, l1, l2, l3, l4, l5], [], S) := rn_step dX8_layRange_46 rfl rfl
theorem eX8_layRange_47 {a : Int} {w : Int} {l0 l1 l2 l3 : Option VV} {S : MM} : rn xX8_layRange (47, [l0, l1, l2, l3, some (vI w), some (vI a)], [], S) = rn xX8_layRange (50, [l0, l1, l2, l3, some (vI w), some (vI (a + 1))], [], S) := rn_step dX8_layRange_47 rfl rfl
theorem eX8_layRange_50 {l0 l1 l2 l3 l4 l5 : Option VV} {S : MM} : rn xX8_layRange (50, [l0, l1, l2, l3, l4, l5], [], S) = rn xX8_layRange (3, [l0, l1, l2, l3, l4, l5], [], S) := rn_step dX8_layRange_50 rfl rfl
theorem eX8_layRange_53 {l0 l1 l2 l3 l4 l5 : Option VV} {S : MM} : rn xX8_layRange (53, [l0, l1, l2, l3, l4, l5], [], S) = rn xX8_layRange (54, [l0, l1, l2, l3, l4, l5], [vI 1], S) := rn_step dX8_layRange_53 rfl rfl
theorem eX8_layRange_54 {z : Int} {l0 l1 l2 l3 l4 l5 : Option VV} (hz : z = 0 ∨ z = 1) {S : MM} : rn xX8_layRange (54, [l0, l1, l2, l3, l4, l5], [vI z], S) = some (some (vI z), S) := q_retZ dX8_layRange_54 rfl hz
noncomputable def qlX8_carryStones : List CE := [(0, 289, 2, 1, fX2_readStones), (0, 277, 2, 1, fX2_walker), (0, 280, 2, 1, fX2_from), (0, 283, 2, 1, fX2_to), (0, 292, 2, 1, fX2_repeats), (0, 295, 8, 5, fX8_layRange), (0, 244, 2, 2, fX2_pass)]
noncomputable def xX8_carryStones : XX := (cX8_carryStones, fcF fcl8, mcF qlX8_carryStones, 2)
noncomputable def fX8_carryStones : FN := fnX xX8_carryStones 2
set_option maxRecDepth 100000 in
theorem cwX8_carryStones : Cond.code yX8_carryStones cX8_carryStones 2 (some .boolean) ∈ lw_g := lw_gm 778 (by decide +kernel) (by decide +kernel)
set_option maxRecDepth 100000 in
theorem conX8_carryStones : Con yX8_carryStones cX8_carryStones 2 (some .boolean) { frames := 4, cells := 0, slots := 0, locals := 99 } fX8_carryStones := con_of (X := xX8_carryStones) (own := "LeapStones") (ql := qlX8_carryStones) (by decide) rfl FOK8 rfl (List.forall_mem_cons.mpr ⟨call_V conX2_readStones cwX2_readStones (lw_gl _ [779, 737, 738, 29] (by decide +kernel) (by decide +kernel)) (by decide) rfl ⟨by decide, by decide, by decide +kernel⟩ ⟨rfl, rfl⟩ ⟨by decide, by decide⟩ ⟨Nat.le_refl _, Nat.le_refl _⟩, List.forall_mem_cons.mpr ⟨call_V conX2_walker cwX2_walker (lw_gl _ [763, 764, 765, 29] (by decide +kernel) (by decide +kernel)) (by decide) rfl ⟨by decide, by decide, by decide +kernel⟩ ⟨rfl, rfl⟩ ⟨by decide, by decide⟩ ⟨Nat.le_refl _, Nat.le_refl _⟩, List.forall_mem_cons.mpr ⟨call_V conX2_from cwX2_from (lw_gl _ [767, 768, 769, 29] (by decide +kernel) (by decide +kernel)) (by decide) rfl ⟨by decide, by decide, by decide +kernel⟩ ⟨rfl, rfl⟩ ⟨by decide, by decide⟩ ⟨Nat.le_refl _, Nat.le_refl _⟩, List.forall_mem_cons.mpr ⟨call_V conX2_to cwX2_to (lw_gl _ [771, 772, 773, 29] (by decide +kernel) (by decide +kernel)) (by decide) rfl ⟨by decide, by decide, by decide +kernel⟩ ⟨rfl, rfl⟩ ⟨by decide, by decide⟩ ⟨Nat.le_refl _, Nat.le_refl _⟩, List.forall_mem_cons.mpr ⟨call_V conX2_repeats cwX2_repeats (lw_gl _ [780, 781, 782, 29] (by decide +kernel) (by decide +kernel)) (by decide) rfl ⟨by decide, by decide, by decide +kernel⟩ ⟨rfl, rfl⟩ ⟨by decide, by decide⟩ ⟨Nat.le_refl _, Nat.le_refl _⟩, List.forall_mem_cons.mpr ⟨call_V conX8_layRange cwX8_layRange (lw_gl _ [784, 786, 17, 21] (by decide +kernel) (by decide +kernel)) (by decide) rfl ⟨by decide, by decide, by decide +kernel⟩ ⟨rfl, rfl⟩ ⟨by decide, by decide⟩ ⟨Nat.le_refl _, Nat.le_refl _⟩, List.forall_mem_cons.mpr ⟨call_V conX2_pass cwX2_pass (lw_gl _ [788, 724, 725, 29] (by decide +kernel) (by decide +kernel)) (by decide) rfl ⟨by decide, by decide, by decide +kernel⟩ ⟨rfl, rfl⟩ ⟨by decide, by decide⟩ ⟨Nat.le_refl _, Nat.le_refl _⟩, fun _ h => absurd h List.not_mem_nil⟩⟩⟩⟩⟩⟩⟩) (Or.inr (Or.inr (Or.inl ⟨rfl, rfl⟩)))
theorem uX8_carryStones {i : Nat} {S : MM} : fX8_carryStones [vR i] S = rn xX8_carryStones (0, [some (vR i), none], [], S) := rfl
theorem dX8_carryStones_0 : decode cX8_carryStones 0 = .ok (.iconst 0, 1) := by decide +kernel
theorem dX8_carryStones_1 : decode cX8_carryStones 1 = .ok (.istore_n 1, 1) := by decide +kernel
theorem dX8_carryStones_2 : decode cX8_carryStones 2 = .ok (.iload_n 1, 1) := by decide +kernel
theorem dX8_carryStones_3 : decode cX8_carryStones 3 = .ok (.bipush 80, 2) := by decide +kernel
theorem dX8_carryStones_5 : decode cX8_carryStones 5 = .ok (.if_icmp .ge 70, 3) := by decide +kernel
theorem dX8_carryStones_8 : decode cX8_carryStones 8 = .ok (.aload_n 0, 1) := by decide +kernel
theorem dX8_carryStones_9 : decode cX8_carryStones 9 = .ok (.getfield 39, 3) := by decide +kernel
theorem dX8_carryStones_12 : decode cX8_carryStones 12 = .ok (.invokevirtual 289, 3) := by decide +kernel
theorem dX8_carryStones_15 : decode cX8_carryStones 15 = .ok (.ifCond .eq 38, 3) := by decide +kernel
theorem dX8_carryStones_18 : decode cX8_carryStones 18 = .ok (.aload_n 0, 1) := by decide +kernel
theorem dX8_carryStones_19 : decode cX8_carryStones 19 = .ok (.aload_n 0, 1) := by decide +kernel
theorem dX8_carryStones_20 : decode cX8_carryStones 20 = .ok (.getfield 39, 3) := by decide +kernel
theorem dX8_carryStones_23 : decode cX8_carryStones 23 = .ok (.invokevirtual 277, 3) := by decide +kernel
theorem dX8_carryStones_26 : decode cX8_carryStones 26 = .ok (.aload_n 0, 1) := by decide +kernel
theorem dX8_carryStones_27 : decode cX8_carryStones 27 = .ok (.getfield 39, 3) := by decide +kernel
theorem dX8_carryStones_30 : decode cX8_carryStones 30 = .ok (.invokevirtual 280, 3) := by decide +kernel
theorem dX8_carryStones_33 : decode cX8_carryStones 33 = .ok (.aload_n 0, 1) := by decide +kernel
theorem dX8_carryStones_34 : decode cX8_carryStones 34 = .ok (.getfield 39, 3) := by decide +kernel
theorem dX8_carryStones_37 : decode cX8_carryStones 37 = .ok (.invokevirtual 283, 3) := by decide +kernel
theorem dX8_carryStones_40 : decode cX8_carryStones 40 = .ok (.aload_n 0, 1) := by decide +kernel
theorem dX8_carryStones_41 : decode cX8_carryStones 41 = .ok (.getfield 39, 3) := by decide +kernel
theorem dX8_carryStones_44 : decode cX8_carryStones 44 = .ok (.invokevirtual 292, 3) := by decide +kernel
theorem dX8_carryStones_47 : decode cX8_carryStones 47 = .ok (.invokevirtual 295, 3) := by decide +kernel
theorem dX8_carryStones_50 : decode cX8_carryStones 50 = .ok (.ifCond .ne 5, 3) := by decide +kernel
theorem dX8_carryStones_53 : decode cX8_carryStones 53 = .ok (.iconst 0, 1) := by decide +kernel
theorem dX8_carryStones_54 : decode cX8_carryStones 54 = .ok (.ireturn, 1) := by decide +kernel
theorem dX8_carryStones_55 : decode cX8_carryStones 55 = .ok (.aload_n 0, 1) := by decide +kernel
theorem dX8_carryStones_56 : decode cX8_carryStones 56 = .ok (.getfield 39, 3) := by decide +kernel
theorem dX8_carryStones_59 : decode cX8_carryStones 59 = .ok (.bipush 44, 2) := by decide +kernel
theorem dX8_carryStones_61 : decode cX8_carryStones 61 = .ok (.invokevirtual 244, 3) := by decide +kernel
theorem dX8_carryStones_64 : decode cX8_carryStones 64 = .ok (.ifCond .ne 5, 3) := by decide +kernel
theorem dX8_carryStones_67 : decode cX8_carryStones 67 = .ok (.iconst 1, 1) := by decide +kernel
theorem dX8_carryStones_68 : decode cX8_carryStones 68 = .ok (.ireturn, 1) := by decide +kernel
theorem dX8_carryStones_69 : decode cX8_carryStones 69 = .ok (.iinc 1 1, 3) := by decide +kernel
theorem dX8_carryStones_72 : decode cX8_carryStones 72 = .ok (.goto (-70), 3) := by decide +kernel
theorem dX8_carryStones_75 : decode cX8_carryStones 75 = .ok (.iconst 1, 1) := by decide +kernel
theorem dX8_carryStones_76 : decode cX8_carryStones 76 = .ok (.ireturn, 1) := by decide +kernel
theorem eX8_carryStones_0 {l0 l1 : Option VV} {S : MM} : rn xX8_carryStones (0, [l0, l1], [], S) = rn xX8_carryStones (1, [l0, l1], [vI 0], S) := rn_step dX8_carryStones_0 rfl rfl
theorem eX8_carryStones_1 {a : Int} {w : Option Nat} {l1 : Option VV} {S : MM} : rn xX8_carryStones (1, [some (.inr (.inl w)), l1], [vI a], S) = rn xX8_carryStones (2, [some (.inr (.inl w)), some (vI a)], [], S) := rn_step dX8_carryStones_1 rfl rfl
theorem eX8_carryStones_2 {a : Int} {l0 : Option VV} {S : MM} : rn xX8_carryStones (2, [l0, some (vI a)], [], S) = rn xX8_carryStones (3, [l0, some (vI a)], [vI a], S) := rn_step dX8_carryStones_2 rfl rfl
theorem eX8_carryStones_3 {l0 l1 : Option VV} {v0 : VV} {S : MM} : rn xX8_carryStones (3, [l0, l1], [v0], S) = rn xX8_carryStones (5, [l0, l1], [vI 80, v0], S) := rn_step dX8_carryStones_3 rfl rfl
theorem eX8_carryStones_5 {a b : Int} {l0 l1 : Option VV} (h : -2147483648 ≤ a ∧ a ≤ 2147483647) (h1 : -2147483648 ≤ b ∧ b ≤ 2147483647) {S : MM} : rn xX8_carryStones (5, [l0, l1], [vI b, vI a], S) = if a < b then rn xX8_carryStones (8, [l0, l1], [], S) else rn xX8_carryStones (75, [l0, l1], [], S) := q_icmp_ge dX8_carryStones_5 (by decide) rfl h h1
theorem eX8_carryStones_8 {a : Option Nat} {l1 : Option VV} {S : MM} : rn xX8_carryStones (8, [some (.inr (.inl a)), l1], [], S) = rn xX8_carryStones (9, [some (.inr (.inl a)), l1], [.inr (.inl a)], S) := rn_step dX8_carryStones_8 rfl rfl
theorem eX8_carryStones_9 {l0 l1 : Option VV} {S : MM} : rn xX8_carryStones (9, [l0, l1], [vR 0], S) = rn xX8_carryStones (12, [l0, l1], [vR 69], S) := q_getR dX8_carryStones_9 rfl ⟨⟨by decide, by decide⟩, by decide⟩ (fun _ => by decide +kernel) kd0
theorem eX8_carryStones_12 {i : Nat} {l0 l1 : Option VV} (h : kd i = 2) {S : MM} : rn xX8_carryStones (12, [l0, l1], [vR i], S) = (fX2_readStones [vR i] S).bind (fun q => rn xX8_carryStones (15, [l0, l1], q.1.toList ++ [], q.2)) := q_callV (n := 0) (as := []) (rest := []) dX8_carryStones_12 rfl rfl rfl rfl h
theorem eX8_carryStones_15 {a : Int} {l0 l1 : Option VV} (h : -2147483648 ≤ a ∧ a ≤ 2147483647) {S : MM} : rn xX8_carryStones (15, [l0, l1], [vI a], S) = if a = 0 then rn xX8_carryStones (53, [l0, l1], [], S) else rn xX8_carryStones (18, [l0, l1], [], S) := q_if_eq dX8_carryStones_15 (by decide) rfl h
theorem eX8_carryStones_18 {a : Option Nat} {l1 : Option VV} {S : MM} : rn xX8_carryStones (18, [some (.inr (.inl a)), l1], [], S) = rn xX8_carryStones (19, [some (.inr (.inl a)), l1], [.inr (.inl a)], S) := rn_step dX8_carryStones_18 rfl rfl
theorem eX8_carryStones_19 {a : Option Nat} {l1 : Option VV} {v0 : VV} {S : MM} : rn xX8_carryStones (19, [some (.inr (.inl a)), l1], [v0], S) = rn xX8_carryStones (20, [some (.inr (.inl a)), l1], [.inr (.inl a), v0], S) := rn_step dX8_carryStones_19 rfl rfl
theorem eX8_carryStones_20 {l0 l1 : Option VV} {v1 : VV} {S : MM} : rn xX8_carryStones (20, [l0, l1], [vR 0, v1], S) = rn xX8_carryStones (23, [l0, l1], [vR 69, v1], S) := q_getR dX8_carryStones_20 rfl ⟨⟨by decide, by decide⟩, by decide⟩ (fun _ => by decide +kernel) kd0
theorem eX8_carryStones_23 {i : Nat} {l0 l1 : Option VV} {v1 : VV} (h : kd i = 2) {S : MM} : rn xX8_carryStones (23, [l0, l1], [vR i, v1], S) = (fX2_walker [vR i] S).bind (fun q => rn xX8_carryStones (26, [l0, l1], q.1.toList ++ [v1], q.2)) := q_callV (n := 0) (as := []) (rest := [v1]) dX8_carryStones_23 rfl rfl rfl rfl h
theorem eX8_carryStones_26 {a : Option Nat} {l1 : Option VV} {v0 v1 : VV} {S : MM} : rn xX8_carryStones (26, [some (.inr (.inl a)), l1], [v0, v1], S) = rn xX8_carryStones (27, [some (.inr (.inl a)), l1], [.inr (.inl a), v0, v1], S) := rn_step dX8_carryStones_26 rfl rfl
theorem eX8_carryStones_27 {l0 l1 : Option VV} {v1 v2 : VV} {S : MM} : rn xX8_carryStones (27, [l0, l1], [vR 0, v1, v2], S) = rn xX8_carryStones (30, [l0, l1], [vR 69, v1, v2], S) := q_getR dX8_carryStones_27 rfl ⟨⟨by decide, by decide⟩, by decide⟩ (fun _ => by decide +kernel) kd0
theorem eX8_carryStones_30 {i : Nat} {l0 l1 : Option VV} {v1 v2 : VV} (h : kd i = 2) {S : MM} : rn xX8_carryStones (30, [l0, l1], [vR i, v1, v2], S) = (fX2_from [vR i] S).bind (fun q => rn xX8_carryStones (33, [l0, l1], q.1.toList ++ [v1, v2], q.2)) := q_callV (n := 0) (as := []) (rest := [v1, v2]) dX8_carryStones_30 rfl rfl rfl rfl h
theorem eX8_carryStones_33 {a : Option Nat} {l1 : Option VV} {v0 v1 v2 : VV} {S : MM} : rn xX8_carryStones (33, [some (.inr (.inl a)), l1], [v0, v1, v2], S) = rn xX8_carryStones (34, [some (.inr (.inl a)), l1], [.inr (.inl a), v0, v1, v2], S) := rn_step dX8_carryStones_33 rfl rfl
theorem eX8_carryStones_34 {l0 l1 : Option VV} {v1 v2 v3 : VV} {S : MM} : rn xX8_carryStones (34, [l0, l1], [vR 0, v1, v2, v3], S) = rn xX8_carryStones (37, [l0, l1], [vR 69, v1, v2, v3], S) := q_getR dX8_carryStones_34 rfl ⟨⟨by decide, by decide⟩, by decide⟩ (fun _ => by decide +kernel) kd0
theorem eX8_carryStones_37 {i : Nat} {l0 l1 : Option VV} {v1 v2 v3 : VV} (h : kd i = 2) {S : MM} : rn xX8_carryStones (37, [l0, l1], [vR i, v1, v2, v3], S) = (fX2_to [vR i] S).bind (fun q => rn xX8_carryStones (40, [l0, l1], q.1.toList ++ [v1, v2, v3], q.2)) := q_callV (n := 0) (as := []) (rest := [v1, v2, v3]) dX8_carryStones_37 rfl rfl rfl rfl h
theorem eX8_carryStones_40 {a : Option Nat} {l1 : Option VV} {v0 v1 v2 v3 : VV} {S : MM} : rn xX8_carryStones (40, [some (.inr (.inl a)), l1], [v0, v1, v2, v3], S) = rn xX8_carryStones (41, [some (.inr (.inl a)), l1], [.inr (.inl a), v0, v1, v2, v3], S) := rn_step dX8_carryStones_40 rfl rfl
theorem eX8_carryStones_41 {l0 l1 : Option VV} {v1 v2 v3 v4 : VV} {S : MM} : rn xX8_carryStones (41, [l0, l1], [vR 0, v1, v2, v3, v4], S) = rn xX8_carryStones (44, [l0, l1], [vR 69, v1, v2, v3, v4], S) := q_getR dX8_carryStones_41 rfl ⟨⟨by decide, by decide⟩, by decide⟩ (fun _ => by decide +kernel) kd0
theorem eX8_carryStones_44 {i : Nat} {l0 l1 : Option VV} {v1 v2 v3 v4 : VV} (h : kd i = 2) {S : MM} : rn xX8_carryStones (44, [l0, l1], [vR i, v1, v2, v3, v4], S) = (fX2_repeats [vR i] S).bind (fun q => rn xX8_carryStones (47, [l0, l1], q.1.toList ++ [v1, v2, v3, v4], q.2)) := q_callV (n := 0) (as := []) (rest := [v1, v2, v3, v4]) dX8_carryStones_44 rfl rfl rfl rfl h
theorem eX8_carryStones_47 {a0 : Int} {a1 : Int} {a2 : Int} {a3 : Int} {l0 l1 : Option VV} {S : MM} : rn xX8_carryStones (47, [l0, l1], [vI a3, vI a2, vI a1, vI a0, vR 0], S) = (fX8_layRange [vR 0, vI a0, vI a1, vI a2, vI a3] S).bind (fun q => rn xX8_carryStones (50, [l0, l1], q.1.toList ++ [], q.2)) := q_callV (n := 4) (as := [vI a0, vI a1, vI a2, vI a3]) (rest := []) dX8_carryStones_47 rfl rfl rfl rfl kd0
theorem eX8_carryStones_50 {a : Int} {l0 l1 : Option VV} (h : -2147483648 ≤ a ∧ a ≤ 2147483647) {S : MM} : rn xX8_carryStones (50, [l0, l1], [vI a], S) = if a = 0 then rn xX8_carryStones (53, [l0, l1], [], S) else rn xX8_carryStones (55, [l0, l1], [], S) := q_if_ne dX8_carryStones_50 (by decide) rfl h
theorem eX8_carryStones_53 {l0 l1 : Option VV} {S : MM} : rn xX8_carryStones (53, [l0, l1], [], S) = rn xX8_carryStones (54, [l0, l1], [vI 0], S) := rn_step dX8_carryStones_53 rfl rfl
theorem eX8_carryStones_54 {z : Int} {l0 l1 : Option VV} (hz : z = 0 ∨ z = 1) {S : MM} : rn xX8_carryStones (54, [l0, l1], [vI z], S) = some (some (vI z), S) := q_retZ dX8_carryStones_54 rfl hz
theorem eX8_carryStones_55 {a : Option Nat} {l1 : Option VV} {S : MM} : rn xX8_carryStones (55, [some (.inr (.inl a)), l1], [], S) = rn xX8_carryStones (56, [some (.inr (.inl a)), l1], [.inr (.inl a)], S) := rn_step dX8_carryStones_55 rfl rfl
theorem eX8_carryStones_56 {l0 l1 : Option VV} {S : MM} : rn xX8_carryStones (56, [l0, l1], [vR 0], S) = rn xX8_carryStones (59, [l0, l1], [vR 69], S) := q_getR dX8_carryStones_56 rfl ⟨⟨by decide, by decide⟩, by decide⟩ (fun _ => by decide +kernel) kd0
theorem eX8_carryStones_59 {l0 l1 : Option VV} {v0 : VV} {S : MM} : rn xX8_carryStones (59, [l0, l1], [v0], S) = rn xX8_carryStones (61, [l0, l1], [vI 44, v0], S) := rn_step dX8_carryStones_59 rfl rfl
theorem eX8_carryStones_61 {a0 : Int} {i : Nat} {l0 l1 : Option VV} (h : kd i = 2) {S : MM} : rn xX8_carryStones (61, [l0, l1], [vI a0, vR i], S) = (fX2_pass [vR i, vI a0] S).bind (fun q => rn xX8_carryStones (64, [l0, l1], q.1.toList ++ [], q.2)) := q_callV (n := 1) (as := [vI a0]) (rest := []) dX8_carryStones_61 rfl rfl rfl rfl h
theorem eX8_carryStones_64 {a : Int} {l0 l1 : Option VV} (h : -2147483648 ≤ a ∧ a ≤ 2147483647) {S : MM} : rn xX8_carryStones (64, [l0, l1], [vI a], S) = if a = 0 then rn xX8_carryStones (67, [l0, l1], [], S) else rn xX8_carryStones (69, [l0, l1], [], S) := q_if_ne dX8_carryStones_64 (by decide) rfl h
theorem eX8_carryStones_67 {l0 l1 : Option VV} {S : MM} : rn xX8_carryStones (67, [l0, l1], [], S) = rn xX8_carryStones (68, [l0, l1], [vI 1], S) := rn_step dX8_carryStones_67 rfl rfl
theorem eX8_carryStones_68 {z : Int} {l0 l1 : Option VV} (hz : z = 0 ∨ z = 1) {S : MM} : rn xX8_carryStones (68, [l0, l1], [vI z], S) = some (some (vI z), S) := q_retZ dX8_carryStones_68 rfl hz
theorem eX8_carryStones_69 {a : Int} {w : Option Nat} {S : MM} : rn xX8_carryStones (69, [some (.inr (.inl w)), some (vI a)], [], S) = rn xX8_carryStones (72, [some (.inr (.inl w)), some (vI (a + 1))], [], S) := rn_step dX8_carryStones_69 rfl rfl
theorem eX8_carryStones_72 {l0 l1 : Option VV} {S : MM} : rn xX8_carryStones (72, [l0, l1], [], S) = rn xX8_carryStones (2, [l0, l1], [], S) := rn_step dX8_carryStones_72 rfl rfl
theorem eX8_carryStones_75 {l0 l1 : Option VV} {S : MM} : rn xX8_carryStones (75, [l0, l1], [], S) = rn xX8_carryStones (76, [l0, l1], [vI 1], S) := rn_step dX8_carryStones_75 rfl rfl
theorem eX8_carryStones_76 {z : Int} {l0 l1 : Option VV} (hz : z = 0 ∨ z = 1) {S : MM} : rn xX8_carryStones (76, [l0, l1], [vI z], S) = some (some (vI z), S) := q_retZ dX8_carryStones_76 rfl hz

def fcl0 : List (Nat × Nat × Nat) := [(9, 0, 5), (15, 0, 6), (18, 0, 7), (21, 0, 8), (24, 0, 9), (27, 0, 10), (30, 0, 11), (33, 0, 0), (37, 0, 1), (44, 0, 4), (62, 0, 2), (69, 0, 3)]
set_option maxRecDepth 100000 in
theorem FOK0 : FOK "LeapStones$Crossing" (fcF fcl0) := FOK_of (List.forall_mem_cons.mpr ⟨⟨fun _ => Or.inl (lw_gm 132 (by decide +kernel) (by decide +kernel)), fun h => absurd h (by decide), fun h => absurd h (by decide), fun h => absurd h (by decide)⟩, List.forall_mem_cons.mpr ⟨⟨fun _ => Or.inl (lw_gm 133 (by decide +kernel) (by decide +kernel)), fun h => absurd h (by decide), fun h => absurd h (by decide), fun h => absurd h (by decide)⟩, List.forall_mem_cons.mpr ⟨⟨fun _ => Or.inl (lw_gm 134 (by decide +kernel) (by decide +kernel)), fun h => absurd h (by decide), fun h => absurd h (by decide), fun h => absurd h (by decide)⟩, List.forall_mem_cons.mpr ⟨⟨fun _ => Or.inl (lw_gm 135 (by decide +kernel) (by decide +kernel)), fun h => absurd h (by decide), fun h => absurd h (by decide), fun h => absurd h (by decide)⟩, List.forall_mem_cons.mpr ⟨⟨fun _ => Or.inl (lw_gm 136 (by decide +kernel) (by decide +kernel)), fun h => absurd h (by decide), fun h => absurd h (by decide), fun h => absurd h (by decide)⟩, List.forall_mem_cons.mpr ⟨⟨fun _ => Or.inl (lw_gm 137 (by decide +kernel) (by decide +kernel)), fun h => absurd h (by decide), fun h => absurd h (by decide), fun h => absurd h (by decide)⟩, List.forall_mem_cons.mpr ⟨⟨fun _ => Or.inl (lw_gm 138 (by decide +kernel) (by decide +kernel)), fun h => absurd h (by decide), fun h => absurd h (by decide), fun h => absurd h (by decide)⟩, List.forall_mem_cons.mpr ⟨⟨fun _ => Or.inl (lw_gm 127 (by decide +kernel) (by decide +kernel)), fun h => absurd h (by decide), fun h => absurd h (by decide), fun h => absurd h (by decide)⟩, List.forall_mem_cons.mpr ⟨⟨fun _ => Or.inl (lw_gm 128 (by decide +kernel) (by decide +kernel)), fun h => absurd h (by decide), fun h => absurd h (by decide), fun h => absurd h (by decide)⟩, List.forall_mem_cons.mpr ⟨⟨fun _ => Or.inl (lw_gm 131 (by decide +kernel) (by decide +kernel)), fun h => absurd h (by decide), fun h => absurd h (by decide), fun h => absurd h (by decide)⟩, List.forall_mem_cons.mpr ⟨⟨fun _ => Or.inl (lw_gm 129 (by decide +kernel) (by decide +kernel)), fun h => absurd h (by decide), fun h => absurd h (by decide), fun h => absurd h (by decide)⟩, List.forall_mem_cons.mpr ⟨⟨fun _ => Or.inl (lw_gm 130 (by decide +kernel) (by decide +kernel)), fun h => absurd h (by decide), fun h => absurd h (by decide), fun h => absurd h (by decide)⟩, fun _ h => absurd h List.not_mem_nil⟩⟩⟩⟩⟩⟩⟩⟩⟩⟩⟩⟩)
def fcl1 : List (Nat × Nat × Nat) := [(11, 1, 0), (22, 1, 1)]
set_option maxRecDepth 100000 in
theorem FOK1 : FOK "LeapStones$Floods" (fcF fcl1) := FOK_of (List.forall_mem_cons.mpr ⟨⟨fun _ => Or.inl (lw_gm 114 (by decide +kernel) (by decide +kernel)), fun h => absurd h (by decide), fun h => absurd h (by decide), fun h => absurd h (by decide)⟩, List.forall_mem_cons.mpr ⟨⟨fun _ => Or.inl (lw_gm 115 (by decide +kernel) (by decide +kernel)), fun h => absurd h (by decide), fun h => absurd h (by decide), fun h => absurd h (by decide)⟩, fun _ h => absurd h List.not_mem_nil⟩⟩)
def fcl2 : List (Nat × Nat × Nat) := [(9, 2, 0), (15, 2, 1), (19, 2, 3), (23, 2, 4), (26, 2, 5), (29, 2, 6), (32, 2, 7), (35, 2, 2)]
set_option maxRecDepth 100000 in
theorem FOK2 : FOK "LeapStones$Pad" (fcF fcl2) := FOK_of (List.forall_mem_cons.mpr ⟨⟨fun _ => Or.inl (lw_gm 190 (by decide +kernel) (by decide +kernel)), fun h => absurd h (by decide), fun h => absurd h (by decide), fun h => absurd h (by decide)⟩, List.forall_mem_cons.mpr ⟨⟨fun _ => Or.inl (lw_gm 191 (by decide +kernel) (by decide +kernel)), fun h => absurd h (by decide), fun h => absurd h (by decide), fun h => absurd h (by decide)⟩, List.forall_mem_cons.mpr ⟨⟨fun _ => Or.inl (lw_gm 193 (by decide +kernel) (by decide +kernel)), fun h => absurd h (by decide), fun h => absurd h (by decide), fun h => absurd h (by decide)⟩, List.forall_mem_cons.mpr ⟨⟨fun _ => Or.inl (lw_gm 194 (by decide +kernel) (by decide +kernel)), fun h => absurd h (by decide), fun h => absurd h (by decide), fun h => absurd h (by decide)⟩, List.forall_mem_cons.mpr ⟨⟨fun _ => Or.inl (lw_gm 195 (by decide +kernel) (by decide +kernel)), fun h => absurd h (by decide), fun h => absurd h (by decide), fun h => absurd h (by decide)⟩, List.forall_mem_cons.mpr ⟨⟨fun _ => Or.inl (lw_gm 196 (by decide +kernel) (by decide +kernel)), fun h => absurd h (by decide), fun h => absurd h (by decide), fun h => absurd h (by decide)⟩, List.forall_mem_cons.mpr ⟨⟨fun _ => Or.inl (lw_gm 197 (by decide +kernel) (by decide +kernel)), fun h => absurd h (by decide), fun h => absurd h (by decide), fun h => absurd h (by decide)⟩, List.forall_mem_cons.mpr ⟨⟨fun _ => Or.inl (lw_gm 192 (by decide +kernel) (by decide +kernel)), fun h => absurd h (by decide), fun h => absurd h (by decide), fun h => absurd h (by decide)⟩, fun _ h => absurd h List.not_mem_nil⟩⟩⟩⟩⟩⟩⟩⟩)
def fcl3 : List (Nat × Nat × Nat) := [(9, 3, 0), (15, 3, 1), (18, 3, 2)]
set_option maxRecDepth 100000 in
theorem FOK3 : FOK "LeapStones$Path" (fcF fcl3) := FOK_of (List.forall_mem_cons.mpr ⟨⟨fun _ => Or.inl (lw_gm 69 (by decide +kernel) (by decide +kernel)), fun h => absurd h (by decide), fun h => absurd h (by decide), fun h => absurd h (by decide)⟩, List.forall_mem_cons.mpr ⟨⟨fun _ => Or.inl (lw_gm 70 (by decide +kernel) (by decide +kernel)), fun h => absurd h (by decide), fun h => absurd h (by decide), fun h => absurd h (by decide)⟩, List.forall_mem_cons.mpr ⟨⟨fun _ => Or.inl (lw_gm 71 (by decide +kernel) (by decide +kernel)), fun h => absurd h (by decide), fun h => absurd h (by decide), fun h => absurd h (by decide)⟩, fun _ h => absurd h List.not_mem_nil⟩⟩⟩)
def fcl4 : List (Nat × Nat × Nat) := [(7, 4, 0), (13, 4, 2), (16, 4, 1)]
set_option maxRecDepth 100000 in
theorem FOK4 : FOK "LeapStones$Ring" (fcF fcl4) := FOK_of (List.forall_mem_cons.mpr ⟨⟨fun _ => Or.inl (lw_gm 103 (by decide +kernel) (by decide +kernel)), fun h => absurd h (by decide), fun h => absurd h (by decide), fun h => absurd h (by decide)⟩, List.forall_mem_cons.mpr ⟨⟨fun _ => Or.inl (lw_gm 105 (by decide +kernel) (by decide +kernel)), fun h => absurd h (by decide), fun h => absurd h (by decide), fun h => absurd h (by decide)⟩, List.forall_mem_cons.mpr ⟨⟨fun _ => Or.inl (lw_gm 104 (by decide +kernel) (by decide +kernel)), fun h => absurd h (by decide), fun h => absurd h (by decide), fun h => absurd h (by decide)⟩, fun _ h => absurd h List.not_mem_nil⟩⟩⟩)
def fcl5 : List (Nat × Nat × Nat) := [(12, 5, 0), (18, 5, 1), (21, 5, 2)]
set_option maxRecDepth 100000 in
theorem FOK5 : FOK "LeapStones$River" (fcF fcl5) := FOK_of (List.forall_mem_cons.mpr ⟨⟨fun _ => Or.inl (lw_gm 79 (by decide +kernel) (by decide +kernel)), fun h => absurd h (by decide), fun h => absurd h (by decide), fun h => absurd h (by decide)⟩, List.forall_mem_cons.mpr ⟨⟨fun _ => Or.inl (lw_gm 80 (by decide +kernel) (by decide +kernel)), fun h => absurd h (by decide), fun h => absurd h (by decide), fun h => absurd h (by decide)⟩, List.forall_mem_cons.mpr ⟨⟨fun _ => Or.inl (lw_gm 81 (by decide +kernel) (by decide +kernel)), fun h => absurd h (by decide), fun h => absurd h (by decide), fun h => absurd h (by decide)⟩, fun _ h => absurd h List.not_mem_nil⟩⟩⟩)
def fcl6 : List (Nat × Nat × Nat) := [(12, 6, 0), (21, 6, 1), (28, 6, 2), (35, 6, 3)]
set_option maxRecDepth 100000 in
theorem FOK6 : FOK "LeapStones$Scene" (fcF fcl6) := FOK_of (List.forall_mem_cons.mpr ⟨⟨fun _ => Or.inl (lw_gm 164 (by decide +kernel) (by decide +kernel)), fun h => absurd h (by decide), fun h => absurd h (by decide), fun h => absurd h (by decide)⟩, List.forall_mem_cons.mpr ⟨⟨fun _ => Or.inl (lw_gm 166 (by decide +kernel) (by decide +kernel)), fun h => absurd h (by decide), fun h => absurd h (by decide), fun h => absurd h (by decide)⟩, List.forall_mem_cons.mpr ⟨⟨fun _ => Or.inl (lw_gm 168 (by decide +kernel) (by decide +kernel)), fun h => absurd h (by decide), fun h => absurd h (by decide), fun h => absurd h (by decide)⟩, List.forall_mem_cons.mpr ⟨⟨fun _ => Or.inl (lw_gm 170 (by decide +kernel) (by decide +kernel)), fun h => absurd h (by decide), fun h => absurd h (by decide), fun h => absurd h (by decide)⟩, fun _ h => absurd h List.not_mem_nil⟩⟩⟩⟩)
def fcl7 : List (Nat × Nat × Nat) := [(9, 7, 0)]
set_option maxRecDepth 100000 in
theorem FOK7 : FOK "LeapStones$Settings" (fcF fcl7) := FOK_of (List.forall_mem_cons.mpr ⟨⟨fun _ => Or.inl (lw_gm 52 (by decide +kernel) (by decide +kernel)), fun h => absurd h (by decide), fun h => absurd h (by decide), fun h => absurd h (by decide)⟩, fun _ h => absurd h List.not_mem_nil⟩)
def fcl8 : List (Nat × Nat × Nat) := [(12, 8, 0), (16, 8, 1), (25, 8, 2), (29, 8, 3), (32, 8, 4), (39, 8, 5), (46, 8, 6), (53, 8, 7), (95, 6, 3), (105, 6, 1), (109, 6, 0), (164, 6, 2), (301, 97, 0), (299, 98, 255)]
set_option maxRecDepth 100000 in
theorem FOK8 : FOK "LeapStones" (fcF fcl8) := FOK_of (List.forall_mem_cons.mpr ⟨⟨fun _ => Or.inl (lw_gm 221 (by decide +kernel) (by decide +kernel)), fun h => absurd h (by decide), fun h => absurd h (by decide), fun h => absurd h (by decide)⟩, List.forall_mem_cons.mpr ⟨⟨fun _ => Or.inl (lw_gm 222 (by decide +kernel) (by decide +kernel)), fun h => absurd h (by decide), fun h => absurd h (by decide), fun h => absurd h (by decide)⟩, List.forall_mem_cons.mpr ⟨⟨fun _ => Or.inl (lw_gm 223 (by decide +kernel) (by decide +kernel)), fun h => absurd h (by decide), fun h => absurd h (by decide), fun h => absurd h (by decide)⟩, List.forall_mem_cons.mpr ⟨⟨fun _ => Or.inl (lw_gm 224 (by decide +kernel) (by decide +kernel)), fun h => absurd h (by decide), fun h => absurd h (by decide), fun h => absurd h (by decide)⟩, List.forall_mem_cons.mpr ⟨⟨fun _ => Or.inl (lw_gm 225 (by decide +kernel) (by decide +kernel)), fun h => absurd h (by decide), fun h => absurd h (by decide), fun h => absurd h (by decide)⟩, List.forall_mem_cons.mpr ⟨⟨fun _ => Or.inl (lw_gm 226 (by decide +kernel) (by decide +kernel)), fun h => absurd h (by decide), fun h => absurd h (by decide), fun h => absurd h (by decide)⟩, List.forall_mem_cons.mpr ⟨⟨fun _ => Or.inl (lw_gm 227 (by decide +kernel) (by decide +kernel)), fun h => absurd h (by decide), fun h => absurd h (by decide), fun h => absurd h (by decide)⟩, List.forall_mem_cons.mpr ⟨⟨fun _ => Or.inl (lw_gm 228 (by decide +kernel) (by decide +kernel)), fun h => absurd h (by decide), fun h => absurd h (by decide), fun h => absurd h (by decide)⟩, List.forall_mem_cons.mpr ⟨⟨fun _ => Or.inr (List.mem_of_getElem? (i := 9) (by decide +kernel)), fun h => absurd h (by decide), fun h => absurd h (by decide), fun h => absurd h (by decide)⟩, List.forall_mem_cons.mpr ⟨⟨fun _ => Or.inr (List.mem_of_getElem? (i := 7) (by decide +kernel)), fun h => absurd h (by decide), fun h => absurd h (by decide), fun h => absurd h (by decide)⟩, List.forall_mem_cons.mpr ⟨⟨fun _ => Or.inr (List.mem_of_getElem? (i := 6) (by decide +kernel)), fun h => absurd h (by decide), fun h => absurd h (by decide), fun h => absurd h (by decide)⟩, List.forall_mem_cons.mpr ⟨⟨fun _ => Or.inr (List.mem_of_getElem? (i := 8) (by decide +kernel)), fun h => absurd h (by decide), fun h => absurd h (by decide), fun h => absurd h (by decide)⟩, List.forall_mem_cons.mpr ⟨⟨fun h => absurd h (by decide), fun _ => lw_gm 592 (by decide +kernel) (by decide +kernel), fun h => absurd h (by decide), fun h => absurd h (by decide)⟩, List.forall_mem_cons.mpr ⟨⟨fun h => absurd h (by decide), fun h => absurd h (by decide), fun _ => ⟨by decide, lw_gm 690 (by decide +kernel) (by decide +kernel)⟩, fun h => absurd h (by decide)⟩, fun _ h => absurd h List.not_mem_nil⟩⟩⟩⟩⟩⟩⟩⟩⟩⟩⟩⟩⟩⟩)
theorem kd0 : kd 0 = 8 := by decide +kernel
noncomputable def qlX0_isBegun : List CE := []
noncomputable def xX0_isBegun : XX := (cX0_isBegun, fcF fcl0, mcF qlX0_isBegun, 2)
noncomputable def fX0_isBegun : FN := fnX xX0_isBegun 1
set_option maxRecDepth 100000 in
theorem cwX0_isBegun : Cond.code yX0_isBegun cX0_isBegun 1 (some .boolean) ∈ lw_g := lw_gm 405 (by decide +kernel) (by decide +kernel)
set_option maxRecDepth 100000 in
theorem conX0_isBegun : Con yX0_isBegun cX0_isBegun 1 (some .boolean) { frames := 0, cells := 0, slots := 0, locals := 0 } fX0_isBegun := con_of (X := xX0_isBegun) (own := "LeapStones$Crossing") (ql := qlX0_isBegun) (by decide) rfl FOK0 rfl (fun _ h => absurd h List.not_mem_nil) (Or.inr (Or.inr (Or.inl ⟨rfl, rfl⟩)))
theorem uX0_isBegun {i : Nat} {S : MM} : fX0_isBegun [vR i] S = rn xX0_isBegun (0, [some (vR i)], [], S) := rfl
theorem dX0_isBegun_0 : decode cX0_isBegun 0 = .ok (.aload_n 0, 1) := by decide +kernel
theorem dX0_isBegun_1 : decode cX0_isBegun 1 = .ok (.getfield 33, 3) := by decide +kernel
theorem dX0_isBegun_4 : decode cX0_isBegun 4 = .ok (.ireturn, 1) := by decide +kernel
theorem eX0_isBegun_0 {a : Option Nat} {S : MM} : rn xX0_isBegun (0, [some (.inr (.inl a))], [], S) = rn xX0_isBegun (1, [some (.inr (.inl a))], [.inr (.inl a)], S) := rn_step dX0_isBegun_0 rfl rfl
theorem eX0_isBegun_1 {i : Nat} {l0 : Option VV} (h : kd i = 0) {S : MM} : rn xX0_isBegun (1, [l0], [vR i], S) = rn xX0_isBegun (4, [l0], [vI (S i 0)], S) := q_getI dX0_isBegun_1 rfl ⟨⟨by decide, by decide⟩, by decide⟩ h
theorem eX0_isBegun_4 {z : Int} {l0 : Option VV} (hz : z = 0 ∨ z = 1) {S : MM} : rn xX0_isBegun (4, [l0], [vI z], S) = some (some (vI z), S) := q_retZ dX0_isBegun_4 rfl hz
noncomputable def qlX0_isOver : List CE := []
noncomputable def xX0_isOver : XX := (cX0_isOver, fcF fcl0, mcF qlX0_isOver, 2)
noncomputable def fX0_isOver : FN := fnX xX0_isOver 1
set_option maxRecDepth 100000 in
theorem cwX0_isOver : Cond.code yX0_isOver cX0_isOver 1 (some .boolean) ∈ lw_g := lw_gm 598 (by decide +kernel) (by decide +kernel)
set_option maxRecDepth 100000 in
theorem conX0_isOver : Con yX0_isOver cX0_isOver 1 (some .boolean) { frames := 0, cells := 0, slots := 0, locals := 0 } fX0_isOver := con_of (X := xX0_isOver) (own := "LeapStones$Crossing") (ql := qlX0_isOver) (by decide) rfl FOK0 rfl (fun _ h => absurd h List.not_mem_nil) (Or.inr (Or.inr (Or.inl ⟨rfl, rfl⟩)))
theorem uX0_isOver {i : Nat} {S : MM} : fX0_isOver [vR i] S = rn xX0_isOver (0, [some (vR i)], [], S) := rfl
theorem dX0_isOver_0 : decode cX0_isOver 0 = .ok (.aload_n 0, 1) := by decide +kernel
theorem dX0_isOver_1 : decode cX0_isOver 1 = .ok (.getfield 37, 3) := by decide +kernel
theorem dX0_isOver_4 : decode cX0_isOver 4 = .ok (.ireturn, 1) := by decide +kernel
theorem eX0_isOver_0 {a : Option Nat} {S : MM} : rn xX0_isOver (0, [some (.inr (.inl a))], [], S) = rn xX0_isOver (1, [some (.inr (.inl a))], [.inr (.inl a)], S) := rn_step dX0_isOver_0 rfl rfl
theorem eX0_isOver_1 {i : Nat} {l0 : Option VV} (h : kd i = 0) {S : MM} : rn xX0_isOver (1, [l0], [vR i], S) = rn xX0_isOver (4, [l0], [vI (S i 1)], S) := q_getI dX0_isOver_1 rfl ⟨⟨by decide, by decide⟩, by decide⟩ h
theorem eX0_isOver_4 {z : Int} {l0 : Option VV} (hz : z = 0 ∨ z = 1) {S : MM} : rn xX0_isOver (4, [l0], [vI z], S) = some (some (vI z), S) := q_retZ dX0_isOver_4 rfl hz
noncomputable def qlX0_goesOn : List CE := []
noncomputable def xX0_goesOn : XX := (cX0_goesOn, fcF fcl0, mcF qlX0_goesOn, 2)
noncomputable def fX0_goesOn : FN := fnX xX0_goesOn 1
set_option maxRecDepth 100000 in
theorem cwX0_goesOn : Cond.code yX0_goesOn cX0_goesOn 1 (some .boolean) ∈ lw_g := lw_gm 480 (by decide +kernel) (by decide +kernel)
set_option maxRecDepth 100000 in
theorem conX0_goesOn : Con yX0_goesOn cX0_goesOn 1 (some .boolean) { frames := 0, cells := 0, slots := 0, locals := 0 } fX0_goesOn := con_of (X := xX0_goesOn) (own := "LeapStones$Crossing") (ql := qlX0_goesOn) (by decide) rfl FOK0 rfl (fun _ h => absurd h List.not_mem_nil) (Or.inr (Or.inr (Or.inl ⟨rfl, rfl⟩)))
theorem uX0_goesOn {i : Nat} {S : MM} : fX0_goesOn [vR i] S = rn xX0_goesOn (0, [some (vR i)], [], S) := rfl
theorem dX0_goesOn_0 : decode cX0_goesOn 0 = .ok (.aload_n 0, 1) := by decide +kernel
theorem dX0_goesOn_1 : decode cX0_goesOn 1 = .ok (.getfield 33, 3) := by decide +kernel
theorem dX0_goesOn_4 : decode cX0_goesOn 4 = .ok (.ifCond .eq 14, 3) := by decide +kernel
theorem dX0_goesOn_7 : decode cX0_goesOn 7 = .ok (.aload_n 0, 1) := by decide +kernel
theorem dX0_goesOn_8 : decode cX0_goesOn 8 = .ok (.getfield 37, 3) := by decide +kernel
theorem dX0_goesOn_11 : decode cX0_goesOn 11 = .ok (.ifCond .ne 7, 3) := by decide +kernel
theorem dX0_goesOn_14 : decode cX0_goesOn 14 = .ok (.iconst 1, 1) := by decide +kernel
theorem dX0_goesOn_15 : decode cX0_goesOn 15 = .ok (.goto 4, 3) := by decide +kernel
theorem dX0_goesOn_18 : decode cX0_goesOn 18 = .ok (.iconst 0, 1) := by decide +kernel
theorem dX0_goesOn_19 : decode cX0_goesOn 19 = .ok (.ireturn, 1) := by decide +kernel
theorem eX0_goesOn_0 {a : Option Nat} {S : MM} : rn xX0_goesOn (0, [some (.inr (.inl a))], [], S) = rn xX0_goesOn (1, [some (.inr (.inl a))], [.inr (.inl a)], S) := rn_step dX0_goesOn_0 rfl rfl
theorem eX0_goesOn_1 {i : Nat} {l0 : Option VV} (h : kd i = 0) {S : MM} : rn xX0_goesOn (1, [l0], [vR i], S) = rn xX0_goesOn (4, [l0], [vI (S i 0)], S) := q_getI dX0_goesOn_1 rfl ⟨⟨by decide, by decide⟩, by decide⟩ h
theorem eX0_goesOn_4 {a : Int} {l0 : Option VV} (h : -2147483648 ≤ a ∧ a ≤ 2147483647) {S : MM} : rn xX0_goesOn (4, [l0], [vI a], S) = if a = 0 then rn xX0_goesOn (18, [l0], [], S) else rn xX0_goesOn (7, [l0], [], S) := q_if_eq dX0_goesOn_4 (by decide) rfl h
theorem eX0_goesOn_7 {a : Option Nat} {S : MM} : rn xX0_goesOn (7, [some (.inr (.inl a))], [], S) = rn xX0_goesOn (8, [some (.inr (.inl a))], [.inr (.inl a)], S) := rn_step dX0_goesOn_7 rfl rfl
theorem eX0_goesOn_8 {i : Nat} {l0 : Option VV} (h : kd i = 0) {S : MM} : rn xX0_goesOn (8, [l0], [vR i], S) = rn xX0_goesOn (11, [l0], [vI (S i 1)], S) := q_getI dX0_goesOn_8 rfl ⟨⟨by decide, by decide⟩, by decide⟩ h
theorem eX0_goesOn_11 {a : Int} {l0 : Option VV} (h : -2147483648 ≤ a ∧ a ≤ 2147483647) {S : MM} : rn xX0_goesOn (11, [l0], [vI a], S) = if a = 0 then rn xX0_goesOn (14, [l0], [], S) else rn xX0_goesOn (18, [l0], [], S) := q_if_ne dX0_goesOn_11 (by decide) rfl h
theorem eX0_goesOn_14 {l0 : Option VV} {S : MM} : rn xX0_goesOn (14, [l0], [], S) = rn xX0_goesOn (15, [l0], [vI 1], S) := rn_step dX0_goesOn_14 rfl rfl
theorem eX0_goesOn_15 {l0 : Option VV} {v0 : VV} {S : MM} : rn xX0_goesOn (15, [l0], [v0], S) = rn xX0_goesOn (19, [l0], [v0], S) := rn_step dX0_goesOn_15 rfl rfl
theorem eX0_goesOn_18 {l0 : Option VV} {S : MM} : rn xX0_goesOn (18, [l0], [], S) = rn xX0_goesOn (19, [l0], [vI 0], S) := rn_step dX0_goesOn_18 rfl rfl
theorem eX0_goesOn_19 {z : Int} {l0 : Option VV} (hz : z = 0 ∨ z = 1) {S : MM} : rn xX0_goesOn (19, [l0], [vI z], S) = some (some (vI z), S) := q_retZ dX0_goesOn_19 rfl hz
noncomputable def qlX8_sumOf : List CE := []
noncomputable def xX8_sumOf : XX := (cX8_sumOf, fcF fcl8, mcF qlX8_sumOf, 1)
noncomputable def fX8_sumOf : FN := fnX xX8_sumOf 6
set_option maxRecDepth 100000 in
theorem cwX8_sumOf : Cond.code yX8_sumOf cX8_sumOf 6 (some .int) ∈ lw_g := lw_gm 517 (by decide +kernel) (by decide +kernel)
set_option maxRecDepth 100000 in
theorem conX8_sumOf : Con yX8_sumOf cX8_sumOf 6 (some .int) { frames := 0, cells := 0, slots := 0, locals := 0 } fX8_sumOf := con_of (X := xX8_sumOf) (own := "LeapStones") (ql := qlX8_sumOf) (by decide) rfl FOK8 rfl (fun _ h => absurd h List.not_mem_nil) (Or.inr (Or.inl ⟨rfl, rfl⟩))
theorem uX8_sumOf {a0 : Option Nat} {S : MM} : fX8_sumOf [.inr (.inl a0)] S = rn xX8_sumOf (0, [some (.inr (.inl a0)), none, none, none, none, none], [], S) := rfl
theorem dX8_sumOf_0 : decode cX8_sumOf 0 = .ok (.iconst 0, 1) := by decide +kernel
theorem dX8_sumOf_1 : decode cX8_sumOf 1 = .ok (.istore_n 1, 1) := by decide +kernel
theorem dX8_sumOf_2 : decode cX8_sumOf 2 = .ok (.aload_n 0, 1) := by decide +kernel
theorem dX8_sumOf_3 : decode cX8_sumOf 3 = .ok (.astore_n 2, 1) := by decide +kernel
theorem dX8_sumOf_4 : decode cX8_sumOf 4 = .ok (.aload_n 2, 1) := by decide +kernel
theorem dX8_sumOf_5 : decode cX8_sumOf 5 = .ok (.arraylength, 1) := by decide +kernel
theorem dX8_sumOf_6 : decode cX8_sumOf 6 = .ok (.istore_n 3, 1) := by decide +kernel
theorem dX8_sumOf_7 : decode cX8_sumOf 7 = .ok (.iconst 0, 1) := by decide +kernel
theorem dX8_sumOf_8 : decode cX8_sumOf 8 = .ok (.istore 4, 2) := by decide +kernel
theorem dX8_sumOf_10 : decode cX8_sumOf 10 = .ok (.iload 4, 2) := by decide +kernel
theorem dX8_sumOf_12 : decode cX8_sumOf 12 = .ok (.iload_n 3, 1) := by decide +kernel
theorem dX8_sumOf_13 : decode cX8_sumOf 13 = .ok (.if_icmp .ge 20, 3) := by decide +kernel
theorem dX8_sumOf_16 : decode cX8_sumOf 16 = .ok (.aload_n 2, 1) := by decide +kernel
theorem dX8_sumOf_17 : decode cX8_sumOf 17 = .ok (.iload 4, 2) := by decide +kernel
theorem dX8_sumOf_19 : decode cX8_sumOf 19 = .ok (.iaload, 1) := by decide +kernel
theorem dX8_sumOf_20 : decode cX8_sumOf 20 = .ok (.istore 5, 2) := by decide +kernel
theorem dX8_sumOf_22 : decode cX8_sumOf 22 = .ok (.iload_n 1, 1) := by decide +kernel
theorem dX8_sumOf_23 : decode cX8_sumOf 23 = .ok (.iload 5, 2) := by decide +kernel
theorem dX8_sumOf_25 : decode cX8_sumOf 25 = .ok (.iadd, 1) := by decide +kernel
theorem dX8_sumOf_26 : decode cX8_sumOf 26 = .ok (.istore_n 1, 1) := by decide +kernel
theorem dX8_sumOf_27 : decode cX8_sumOf 27 = .ok (.iinc 4 1, 3) := by decide +kernel
theorem dX8_sumOf_30 : decode cX8_sumOf 30 = .ok (.goto (-20), 3) := by decide +kernel
theorem dX8_sumOf_33 : decode cX8_sumOf 33 = .ok (.iload_n 1, 1) := by decide +kernel
theorem dX8_sumOf_34 : decode cX8_sumOf 34 = .ok (.ireturn, 1) := by decide +kernel
theorem eX8_sumOf_0 {l0 l1 l2 l3 l4 l5 : Option VV} {S : MM} : rn xX8_sumOf (0, [l0, l1, l2, l3, l4, l5], [], S) = rn xX8_sumOf (1, [l0, l1, l2, l3, l4, l5], [vI 0], S) := rn_step dX8_sumOf_0 rfl rfl
theorem eX8_sumOf_1 {a : Int} {w : Option Nat} {l1 l2 l3 l4 l5 : Option VV} {S : MM} : rn xX8_sumOf (1, [some (.inr (.inl w)), l1, l2, l3, l4, l5], [vI a], S) = rn xX8_sumOf (2, [some (.inr (.inl w)), some (vI a), l2, l3, l4, l5], [], S) := rn_step dX8_sumOf_1 rfl rfl
theorem eX8_sumOf_2 {a : Option Nat} {l1 l2 l3 l4 l5 : Option VV} {S : MM} : rn xX8_sumOf (2, [some (.inr (.inl a)), l1, l2, l3, l4, l5], [], S) = rn xX8_sumOf (3, [some (.inr (.inl a)), l1, l2, l3, l4, l5], [.inr (.inl a)], S) := rn_step dX8_sumOf_2 rfl rfl
theorem eX8_sumOf_3 {a : Option Nat} {w : Int} {l0 l2 l3 l4 l5 : Option VV} {S : MM} : rn xX8_sumOf (3, [l0, some (vI w), l2, l3, l4, l5], [.inr (.inl a)], S) = rn xX8_sumOf (4, [l0, some (vI w), some (.inr (.inl a)), l3, l4, l5], [], S) := rn_step dX8_sumOf_3 rfl rfl
theorem eX8_sumOf_4 {a : Option Nat} {l0 l1 l3 l4 l5 : Option VV} {S : MM} : rn xX8_sumOf (4, [l0, l1, some (.inr (.inl a)), l3, l4, l5], [], S) = rn xX8_sumOf (5, [l0, l1, some (.inr (.inl a)), l3, l4, l5], [.inr (.inl a)], S) := rn_step dX8_sumOf_4 rfl rfl
theorem eX8_sumOf_5 {i : Nat} {l0 l1 l2 l3 l4 l5 : Option VV} (h : 10 ≤ kd i ∧ kd i ≤ 14) {S : MM} : rn xX8_sumOf (5, [l0, l1, l2, l3, l4, l5], [vR i], S) = rn xX8_sumOf (6, [l0, l1, l2, l3, l4, l5], [vI (alen i)], S) := q_alen dX8_sumOf_5 h
theorem eX8_sumOf_5x {l0 l1 l2 l3 l4 l5 : Option VV} {S : MM} : rn xX8_sumOf (5, [l0, l1, l2, l3, l4, l5], [vR 602], S) = rn xX8_sumOf (6, [l0, l1, l2, l3, l4, l5], [vI (S 604 0)], S) := q_alenX dX8_sumOf_5
theorem eX8_sumOf_5y {l0 l1 l2 l3 l4 l5 : Option VV} {S : MM} : rn xX8_sumOf (5, [l0, l1, l2, l3, l4, l5], [vR 603], S) = rn xX8_sumOf (6, [l0, l1, l2, l3, l4, l5], [vI (S 604 1)], S) := q_alenY dX8_sumOf_5
theorem eX8_sumOf_6 {a : Int} {w : Option Nat} {l0 l1 l3 l4 l5 : Option VV} {S : MM} : rn xX8_sumOf (6, [l0, l1, some (.inr (.inl w)), l3, l4, l5], [vI a], S) = rn xX8_sumOf (7, [l0, l1, some (.inr (.inl w)), some (vI a), l4, l5], [], S) := rn_step dX8_sumOf_6 rfl rfl
theorem eX8_sumOf_7 {l0 l1 l2 l3 l4 l5 : Option VV} {S : MM} : rn xX8_sumOf (7, [l0, l1, l2, l3, l4, l5], [], S) = rn xX8_sumOf (8, [l0, l1, l2, l3, l4, l5], [vI 0], S) := rn_step dX8_sumOf_7 rfl rfl
theorem eX8_sumOf_8 {a : Int} {w : Int} {l0 l1 l2 l4 l5 : Option VV} {S : MM} : rn xX8_sumOf (8, [l0, l1, l2, some (vI w), l4, l5], [vI a], S) = rn xX8_sumOf (10, [l0, l1, l2, some (vI w), some (vI a), l5], [], S) := rn_step dX8_sumOf_8 rfl rfl
theorem eX8_sumOf_10 {a : Int} {l0 l1 l2 l3 l5 : Option VV} {S : MM} : rn xX8_sumOf (10, [l0, l1, l2, l3, some (vI a), l5], [], S) = rn xX8_sumOf (12, [l0, l1, l2, l3, some (vI a), l5], [vI a], S) := rn_step dX8_sumOf_10 rfl rfl
theorem eX8_sumOf_12 {a : Int} {l0 l1 l2 l4 l5 : Option VV} {v0 : VV} {S : MM} : rn xX8_sumOf (12, [l0, l1, l2, some (vI a), l4, l5], [v0], S) = rn xX8_sumOf (13, [l0, l1, l2, some (vI a), l4, l5], [vI a, v0], S) := rn_step dX8_sumOf_12 rfl rfl
theorem eX8_sumOf_13 {a b : Int} {l0 l1 l2 l3 l4 l5 : Option VV} (h : -2147483648 ≤ a ∧ a ≤ 2147483647) (h1 : -2147483648 ≤ b ∧ b ≤ 2147483647) {S : MM} : rn xX8_sumOf (13, [l0, l1, l2, l3, l4, l5], [vI b, vI a], S) = if a < b then rn xX8_sumOf (16, [l0, l1, l2, l3, l4, l5], [], S) else rn xX8_sumOf (33, [l0, l1, l2, l3, l4, l5], [], S) := q_icmp_ge dX8_sumOf_13 (by decide) rfl h h1
theorem eX8_sumOf_16 {a : Option Nat} {l0 l1 l3 l4 l5 : Option VV} {S : MM} : rn xX8_sumOf (16, [l0, l1, some (.inr (.inl a)), l3, l4, l5], [], S) = rn xX8_sumOf (17, [l0, l1, some (.inr (.inl a)), l3, l4, l5], [.inr (.inl a)], S) := rn_step dX8_sumOf_16 rfl rfl
theorem eX8_sumOf_17 {a : Int} {l0 l1 l2 l3 l5 : Option VV} {v0 : VV} {S : MM} : rn xX8_sumOf (17, [l0, l1, l2, l3, some (vI a), l5], [v0], S) = rn xX8_sumOf (19, [l0, l1, l2, l3, some (vI a), l5], [vI a, v0], S) := rn_step dX8_sumOf_17 rfl rfl
theorem eX8_sumOf_19 {i : Nat} {j : Int} {l0 l1 l2 l3 l4 l5 : Option VV} (h : kd i = 10) (h0 : 0 ≤ j) (h1 : j < alen i) {S : MM} : rn xX8_sumOf (19, [l0, l1, l2, l3, l4, l5], [vI j, vR i], S) = rn xX8_sumOf (20, [l0, l1, l2, l3, l4, l5], [vI (S i j.toNat)], S) := q_iald dX8_sumOf_19 h h0 h1
theorem eX8_sumOf_19x {j : Int} {l0 l1 l2 l3 l4 l5 : Option VV} {S : MM} (h0 : 0 ≤ j) (h1 : j < S 604 0) : rn xX8_sumOf (19, [l0, l1, l2, l3, l4, l5], [vI j, vR 602], S) = rn xX8_sumOf (20, [l0, l1, l2, l3, l4, l5], [vI (S 602 j.toNat)], S) := q_ialdX dX8_sumOf_19 h0 h1
theorem eX8_sumOf_19y {j : Int} {l0 l1 l2 l3 l4 l5 : Option VV} {S : MM} (h0 : 0 ≤ j) (h1 : j < S 604 1) : rn xX8_sumOf (19, [l0, l1, l2, l3, l4, l5], [vI j, vR 603], S) = rn xX8_sumOf (20, [l0, l1, l2, l3, l4, l5], [vI (S 603 j.toNat)], S) := q_ialdY dX8_sumOf_19 h0 h1
theorem eX8_sumOf_20 {a : Int} {w : Int} {l0 l1 l2 l3 l5 : Option VV} {S : MM} : rn xX8_sumOf (20, [l0, l1, l2, l3, some (vI w), l5], [vI a], S) = rn xX8_sumOf (22, [l0, l1, l2, l3, some (vI w), some (vI a)], [], S) := rn_step dX8_sumOf_20 rfl rfl
theorem eX8_sumOf_22 {a : Int} {l0 l2 l3 l4 l5 : Option VV} {S : MM} : rn xX8_sumOf (22, [l0, some (vI a), l2, l3, l4, l5], [], S) = rn xX8_sumOf (23, [l0, some (vI a), l2, l3, l4, l5], [vI a], S) := rn_step dX8_sumOf_22 rfl rfl
theorem eX8_sumOf_23 {a : Int} {l0 l1 l2 l3 l4 : Option VV} {v0 : VV} {S : MM} : rn xX8_sumOf (23, [l0, l1, l2, l3, l4, some (vI a)], [v0], S) = rn xX8_sumOf (25, [l0, l1, l2, l3, l4, some (vI a)], [vI a, v0], S) := rn_step dX8_sumOf_23 rfl rfl
theorem eX8_sumOf_25 {a b : Int} {l0 l1 l2 l3 l4 l5 : Option VV} {S : MM} : rn xX8_sumOf (25, [l0, l1, l2, l3, l4, l5], [vI b, vI a], S) = rn xX8_sumOf (26, [l0, l1, l2, l3, l4, l5], [vI (a + b)], S) := rn_step dX8_sumOf_25 rfl rfl
theorem eX8_sumOf_26 {a : Int} {w : Option Nat} {l1 l2 l3 l4 l5 : Option VV} {S : MM} : rn xX8_sumOf (26, [some (.inr (.inl w)), l1, l2, l3, l4, l5], [vI a], S) = rn xX8_sumOf (27, [some (.inr (.inl w)), some (vI a), l2, l3, l4, l5], [], S) := rn_step dX8_sumOf_26 rfl rfl
theorem eX8_sumOf_27 {a : Int} {w : Int} {l0 l1 l2 l5 : Option VV} {S : MM} : rn xX8_sumOf (27, [l0, l1, l2, some (vI w), some (vI a), l5], [], S) = rn xX8_sumOf (30, [l0, l1, l2, some (vI w), some (vI (a + 1)), l5], [], S) := rn_step dX8_sumOf_27 rfl rfl
theorem eX8_sumOf_30 {l0 l1 l2 l3 l4 l5 : Option VV} {S : MM} : rn xX8_sumOf (30, [l0, l1, l2, l3, l4, l5], [], S) = rn xX8_sumOf (10, [l0, l1, l2, l3, l4, l5], [], S) := rn_step dX8_sumOf_30 rfl rfl
theorem eX8_sumOf_33 {a : Int} {l0 l2 l3 l4 l5 : Option VV} {S : MM} : rn xX8_sumOf (33, [l0, some (vI a), l2, l3, l4, l5], [], S) = rn xX8_sumOf (34, [l0, some (vI a), l2, l3, l4, l5], [vI a], S) := rn_step dX8_sumOf_33 rfl rfl
theorem eX8_sumOf_34 {z : Int} {l0 l1 l2 l3 l4 l5 : Option VV} {S : MM} : rn xX8_sumOf (34, [l0, l1, l2, l3, l4, l5], [vI z], S) = some (some (vI z), S) := q_retI dX8_sumOf_34 rfl
noncomputable def qlX0_leaps : List CE := [(1, 40, 0, 1, fX8_sumOf)]
noncomputable def xX0_leaps : XX := (cX0_leaps, fcF fcl0, mcF qlX0_leaps, 1)
noncomputable def fX0_leaps : FN := fnX xX0_leaps 1
set_option maxRecDepth 100000 in
theorem cwX0_leaps : Cond.code yX0_leaps cX0_leaps 1 (some .int) ∈ lw_g := lw_gm 847 (by decide +kernel) (by decide +kernel)
set_option maxRecDepth 100000 in
theorem conX0_leaps : Con yX0_leaps cX0_leaps 1 (some .int) { frames := 1, cells := 0, slots := 0, locals := 25 } fX0_leaps := con_of (X := xX0_leaps) (own := "LeapStones$Crossing") (ql := qlX0_leaps) (by decide) rfl FOK0 rfl (List.forall_mem_cons.mpr ⟨call_N conX8_sumOf cwX8_sumOf (lw_gl _ [516, 21] (by decide +kernel) (by decide +kernel)) (List.mem_of_getElem? (i := 24) (by decide +kernel)) ⟨by decide, by decide, by decide +kernel⟩ ⟨rfl, rfl⟩ ⟨by decide, by decide⟩ ⟨Nat.le_refl _, Nat.le_refl _⟩, fun _ h => absurd h List.not_mem_nil⟩) (Or.inr (Or.inl ⟨rfl, rfl⟩))
theorem uX0_leaps {i : Nat} {S : MM} : fX0_leaps [vR i] S = rn xX0_leaps (0, [some (vR i)], [], S) := rfl
theorem dX0_leaps_0 : decode cX0_leaps 0 = .ok (.aload_n 0, 1) := by decide +kernel
theorem dX0_leaps_1 : decode cX0_leaps 1 = .ok (.getfield 21, 3) := by decide +kernel
theorem dX0_leaps_4 : decode cX0_leaps 4 = .ok (.invokestatic 40, 3) := by decide +kernel
theorem dX0_leaps_7 : decode cX0_leaps 7 = .ok (.ireturn, 1) := by decide +kernel
theorem eX0_leaps_0 {a : Option Nat} {S : MM} : rn xX0_leaps (0, [some (.inr (.inl a))], [], S) = rn xX0_leaps (1, [some (.inr (.inl a))], [.inr (.inl a)], S) := rn_step dX0_leaps_0 rfl rfl
theorem eX0_leaps_1 {i : Nat} {l0 : Option VV} (h : kd i = 0) {S : MM} : rn xX0_leaps (1, [l0], [vR i], S) = rn xX0_leaps (4, [l0], [vR (i + 4)], S) := q_getR dX0_leaps_1 rfl ⟨⟨by decide, by decide⟩, by decide⟩ (fun h => (fref0 h).trans (by first | rfl | omega)) h
theorem eX0_leaps_4 {a0 : Option Nat} {l0 : Option VV} {S : MM} : rn xX0_leaps (4, [l0], [.inr (.inl a0)], S) = (fX8_sumOf [.inr (.inl a0)] S).bind (fun q => rn xX0_leaps (7, [l0], q.1.toList ++ [], q.2)) := q_callS (n := 1) (as := [.inr (.inl a0)]) (rest := []) dX0_leaps_4 rfl rfl rfl rfl
theorem eX0_leaps_7 {z : Int} {l0 : Option VV} {S : MM} : rn xX0_leaps (7, [l0], [vI z], S) = some (some (vI z), S) := q_retI dX0_leaps_7 rfl
noncomputable def qlX0_looks : List CE := [(1, 40, 0, 1, fX8_sumOf)]
noncomputable def xX0_looks : XX := (cX0_looks, fcF fcl0, mcF qlX0_looks, 1)
noncomputable def fX0_looks : FN := fnX xX0_looks 1
set_option maxRecDepth 100000 in
theorem cwX0_looks : Cond.code yX0_looks cX0_looks 1 (some .int) ∈ lw_g := lw_gm 851 (by decide +kernel) (by decide +kernel)
set_option maxRecDepth 100000 in
theorem conX0_looks : Con yX0_looks cX0_looks 1 (some .int) { frames := 1, cells := 0, slots := 0, locals := 25 } fX0_looks := con_of (X := xX0_looks) (own := "LeapStones$Crossing") (ql := qlX0_looks) (by decide) rfl FOK0 rfl (List.forall_mem_cons.mpr ⟨call_N conX8_sumOf cwX8_sumOf (lw_gl _ [516, 21] (by decide +kernel) (by decide +kernel)) (List.mem_of_getElem? (i := 24) (by decide +kernel)) ⟨by decide, by decide, by decide +kernel⟩ ⟨rfl, rfl⟩ ⟨by decide, by decide⟩ ⟨Nat.le_refl _, Nat.le_refl _⟩, fun _ h => absurd h List.not_mem_nil⟩) (Or.inr (Or.inl ⟨rfl, rfl⟩))
theorem uX0_looks {i : Nat} {S : MM} : fX0_looks [vR i] S = rn xX0_looks (0, [some (vR i)], [], S) := rfl
theorem dX0_looks_0 : decode cX0_looks 0 = .ok (.aload_n 0, 1) := by decide +kernel
theorem dX0_looks_1 : decode cX0_looks 1 = .ok (.getfield 24, 3) := by decide +kernel
theorem dX0_looks_4 : decode cX0_looks 4 = .ok (.invokestatic 40, 3) := by decide +kernel
theorem dX0_looks_7 : decode cX0_looks 7 = .ok (.ireturn, 1) := by decide +kernel
theorem eX0_looks_0 {a : Option Nat} {S : MM} : rn xX0_looks (0, [some (.inr (.inl a))], [], S) = rn xX0_looks (1, [some (.inr (.inl a))], [.inr (.inl a)], S) := rn_step dX0_looks_0 rfl rfl
theorem eX0_looks_1 {i : Nat} {l0 : Option VV} (h : kd i = 0) {S : MM} : rn xX0_looks (1, [l0], [vR i], S) = rn xX0_looks (4, [l0], [vR (i + 5)], S) := q_getR dX0_looks_1 rfl ⟨⟨by decide, by decide⟩, by decide⟩ (fun h => (fref0 h).trans (by first | rfl | omega)) h
theorem eX0_looks_4 {a0 : Option Nat} {l0 : Option VV} {S : MM} : rn xX0_looks (4, [l0], [.inr (.inl a0)], S) = (fX8_sumOf [.inr (.inl a0)] S).bind (fun q => rn xX0_looks (7, [l0], q.1.toList ++ [], q.2)) := q_callS (n := 1) (as := [.inr (.inl a0)]) (rest := []) dX0_looks_4 rfl rfl rfl rfl
theorem eX0_looks_7 {z : Int} {l0 : Option VV} {S : MM} : rn xX0_looks (7, [l0], [vI z], S) = some (some (vI z), S) := q_retI dX0_looks_7 rfl
noncomputable def qlX0_meetings : List CE := []
noncomputable def xX0_meetings : XX := (cX0_meetings, fcF fcl0, mcF qlX0_meetings, 1)
noncomputable def fX0_meetings : FN := fnX xX0_meetings 1
set_option maxRecDepth 100000 in
theorem cwX0_meetings : Cond.code yX0_meetings cX0_meetings 1 (some .int) ∈ lw_g := lw_gm 660 (by decide +kernel) (by decide +kernel)
set_option maxRecDepth 100000 in
theorem conX0_meetings : Con yX0_meetings cX0_meetings 1 (some .int) { frames := 0, cells := 0, slots := 0, locals := 0 } fX0_meetings := con_of (X := xX0_meetings) (own := "LeapStones$Crossing") (ql := qlX0_meetings) (by decide) rfl FOK0 rfl (fun _ h => absurd h List.not_mem_nil) (Or.inr (Or.inl ⟨rfl, rfl⟩))
theorem uX0_meetings {i : Nat} {S : MM} : fX0_meetings [vR i] S = rn xX0_meetings (0, [some (vR i)], [], S) := rfl
theorem dX0_meetings_0 : decode cX0_meetings 0 = .ok (.aload_n 0, 1) := by decide +kernel
theorem dX0_meetings_1 : decode cX0_meetings 1 = .ok (.getfield 44, 3) := by decide +kernel
theorem dX0_meetings_4 : decode cX0_meetings 4 = .ok (.ireturn, 1) := by decide +kernel
theorem eX0_meetings_0 {a : Option Nat} {S : MM} : rn xX0_meetings (0, [some (.inr (.inl a))], [], S) = rn xX0_meetings (1, [some (.inr (.inl a))], [.inr (.inl a)], S) := rn_step dX0_meetings_0 rfl rfl
theorem eX0_meetings_1 {i : Nat} {l0 : Option VV} (h : kd i = 0) {S : MM} : rn xX0_meetings (1, [l0], [vR i], S) = rn xX0_meetings (4, [l0], [vI (S i 4)], S) := q_getI dX0_meetings_1 rfl ⟨⟨by decide, by decide⟩, by decide⟩ h
theorem eX0_meetings_4 {z : Int} {l0 : Option VV} {S : MM} : rn xX0_meetings (4, [l0], [vI z], S) = some (some (vI z), S) := q_retI dX0_meetings_4 rfl
noncomputable def qlX8_isBetween : List CE := []
noncomputable def xX8_isBetween : XX := (cX8_isBetween, fcF fcl8, mcF qlX8_isBetween, 2)
noncomputable def fX8_isBetween : FN := fnX xX8_isBetween 3
set_option maxRecDepth 100000 in
theorem cwX8_isBetween : Cond.code yX8_isBetween cX8_isBetween 3 (some .boolean) ∈ lw_g := lw_gm 252 (by decide +kernel) (by decide +kernel)
set_option maxRecDepth 100000 in
theorem conX8_isBetween : Con yX8_isBetween cX8_isBetween 3 (some .boolean) { frames := 0, cells := 0, slots := 0, locals := 0 } fX8_isBetween := con_of (X := xX8_isBetween) (own := "LeapStones") (ql := qlX8_isBetween) (by decide) rfl FOK8 rfl (fun _ h => absurd h List.not_mem_nil) (Or.inr (Or.inr (Or.inl ⟨rfl, rfl⟩)))
theorem uX8_isBetween {a0 : Int} {a1 : Int} {a2 : Int} {S : MM} : fX8_isBetween [vI a0, vI a1, vI a2] S = rn xX8_isBetween (0, [some (vI a0), some (vI a1), some (vI a2)], [], S) := rfl
theorem dX8_isBetween_0 : decode cX8_isBetween 0 = .ok (.iload_n 0, 1) := by decide +kernel
theorem dX8_isBetween_1 : decode cX8_isBetween 1 = .ok (.iload_n 1, 1) := by decide +kernel
theorem dX8_isBetween_2 : decode cX8_isBetween 2 = .ok (.if_icmp .lt 12, 3) := by decide +kernel
theorem dX8_isBetween_5 : decode cX8_isBetween 5 = .ok (.iload_n 0, 1) := by decide +kernel
theorem dX8_isBetween_6 : decode cX8_isBetween 6 = .ok (.iload_n 2, 1) := by decide +kernel
theorem dX8_isBetween_7 : decode cX8_isBetween 7 = .ok (.if_icmp .gt 7, 3) := by decide +kernel
theorem dX8_isBetween_10 : decode cX8_isBetween 10 = .ok (.iconst 1, 1) := by decide +kernel
theorem dX8_isBetween_11 : decode cX8_isBetween 11 = .ok (.goto 4, 3) := by decide +kernel
theorem dX8_isBetween_14 : decode cX8_isBetween 14 = .ok (.iconst 0, 1) := by decide +kernel
theorem dX8_isBetween_15 : decode cX8_isBetween 15 = .ok (.ireturn, 1) := by decide +kernel
theorem eX8_isBetween_0 {a : Int} {l1 l2 : Option VV} {S : MM} : rn xX8_isBetween (0, [some (vI a), l1, l2], [], S) = rn xX8_isBetween (1, [some (vI a), l1, l2], [vI a], S) := rn_step dX8_isBetween_0 rfl rfl
theorem eX8_isBetween_1 {a : Int} {l0 l2 : Option VV} {v0 : VV} {S : MM} : rn xX8_isBetween (1, [l0, some (vI a), l2], [v0], S) = rn xX8_isBetween (2, [l0, some (vI a), l2], [vI a, v0], S) := rn_step dX8_isBetween_1 rfl rfl
theorem eX8_isBetween_2 {a b : Int} {l0 l1 l2 : Option VV} (h : -2147483648 ≤ a ∧ a ≤ 2147483647) (h1 : -2147483648 ≤ b ∧ b ≤ 2147483647) {S : MM} : rn xX8_isBetween (2, [l0, l1, l2], [vI b, vI a], S) = if a < b then rn xX8_isBetween (14, [l0, l1, l2], [], S) else rn xX8_isBetween (5, [l0, l1, l2], [], S) := q_icmp_lt dX8_isBetween_2 (by decide) rfl h h1
theorem eX8_isBetween_5 {a : Int} {l1 l2 : Option VV} {S : MM} : rn xX8_isBetween (5, [some (vI a), l1, l2], [], S) = rn xX8_isBetween (6, [some (vI a), l1, l2], [vI a], S) := rn_step dX8_isBetween_5 rfl rfl
theorem eX8_isBetween_6 {a : Int} {l0 l1 : Option VV} {v0 : VV} {S : MM} : rn xX8_isBetween (6, [l0, l1, some (vI a)], [v0], S) = rn xX8_isBetween (7, [l0, l1, some (vI a)], [vI a, v0], S) := rn_step dX8_isBetween_6 rfl rfl
theorem eX8_isBetween_7 {a b : Int} {l0 l1 l2 : Option VV} (h : -2147483648 ≤ a ∧ a ≤ 2147483647) (h1 : -2147483648 ≤ b ∧ b ≤ 2147483647) {S : MM} : rn xX8_isBetween (7, [l0, l1, l2], [vI b, vI a], S) = if b < a then rn xX8_isBetween (14, [l0, l1, l2], [], S) else rn xX8_isBetween (10, [l0, l1, l2], [], S) := q_icmp_gt dX8_isBetween_7 (by decide) rfl h h1
theorem eX8_isBetween_10 {l0 l1 l2 : Option VV} {S : MM} : rn xX8_isBetween (10, [l0, l1, l2], [], S) = rn xX8_isBetween (11, [l0, l1, l2], [vI 1], S) := rn_step dX8_isBetween_10 rfl rfl
theorem eX8_isBetween_11 {l0 l1 l2 : Option VV} {v0 : VV} {S : MM} : rn xX8_isBetween (11, [l0, l1, l2], [v0], S) = rn xX8_isBetween (15, [l0, l1, l2], [v0], S) := rn_step dX8_isBetween_11 rfl rfl
theorem eX8_isBetween_14 {l0 l1 l2 : Option VV} {S : MM} : rn xX8_isBetween (14, [l0, l1, l2], [], S) = rn xX8_isBetween (15, [l0, l1, l2], [vI 0], S) := rn_step dX8_isBetween_14 rfl rfl
theorem eX8_isBetween_15 {z : Int} {l0 l1 l2 : Option VV} (hz : z = 0 ∨ z = 1) {S : MM} : rn xX8_isBetween (15, [l0, l1, l2], [vI z], S) = some (some (vI z), S) := q_retZ dX8_isBetween_15 rfl hz
noncomputable def qlX8_isWalker : List CE := [(1, 57, 0, 3, fX8_isBetween)]
noncomputable def xX8_isWalker : XX := (cX8_isWalker, fcF fcl8, mcF qlX8_isWalker, 2)
noncomputable def fX8_isWalker : FN := fnX xX8_isWalker 1
set_option maxRecDepth 100000 in
theorem cwX8_isWalker : Cond.code yX8_isWalker cX8_isWalker 1 (some .boolean) ∈ lw_g := lw_gm 344 (by decide +kernel) (by decide +kernel)
set_option maxRecDepth 100000 in
theorem conX8_isWalker : Con yX8_isWalker cX8_isWalker 1 (some .boolean) { frames := 1, cells := 0, slots := 0, locals := 22 } fX8_isWalker := con_of (X := xX8_isWalker) (own := "LeapStones") (ql := qlX8_isWalker) (by decide) rfl FOK8 rfl (List.forall_mem_cons.mpr ⟨call_S conX8_isBetween cwX8_isBetween (lw_gl _ [250, 251, 21] (by decide +kernel) (by decide +kernel)) ⟨by decide, by decide, by decide +kernel⟩ ⟨rfl, rfl⟩ ⟨by decide, by decide⟩ ⟨Nat.le_refl _, Nat.le_refl _⟩, fun _ h => absurd h List.not_mem_nil⟩) (Or.inr (Or.inr (Or.inl ⟨rfl, rfl⟩)))
theorem uX8_isWalker {a0 : Int} {S : MM} : fX8_isWalker [vI a0] S = rn xX8_isWalker (0, [some (vI a0)], [], S) := rfl
theorem dX8_isWalker_0 : decode cX8_isWalker 0 = .ok (.iload_n 0, 1) := by decide +kernel
theorem dX8_isWalker_1 : decode cX8_isWalker 1 = .ok (.iconst 0, 1) := by decide +kernel
theorem dX8_isWalker_2 : decode cX8_isWalker 2 = .ok (.iconst 2, 1) := by decide +kernel
theorem dX8_isWalker_3 : decode cX8_isWalker 3 = .ok (.invokestatic 57, 3) := by decide +kernel
theorem dX8_isWalker_6 : decode cX8_isWalker 6 = .ok (.ireturn, 1) := by decide +kernel
theorem eX8_isWalker_0 {a : Int} {S : MM} : rn xX8_isWalker (0, [some (vI a)], [], S) = rn xX8_isWalker (1, [some (vI a)], [vI a], S) := rn_step dX8_isWalker_0 rfl rfl
theorem eX8_isWalker_1 {l0 : Option VV} {v0 : VV} {S : MM} : rn xX8_isWalker (1, [l0], [v0], S) = rn xX8_isWalker (2, [l0], [vI 0, v0], S) := rn_step dX8_isWalker_1 rfl rfl
theorem eX8_isWalker_2 {l0 : Option VV} {v0 v1 : VV} {S : MM} : rn xX8_isWalker (2, [l0], [v0, v1], S) = rn xX8_isWalker (3, [l0], [vI 2, v0, v1], S) := rn_step dX8_isWalker_2 rfl rfl
theorem eX8_isWalker_3 {a0 : Int} {a1 : Int} {a2 : Int} {l0 : Option VV} {S : MM} : rn xX8_isWalker (3, [l0], [vI a2, vI a1, vI a0], S) = (fX8_isBetween [vI a0, vI a1, vI a2] S).bind (fun q => rn xX8_isWalker (6, [l0], q.1.toList ++ [], q.2)) := q_callS (n := 3) (as := [vI a0, vI a1, vI a2]) (rest := []) dX8_isWalker_3 rfl rfl rfl rfl
theorem eX8_isWalker_6 {z : Int} {l0 : Option VV} (hz : z = 0 ∨ z = 1) {S : MM} : rn xX8_isWalker (6, [l0], [vI z], S) = some (some (vI z), S) := q_retZ dX8_isWalker_6 rfl hz
noncomputable def qlX0_keyUnder : List CE := [(1, 48, 0, 1, fX8_isWalker)]
noncomputable def xX0_keyUnder : XX := (cX0_keyUnder, fcF fcl0, mcF qlX0_keyUnder, 1)
noncomputable def fX0_keyUnder : FN := fnX xX0_keyUnder 2
set_option maxRecDepth 100000 in
theorem cwX0_keyUnder : Cond.code yX0_keyUnder cX0_keyUnder 2 (some .int) ∈ lw_g := lw_gm 409 (by decide +kernel) (by decide +kernel)
set_option maxRecDepth 100000 in
theorem conX0_keyUnder : Con yX0_keyUnder cX0_keyUnder 2 (some .int) { frames := 2, cells := 0, slots := 0, locals := 42 } fX0_keyUnder := con_of (X := xX0_keyUnder) (own := "LeapStones$Crossing") (ql := qlX0_keyUnder) (by decide) rfl FOK0 rfl (List.forall_mem_cons.mpr ⟨call_N conX8_isWalker cwX8_isWalker (lw_gl _ [343, 21] (by decide +kernel) (by decide +kernel)) (List.mem_of_getElem? (i := 20) (by decide +kernel)) ⟨by decide, by decide, by decide +kernel⟩ ⟨rfl, rfl⟩ ⟨by decide, by decide⟩ ⟨Nat.le_refl _, Nat.le_refl _⟩, fun _ h => absurd h List.not_mem_nil⟩) (Or.inr (Or.inl ⟨rfl, rfl⟩))
theorem uX0_keyUnder {i : Nat} {a0 : Int} {S : MM} : fX0_keyUnder [vR i, vI a0] S = rn xX0_keyUnder (0, [some (vR i), some (vI a0)], [], S) := rfl
theorem dX0_keyUnder_0 : decode cX0_keyUnder 0 = .ok (.iload_n 1, 1) := by decide +kernel
theorem dX0_keyUnder_1 : decode cX0_keyUnder 1 = .ok (.invokestatic 48, 3) := by decide +kernel
theorem dX0_keyUnder_4 : decode cX0_keyUnder 4 = .ok (.ifCond .eq 12, 3) := by decide +kernel
theorem dX0_keyUnder_7 : decode cX0_keyUnder 7 = .ok (.aload_n 0, 1) := by decide +kernel
theorem dX0_keyUnder_8 : decode cX0_keyUnder 8 = .ok (.getfield 18, 3) := by decide +kernel
theorem dX0_keyUnder_11 : decode cX0_keyUnder 11 = .ok (.iload_n 1, 1) := by decide +kernel
theorem dX0_keyUnder_12 : decode cX0_keyUnder 12 = .ok (.iaload, 1) := by decide +kernel
theorem dX0_keyUnder_13 : decode cX0_keyUnder 13 = .ok (.goto 6, 3) := by decide +kernel
theorem dX0_keyUnder_16 : decode cX0_keyUnder 16 = .ok (.sipush 300, 3) := by decide +kernel
theorem dX0_keyUnder_19 : decode cX0_keyUnder 19 = .ok (.ireturn, 1) := by decide +kernel
theorem eX0_keyUnder_0 {a : Int} {l0 : Option VV} {S : MM} : rn xX0_keyUnder (0, [l0, some (vI a)], [], S) = rn xX0_keyUnder (1, [l0, some (vI a)], [vI a], S) := rn_step dX0_keyUnder_0 rfl rfl
theorem eX0_keyUnder_1 {a0 : Int} {l0 l1 : Option VV} {S : MM} : rn xX0_keyUnder (1, [l0, l1], [vI a0], S) = (fX8_isWalker [vI a0] S).bind (fun q => rn xX0_keyUnder (4, [l0, l1], q.1.toList ++ [], q.2)) := q_callS (n := 1) (as := [vI a0]) (rest := []) dX0_keyUnder_1 rfl rfl rfl rfl
theorem eX0_keyUnder_4 {a : Int} {l0 l1 : Option VV} (h : -2147483648 ≤ a ∧ a ≤ 2147483647) {S : MM} : rn xX0_keyUnder (4, [l0, l1], [vI a], S) = if a = 0 then rn xX0_keyUnder (16, [l0, l1], [], S) else rn xX0_keyUnder (7, [l0, l1], [], S) := q_if_eq dX0_keyUnder_4 (by decide) rfl h
theorem eX0_keyUnder_7 {a : Option Nat} {l1 : Option VV} {S : MM} : rn xX0_keyUnder (7, [some (.inr (.inl a)), l1], [], S) = rn xX0_keyUnder (8, [some (.inr (.inl a)), l1], [.inr (.inl a)], S) := rn_step dX0_keyUnder_7 rfl rfl
theorem eX0_keyUnder_8 {i : Nat} {l0 l1 : Option VV} (h : kd i = 0) {S : MM} : rn xX0_keyUnder (8, [l0, l1], [vR i], S) = rn xX0_keyUnder (11, [l0, l1], [vR (i + 3)], S) := q_getR dX0_keyUnder_8 rfl ⟨⟨by decide, by decide⟩, by decide⟩ (fun h => (fref0 h).trans (by first | rfl | omega)) h
theorem eX0_keyUnder_11 {a : Int} {l0 : Option VV} {v0 : VV} {S : MM} : rn xX0_keyUnder (11, [l0, some (vI a)], [v0], S) = rn xX0_keyUnder (12, [l0, some (vI a)], [vI a, v0], S) := rn_step dX0_keyUnder_11 rfl rfl
theorem eX0_keyUnder_12 {i : Nat} {j : Int} {l0 l1 : Option VV} (h : kd i = 10) (h0 : 0 ≤ j) (h1 : j < alen i) {S : MM} : rn xX0_keyUnder (12, [l0, l1], [vI j, vR i], S) = rn xX0_keyUnder (13, [l0, l1], [vI (S i j.toNat)], S) := q_iald dX0_keyUnder_12 h h0 h1
theorem eX0_keyUnder_12x {j : Int} {l0 l1 : Option VV} {S : MM} (h0 : 0 ≤ j) (h1 : j < S 604 0) : rn xX0_keyUnder (12, [l0, l1], [vI j, vR 602], S) = rn xX0_keyUnder (13, [l0, l1], [vI (S 602 j.toNat)], S) := q_ialdX dX0_keyUnder_12 h0 h1
theorem eX0_keyUnder_12y {j : Int} {l0 l1 : Option VV} {S : MM} (h0 : 0 ≤ j) (h1 : j < S 604 1) : rn xX0_keyUnder (12, [l0, l1], [vI j, vR 603], S) = rn xX0_keyUnder (13, [l0, l1], [vI (S 603 j.toNat)], S) := q_ialdY dX0_keyUnder_12 h0 h1
theorem eX0_keyUnder_13 {l0 l1 : Option VV} {v0 : VV} {S : MM} : rn xX0_keyUnder (13, [l0, l1], [v0], S) = rn xX0_keyUnder (19, [l0, l1], [v0], S) := rn_step dX0_keyUnder_13 rfl rfl
theorem eX0_keyUnder_16 {l0 l1 : Option VV} {S : MM} : rn xX0_keyUnder (16, [l0, l1], [], S) = rn xX0_keyUnder (19, [l0, l1], [vI 300], S) := rn_step dX0_keyUnder_16 rfl rfl
theorem eX0_keyUnder_19 {z : Int} {l0 l1 : Option VV} {S : MM} : rn xX0_keyUnder (19, [l0, l1], [vI z], S) = some (some (vI z), S) := q_retI dX0_keyUnder_19 rfl
noncomputable def qlX0_keyOfMeeting : List CE := [(1, 52, 0, 3, fX8_isBetween)]
noncomputable def xX0_keyOfMeeting : XX := (cX0_keyOfMeeting, fcF fcl0, mcF qlX0_keyOfMeeting, 1)
noncomputable def fX0_keyOfMeeting : FN := fnX xX0_keyOfMeeting 2
set_option maxRecDepth 100000 in
theorem cwX0_keyOfMeeting : Cond.code yX0_keyOfMeeting cX0_keyOfMeeting 2 (some .int) ∈ lw_g := lw_gm 664 (by decide +kernel) (by decide +kernel)
set_option maxRecDepth 100000 in
theorem conX0_keyOfMeeting : Con yX0_keyOfMeeting cX0_keyOfMeeting 2 (some .int) { frames := 1, cells := 0, slots := 0, locals := 22 } fX0_keyOfMeeting := con_of (X := xX0_keyOfMeeting) (own := "LeapStones$Crossing") (ql := qlX0_keyOfMeeting) (by decide) rfl FOK0 rfl (List.forall_mem_cons.mpr ⟨call_N conX8_isBetween cwX8_isBetween (lw_gl _ [251, 21] (by decide +kernel) (by decide +kernel)) (List.mem_of_getElem? (i := 23) (by decide +kernel)) ⟨by decide, by decide, by decide +kernel⟩ ⟨rfl, rfl⟩ ⟨by decide, by decide⟩ ⟨Nat.le_refl _, Nat.le_refl _⟩, fun _ h => absurd h List.not_mem_nil⟩) (Or.inr (Or.inl ⟨rfl, rfl⟩))
theorem uX0_keyOfMeeting {i : Nat} {a0 : Int} {S : MM} : fX0_keyOfMeeting [vR i, vI a0] S = rn xX0_keyOfMeeting (0, [some (vR i), some (vI a0)], [], S) := rfl
theorem dX0_keyOfMeeting_0 : decode cX0_keyOfMeeting 0 = .ok (.iload_n 1, 1) := by decide +kernel
theorem dX0_keyOfMeeting_1 : decode cX0_keyOfMeeting 1 = .ok (.iconst 0, 1) := by decide +kernel
theorem dX0_keyOfMeeting_2 : decode cX0_keyOfMeeting 2 = .ok (.aload_n 0, 1) := by decide +kernel
theorem dX0_keyOfMeeting_3 : decode cX0_keyOfMeeting 3 = .ok (.getfield 44, 3) := by decide +kernel
theorem dX0_keyOfMeeting_6 : decode cX0_keyOfMeeting 6 = .ok (.iconst 1, 1) := by decide +kernel
theorem dX0_keyOfMeeting_7 : decode cX0_keyOfMeeting 7 = .ok (.isub, 1) := by decide +kernel
theorem dX0_keyOfMeeting_8 : decode cX0_keyOfMeeting 8 = .ok (.invokestatic 52, 3) := by decide +kernel
theorem dX0_keyOfMeeting_11 : decode cX0_keyOfMeeting 11 = .ok (.ifCond .eq 12, 3) := by decide +kernel
theorem dX0_keyOfMeeting_14 : decode cX0_keyOfMeeting 14 = .ok (.aload_n 0, 1) := by decide +kernel
theorem dX0_keyOfMeeting_15 : decode cX0_keyOfMeeting 15 = .ok (.getfield 9, 3) := by decide +kernel
theorem dX0_keyOfMeeting_18 : decode cX0_keyOfMeeting 18 = .ok (.iload_n 1, 1) := by decide +kernel
theorem dX0_keyOfMeeting_19 : decode cX0_keyOfMeeting 19 = .ok (.iaload, 1) := by decide +kernel
theorem dX0_keyOfMeeting_20 : decode cX0_keyOfMeeting 20 = .ok (.goto 5, 3) := by decide +kernel
theorem dX0_keyOfMeeting_23 : decode cX0_keyOfMeeting 23 = .ok (.bipush (-6), 2) := by decide +kernel
theorem dX0_keyOfMeeting_25 : decode cX0_keyOfMeeting 25 = .ok (.ireturn, 1) := by decide +kernel
theorem eX0_keyOfMeeting_0 {a : Int} {l0 : Option VV} {S : MM} : rn xX0_keyOfMeeting (0, [l0, some (vI a)], [], S) = rn xX0_keyOfMeeting (1, [l0, some (vI a)], [vI a], S) := rn_step dX0_keyOfMeeting_0 rfl rfl
theorem eX0_keyOfMeeting_1 {l0 l1 : Option VV} {v0 : VV} {S : MM} : rn xX0_keyOfMeeting (1, [l0, l1], [v0], S) = rn xX0_keyOfMeeting (2, [l0, l1], [vI 0, v0], S) := rn_step dX0_keyOfMeeting_1 rfl rfl
theorem eX0_keyOfMeeting_2 {a : Option Nat} {l1 : Option VV} {v0 v1 : VV} {S : MM} : rn xX0_keyOfMeeting (2, [some (.inr (.inl a)), l1], [v0, v1], S) = rn xX0_keyOfMeeting (3, [some (.inr (.inl a)), l1], [.inr (.inl a), v0, v1], S) := rn_step dX0_keyOfMeeting_2 rfl rfl
theorem eX0_keyOfMeeting_3 {i : Nat} {l0 l1 : Option VV} {v1 v2 : VV} (h : kd i = 0) {S : MM} : rn xX0_keyOfMeeting (3, [l0, l1], [vR i, v1, v2], S) = rn xX0_keyOfMeeting (6, [l0, l1], [vI (S i 4), v1, v2], S) := q_getI dX0_keyOfMeeting_3 rfl ⟨⟨by decide, by decide⟩, by decide⟩ h
theorem eX0_keyOfMeeting_6 {l0 l1 : Option VV} {v0 v1 v2 : VV} {S : MM} : rn xX0_keyOfMeeting (6, [l0, l1], [v0, v1, v2], S) = rn xX0_keyOfMeeting (7, [l0, l1], [vI 1, v0, v1, v2], S) := rn_step dX0_keyOfMeeting_6 rfl rfl
theorem eX0_keyOfMeeting_7 {a b : Int} {l0 l1 : Option VV} {v2 v3 : VV} {S : MM} : rn xX0_keyOfMeeting (7, [l0, l1], [vI b, vI a, v2, v3], S) = rn xX0_keyOfMeeting (8, [l0, l1], [vI (a - b), v2, v3], S) := rn_step dX0_keyOfMeeting_7 rfl rfl
theorem eX0_keyOfMeeting_8 {a0 : Int} {a1 : Int} {a2 : Int} {l0 l1 : Option VV} {S : MM} : rn xX0_keyOfMeeting (8, [l0, l1], [vI a2, vI a1, vI a0], S) = (fX8_isBetween [vI a0, vI a1, vI a2] S).bind (fun q => rn xX0_keyOfMeeting (11, [l0, l1], q.1.toList ++ [], q.2)) := q_callS (n := 3) (as := [vI a0, vI a1, vI a2]) (rest := []) dX0_keyOfMeeting_8 rfl rfl rfl rfl
theorem eX0_keyOfMeeting_11 {a : Int} {l0 l1 : Option VV} (h : -2147483648 ≤ a ∧ a ≤ 2147483647) {S : MM} : rn xX0_keyOfMeeting (11, [l0, l1], [vI a], S) = if a = 0 then rn xX0_keyOfMeeting (23, [l0, l1], [], S) else rn xX0_keyOfMeeting (14, [l0, l1], [], S) := q_if_eq dX0_keyOfMeeting_11 (by decide) rfl h
theorem eX0_keyOfMeeting_14 {a : Option Nat} {l1 : Option VV} {S : MM} : rn xX0_keyOfMeeting (14, [some (.inr (.inl a)), l1], [], S) = rn xX0_keyOfMeeting (15, [some (.inr (.inl a)), l1], [.inr (.inl a)], S) := rn_step dX0_keyOfMeeting_14 rfl rfl
theorem eX0_keyOfMeeting_15 {i : Nat} {l0 l1 : Option VV} (h : kd i = 0) {S : MM} : rn xX0_keyOfMeeting (15, [l0, l1], [vR i], S) = rn xX0_keyOfMeeting (18, [l0, l1], [vR (i + 1)], S) := q_getR dX0_keyOfMeeting_15 rfl ⟨⟨by decide, by decide⟩, by decide⟩ (fun h => (fref0 h).trans (by first | rfl | omega)) h
theorem eX0_keyOfMeeting_18 {a : Int} {l0 : Option VV} {v0 : VV} {S : MM} : rn xX0_keyOfMeeting (18, [l0, some (vI a)], [v0], S) = rn xX0_keyOfMeeting (19, [l0, some (vI a)], [vI a, v0], S) := rn_step dX0_keyOfMeeting_18 rfl rfl
theorem eX0_keyOfMeeting_19 {i : Nat} {j : Int} {l0 l1 : Option VV} (h : kd i = 10) (h0 : 0 ≤ j) (h1 : j < alen i) {S : MM} : rn xX0_keyOfMeeting (19, [l0, l1], [vI j, vR i], S) = rn xX0_keyOfMeeting (20, [l0, l1], [vI (S i j.toNat)], S) := q_iald dX0_keyOfMeeting_19 h h0 h1
theorem eX0_keyOfMeeting_19x {j : Int} {l0 l1 : Option VV} {S : MM} (h0 : 0 ≤ j) (h1 : j < S 604 0) : rn xX0_keyOfMeeting (19, [l0, l1], [vI j, vR 602], S) = rn xX0_keyOfMeeting (20, [l0, l1], [vI (S 602 j.toNat)], S) := q_ialdX dX0_keyOfMeeting_19 h0 h1
theorem eX0_keyOfMeeting_19y {j : Int} {l0 l1 : Option VV} {S : MM} (h0 : 0 ≤ j) (h1 : j < S 604 1) : rn xX0_keyOfMeeting (19, [l0, l1], [vI j, vR 603], S) = rn xX0_keyOfMeeting (20, [l0, l1], [vI (S 603 j.toNat)], S) := q_ialdY dX0_keyOfMeeting_19 h0 h1
theorem eX0_keyOfMeeting_20 {l0 l1 : Option VV} {v0 : VV} {S : MM} : rn xX0_keyOfMeeting (20, [l0, l1], [v0], S) = rn xX0_keyOfMeeting (25, [l0, l1], [v0], S) := rn_step dX0_keyOfMeeting_20 rfl rfl
theorem eX0_keyOfMeeting_23 {l0 l1 : Option VV} {S : MM} : rn xX0_keyOfMeeting (23, [l0, l1], [], S) = rn xX0_keyOfMeeting (25, [l0, l1], [vI (-6)], S) := rn_step dX0_keyOfMeeting_23 rfl rfl
theorem eX0_keyOfMeeting_25 {z : Int} {l0 l1 : Option VV} {S : MM} : rn xX0_keyOfMeeting (25, [l0, l1], [vI z], S) = some (some (vI z), S) := q_retI dX0_keyOfMeeting_25 rfl
noncomputable def qlX0_rowsOfMeeting : List CE := [(1, 52, 0, 3, fX8_isBetween)]
noncomputable def xX0_rowsOfMeeting : XX := (cX0_rowsOfMeeting, fcF fcl0, mcF qlX0_rowsOfMeeting, 1)
noncomputable def fX0_rowsOfMeeting : FN := fnX xX0_rowsOfMeeting 2
set_option maxRecDepth 100000 in
theorem cwX0_rowsOfMeeting : Cond.code yX0_rowsOfMeeting cX0_rowsOfMeeting 2 (some .int) ∈ lw_g := lw_gm 513 (by decide +kernel) (by decide +kernel)
set_option maxRecDepth 100000 in
theorem conX0_rowsOfMeeting : Con yX0_rowsOfMeeting cX0_rowsOfMeeting 2 (some .int) { frames := 1, cells := 0, slots := 0, locals := 22 } fX0_rowsOfMeeting := con_of (X := xX0_rowsOfMeeting) (own := "LeapStones$Crossing") (ql := qlX0_rowsOfMeeting) (by decide) rfl FOK0 rfl (List.forall_mem_cons.mpr ⟨call_N conX8_isBetween cwX8_isBetween (lw_gl _ [251, 21] (by decide +kernel) (by decide +kernel)) (List.mem_of_getElem? (i := 23) (by decide +kernel)) ⟨by decide, by decide, by decide +kernel⟩ ⟨rfl, rfl⟩ ⟨by decide, by decide⟩ ⟨Nat.le_refl _, Nat.le_refl _⟩, fun _ h => absurd h List.not_mem_nil⟩) (Or.inr (Or.inl ⟨rfl, rfl⟩))
theorem uX0_rowsOfMeeting {i : Nat} {a0 : Int} {S : MM} : fX0_rowsOfMeeting [vR i, vI a0] S = rn xX0_rowsOfMeeting (0, [some (vR i), some (vI a0)], [], S) := rfl
theorem dX0_rowsOfMeeting_0 : decode cX0_rowsOfMeeting 0 = .ok (.iload_n 1, 1) := by decide +kernel
theorem dX0_rowsOfMeeting_1 : decode cX0_rowsOfMeeting 1 = .ok (.iconst 0, 1) := by decide +kernel
theorem dX0_rowsOfMeeting_2 : decode cX0_rowsOfMeeting 2 = .ok (.aload_n 0, 1) := by decide +kernel
theorem dX0_rowsOfMeeting_3 : decode cX0_rowsOfMeeting 3 = .ok (.getfield 44, 3) := by decide +kernel
theorem dX0_rowsOfMeeting_6 : decode cX0_rowsOfMeeting 6 = .ok (.iconst 1, 1) := by decide +kernel
theorem dX0_rowsOfMeeting_7 : decode cX0_rowsOfMeeting 7 = .ok (.isub, 1) := by decide +kernel
theorem dX0_rowsOfMeeting_8 : decode cX0_rowsOfMeeting 8 = .ok (.invokestatic 52, 3) := by decide +kernel
theorem dX0_rowsOfMeeting_11 : decode cX0_rowsOfMeeting 11 = .ok (.ifCond .eq 12, 3) := by decide +kernel
theorem dX0_rowsOfMeeting_14 : decode cX0_rowsOfMeeting 14 = .ok (.aload_n 0, 1) := by decide +kernel
theorem dX0_rowsOfMeeting_15 : decode cX0_rowsOfMeeting 15 = .ok (.getfield 15, 3) := by decide +kernel
theorem dX0_rowsOfMeeting_18 : decode cX0_rowsOfMeeting 18 = .ok (.iload_n 1, 1) := by decide +kernel
theorem dX0_rowsOfMeeting_19 : decode cX0_rowsOfMeeting 19 = .ok (.iaload, 1) := by decide +kernel
theorem dX0_rowsOfMeeting_20 : decode cX0_rowsOfMeeting 20 = .ok (.goto 4, 3) := by decide +kernel
theorem dX0_rowsOfMeeting_23 : decode cX0_rowsOfMeeting 23 = .ok (.iconst 0, 1) := by decide +kernel
theorem dX0_rowsOfMeeting_24 : decode cX0_rowsOfMeeting 24 = .ok (.ireturn, 1) := by decide +kernel
theorem eX0_rowsOfMeeting_0 {a : Int} {l0 : Option VV} {S : MM} : rn xX0_rowsOfMeeting (0, [l0, some (vI a)], [], S) = rn xX0_rowsOfMeeting (1, [l0, some (vI a)], [vI a], S) := rn_step dX0_rowsOfMeeting_0 rfl rfl
theorem eX0_rowsOfMeeting_1 {l0 l1 : Option VV} {v0 : VV} {S : MM} : rn xX0_rowsOfMeeting (1, [l0, l1], [v0], S) = rn xX0_rowsOfMeeting (2, [l0, l1], [vI 0, v0], S) := rn_step dX0_rowsOfMeeting_1 rfl rfl
theorem eX0_rowsOfMeeting_2 {a : Option Nat} {l1 : Option VV} {v0 v1 : VV} {S : MM} : rn xX0_rowsOfMeeting (2, [some (.inr (.inl a)), l1], [v0, v1], S) = rn xX0_rowsOfMeeting (3, [some (.inr (.inl a)), l1], [.inr (.inl a), v0, v1], S) := rn_step dX0_rowsOfMeeting_2 rfl rfl
theorem eX0_rowsOfMeeting_3 {i : Nat} {l0 l1 : Option VV} {v1 v2 : VV} (h : kd i = 0) {S : MM} : rn xX0_rowsOfMeeting (3, [l0, l1], [vR i, v1, v2], S) = rn xX0_rowsOfMeeting (6, [l0, l1], [vI (S i 4), v1, v2], S) := q_getI dX0_rowsOfMeeting_3 rfl ⟨⟨by decide, by decide⟩, by decide⟩ h
theorem eX0_rowsOfMeeting_6 {l0 l1 : Option VV} {v0 v1 v2 : VV} {S : MM} : rn xX0_rowsOfMeeting (6, [l0, l1], [v0, v1, v2], S) = rn xX0_rowsOfMeeting (7, [l0, l1], [vI 1, v0, v1, v2], S) := rn_step dX0_rowsOfMeeting_6 rfl rfl
theorem eX0_rowsOfMeeting_7 {a b : Int} {l0 l1 : Option VV} {v2 v3 : VV} {S : MM} : rn xX0_rowsOfMeeting (7, [l0, l1], [vI b, vI a, v2, v3], S) = rn xX0_rowsOfMeeting (8, [l0, l1], [vI (a - b), v2, v3], S) := rn_step dX0_rowsOfMeeting_7 rfl rfl
theorem eX0_rowsOfMeeting_8 {a0 : Int} {a1 : Int} {a2 : Int} {l0 l1 : Option VV} {S : MM} : rn xX0_rowsOfMeeting (8, [l0, l1], [vI a2, vI a1, vI a0], S) = (fX8_isBetween [vI a0, vI a1, vI a2] S).bind (fun q => rn xX0_rowsOfMeeting (11, [l0, l1], q.1.toList ++ [], q.2)) := q_callS (n := 3) (as := [vI a0, vI a1, vI a2]) (rest := []) dX0_rowsOfMeeting_8 rfl rfl rfl rfl
theorem eX0_rowsOfMeeting_11 {a : Int} {l0 l1 : Option VV} (h : -2147483648 ≤ a ∧ a ≤ 2147483647) {S : MM} : rn xX0_rowsOfMeeting (11, [l0, l1], [vI a], S) = if a = 0 then rn xX0_rowsOfMeeting (23, [l0, l1], [], S) else rn xX0_rowsOfMeeting (14, [l0, l1], [], S) := q_if_eq dX0_rowsOfMeeting_11 (by decide) rfl h
theorem eX0_rowsOfMeeting_14 {a : Option Nat} {l1 : Option VV} {S : MM} : rn xX0_rowsOfMeeting (14, [some (.inr (.inl a)), l1], [], S) = rn xX0_rowsOfMeeting (15, [some (.inr (.inl a)), l1], [.inr (.inl a)], S) := rn_step dX0_rowsOfMeeting_14 rfl rfl
theorem eX0_rowsOfMeeting_15 {i : Nat} {l0 l1 : Option VV} (h : kd i = 0) {S : MM} : rn xX0_rowsOfMeeting (15, [l0, l1], [vR i], S) = rn xX0_rowsOfMeeting (18, [l0, l1], [vR (i + 2)], S) := q_getR dX0_rowsOfMeeting_15 rfl ⟨⟨by decide, by decide⟩, by decide⟩ (fun h => (fref0 h).trans (by first | rfl | omega)) h
theorem eX0_rowsOfMeeting_18 {a : Int} {l0 : Option VV} {v0 : VV} {S : MM} : rn xX0_rowsOfMeeting (18, [l0, some (vI a)], [v0], S) = rn xX0_rowsOfMeeting (19, [l0, some (vI a)], [vI a, v0], S) := rn_step dX0_rowsOfMeeting_18 rfl rfl
theorem eX0_rowsOfMeeting_19 {i : Nat} {j : Int} {l0 l1 : Option VV} (h : kd i = 10) (h0 : 0 ≤ j) (h1 : j < alen i) {S : MM} : rn xX0_rowsOfMeeting (19, [l0, l1], [vI j, vR i], S) = rn xX0_rowsOfMeeting (20, [l0, l1], [vI (S i j.toNat)], S) := q_iald dX0_rowsOfMeeting_19 h h0 h1
theorem eX0_rowsOfMeeting_19x {j : Int} {l0 l1 : Option VV} {S : MM} (h0 : 0 ≤ j) (h1 : j < S 604 0) : rn xX0_rowsOfMeeting (19, [l0, l1], [vI j, vR 602], S) = rn xX0_rowsOfMeeting (20, [l0, l1], [vI (S 602 j.toNat)], S) := q_ialdX dX0_rowsOfMeeting_19 h0 h1
theorem eX0_rowsOfMeeting_19y {j : Int} {l0 l1 : Option VV} {S : MM} (h0 : 0 ≤ j) (h1 : j < S 604 1) : rn xX0_rowsOfMeeting (19, [l0, l1], [vI j, vR 603], S) = rn xX0_rowsOfMeeting (20, [l0, l1], [vI (S 603 j.toNat)], S) := q_ialdY dX0_rowsOfMeeting_19 h0 h1
theorem eX0_rowsOfMeeting_20 {l0 l1 : Option VV} {v0 : VV} {S : MM} : rn xX0_rowsOfMeeting (20, [l0, l1], [v0], S) = rn xX0_rowsOfMeeting (24, [l0, l1], [v0], S) := rn_step dX0_rowsOfMeeting_20 rfl rfl
theorem eX0_rowsOfMeeting_23 {l0 l1 : Option VV} {S : MM} : rn xX0_rowsOfMeeting (23, [l0, l1], [], S) = rn xX0_rowsOfMeeting (24, [l0, l1], [vI 0], S) := rn_step dX0_rowsOfMeeting_23 rfl rfl
theorem eX0_rowsOfMeeting_24 {z : Int} {l0 l1 : Option VV} {S : MM} : rn xX0_rowsOfMeeting (24, [l0, l1], [vI z], S) = some (some (vI z), S) := q_retI dX0_rowsOfMeeting_24 rfl
noncomputable def qlX7_valueOf : List CE := [(1, 15, 0, 3, fX8_isBetween)]
noncomputable def xX7_valueOf : XX := (cX7_valueOf, fcF fcl7, mcF qlX7_valueOf, 1)
noncomputable def fX7_valueOf : FN := fnX xX7_valueOf 2
set_option maxRecDepth 100000 in
theorem cwX7_valueOf : Cond.code yX7_valueOf cX7_valueOf 2 (some .int) ∈ lw_g := lw_gm 317 (by decide +kernel) (by decide +kernel)
set_option maxRecDepth 100000 in
theorem conX7_valueOf : Con yX7_valueOf cX7_valueOf 2 (some .int) { frames := 1, cells := 0, slots := 0, locals := 22 } fX7_valueOf := con_of (X := xX7_valueOf) (own := "LeapStones$Settings") (ql := qlX7_valueOf) (by decide) rfl FOK7 rfl (List.forall_mem_cons.mpr ⟨call_N conX8_isBetween cwX8_isBetween (lw_gl _ [251, 21] (by decide +kernel) (by decide +kernel)) (List.mem_of_getElem? (i := 17) (by decide +kernel)) ⟨by decide, by decide, by decide +kernel⟩ ⟨rfl, rfl⟩ ⟨by decide, by decide⟩ ⟨Nat.le_refl _, Nat.le_refl _⟩, fun _ h => absurd h List.not_mem_nil⟩) (Or.inr (Or.inl ⟨rfl, rfl⟩))
theorem uX7_valueOf {i : Nat} {a0 : Int} {S : MM} : fX7_valueOf [vR i, vI a0] S = rn xX7_valueOf (0, [some (vR i), some (vI a0)], [], S) := rfl
theorem dX7_valueOf_0 : decode cX7_valueOf 0 = .ok (.iload_n 1, 1) := by decide +kernel
theorem dX7_valueOf_1 : decode cX7_valueOf 1 = .ok (.iconst 0, 1) := by decide +kernel
theorem dX7_valueOf_2 : decode cX7_valueOf 2 = .ok (.iconst 3, 1) := by decide +kernel
theorem dX7_valueOf_3 : decode cX7_valueOf 3 = .ok (.invokestatic 15, 3) := by decide +kernel
theorem dX7_valueOf_6 : decode cX7_valueOf 6 = .ok (.ifCond .eq 12, 3) := by decide +kernel
theorem dX7_valueOf_9 : decode cX7_valueOf 9 = .ok (.aload_n 0, 1) := by decide +kernel
theorem dX7_valueOf_10 : decode cX7_valueOf 10 = .ok (.getfield 9, 3) := by decide +kernel
theorem dX7_valueOf_13 : decode cX7_valueOf 13 = .ok (.iload_n 1, 1) := by decide +kernel
theorem dX7_valueOf_14 : decode cX7_valueOf 14 = .ok (.iaload, 1) := by decide +kernel
theorem dX7_valueOf_15 : decode cX7_valueOf 15 = .ok (.goto 4, 3) := by decide +kernel
theorem dX7_valueOf_18 : decode cX7_valueOf 18 = .ok (.iconst 0, 1) := by decide +kernel
theorem dX7_valueOf_19 : decode cX7_valueOf 19 = .ok (.ireturn, 1) := by decide +kernel
theorem eX7_valueOf_0 {a : Int} {l0 : Option VV} {S : MM} : rn xX7_valueOf (0, [l0, some (vI a)], [], S) = rn xX7_valueOf (1, [l0, some (vI a)], [vI a], S) := rn_step dX7_valueOf_0 rfl rfl
theorem eX7_valueOf_1 {l0 l1 : Option VV} {v0 : VV} {S : MM} : rn xX7_valueOf (1, [l0, l1], [v0], S) = rn xX7_valueOf (2, [l0, l1], [vI 0, v0], S) := rn_step dX7_valueOf_1 rfl rfl
theorem eX7_valueOf_2 {l0 l1 : Option VV} {v0 v1 : VV} {S : MM} : rn xX7_valueOf (2, [l0, l1], [v0, v1], S) = rn xX7_valueOf (3, [l0, l1], [vI 3, v0, v1], S) := rn_step dX7_valueOf_2 rfl rfl
theorem eX7_valueOf_3 {a0 : Int} {a1 : Int} {a2 : Int} {l0 l1 : Option VV} {S : MM} : rn xX7_valueOf (3, [l0, l1], [vI a2, vI a1, vI a0], S) = (fX8_isBetween [vI a0, vI a1, vI a2] S).bind (fun q => rn xX7_valueOf (6, [l0, l1], q.1.toList ++ [], q.2)) := q_callS (n := 3) (as := [vI a0, vI a1, vI a2]) (rest := []) dX7_valueOf_3 rfl rfl rfl rfl
theorem eX7_valueOf_6 {a : Int} {l0 l1 : Option VV} (h : -2147483648 ≤ a ∧ a ≤ 2147483647) {S : MM} : rn xX7_valueOf (6, [l0, l1], [vI a], S) = if a = 0 then rn xX7_valueOf (18, [l0, l1], [], S) else rn xX7_valueOf (9, [l0, l1], [], S) := q_if_eq dX7_valueOf_6 (by decide) rfl h
theorem eX7_valueOf_9 {a : Option Nat} {l1 : Option VV} {S : MM} : rn xX7_valueOf (9, [some (.inr (.inl a)), l1], [], S) = rn xX7_valueOf (10, [some (.inr (.inl a)), l1], [.inr (.inl a)], S) := rn_step dX7_valueOf_9 rfl rfl
theorem eX7_valueOf_10 {i : Nat} {l0 l1 : Option VV} (h : kd i = 7) {S : MM} : rn xX7_valueOf (10, [l0, l1], [vR i], S) = rn xX7_valueOf (13, [l0, l1], [vR (i + 1)], S) := q_getR dX7_valueOf_10 rfl ⟨⟨by decide, by decide⟩, by decide⟩ (fun h => (fref7 h).trans (by first | rfl | omega)) h
theorem eX7_valueOf_13 {a : Int} {l0 : Option VV} {v0 : VV} {S : MM} : rn xX7_valueOf (13, [l0, some (vI a)], [v0], S) = rn xX7_valueOf (14, [l0, some (vI a)], [vI a, v0], S) := rn_step dX7_valueOf_13 rfl rfl
theorem eX7_valueOf_14 {i : Nat} {j : Int} {l0 l1 : Option VV} (h : kd i = 10) (h0 : 0 ≤ j) (h1 : j < alen i) {S : MM} : rn xX7_valueOf (14, [l0, l1], [vI j, vR i], S) = rn xX7_valueOf (15, [l0, l1], [vI (S i j.toNat)], S) := q_iald dX7_valueOf_14 h h0 h1
theorem eX7_valueOf_14x {j : Int} {l0 l1 : Option VV} {S : MM} (h0 : 0 ≤ j) (h1 : j < S 604 0) : rn xX7_valueOf (14, [l0, l1], [vI j, vR 602], S) = rn xX7_valueOf (15, [l0, l1], [vI (S 602 j.toNat)], S) := q_ialdX dX7_valueOf_14 h0 h1
theorem eX7_valueOf_14y {j : Int} {l0 l1 : Option VV} {S : MM} (h0 : 0 ≤ j) (h1 : j < S 604 1) : rn xX7_valueOf (14, [l0, l1], [vI j, vR 603], S) = rn xX7_valueOf (15, [l0, l1], [vI (S 603 j.toNat)], S) := q_ialdY dX7_valueOf_14 h0 h1
theorem eX7_valueOf_15 {l0 l1 : Option VV} {v0 : VV} {S : MM} : rn xX7_valueOf (15, [l0, l1], [v0], S) = rn xX7_valueOf (19, [l0, l1], [v0], S) := rn_step dX7_valueOf_15 rfl rfl
theorem eX7_valueOf_18 {l0 l1 : Option VV} {S : MM} : rn xX7_valueOf (18, [l0, l1], [], S) = rn xX7_valueOf (19, [l0, l1], [vI 0], S) := rn_step dX7_valueOf_18 rfl rfl
theorem eX7_valueOf_19 {z : Int} {l0 l1 : Option VV} {S : MM} : rn xX7_valueOf (19, [l0, l1], [vI z], S) = some (some (vI z), S) := q_retI dX7_valueOf_19 rfl
noncomputable def qlX8_walkerInTurn : List CE := []
noncomputable def xX8_walkerInTurn : XX := (cX8_walkerInTurn, fcF fcl8, mcF qlX8_walkerInTurn, 1)
noncomputable def fX8_walkerInTurn : FN := fnX xX8_walkerInTurn 3
set_option maxRecDepth 100000 in
theorem cwX8_walkerInTurn : Cond.code yX8_walkerInTurn cX8_walkerInTurn 3 (some .int) ∈ lw_g := lw_gm 591 (by decide +kernel) (by decide +kernel)
set_option maxRecDepth 100000 in
theorem conX8_walkerInTurn : Con yX8_walkerInTurn cX8_walkerInTurn 3 (some .int) { frames := 0, cells := 0, slots := 0, locals := 0 } fX8_walkerInTurn := con_of (X := xX8_walkerInTurn) (own := "LeapStones") (ql := qlX8_walkerInTurn) (by decide) rfl FOK8 rfl (fun _ h => absurd h List.not_mem_nil) (Or.inr (Or.inl ⟨rfl, rfl⟩))
theorem uX8_walkerInTurn {a0 : Int} {a1 : Int} {S : MM} : fX8_walkerInTurn [vI a0, vI a1] S = rn xX8_walkerInTurn (0, [some (vI a0), some (vI a1), none], [], S) := rfl
theorem dX8_walkerInTurn_0 : decode cX8_walkerInTurn 0 = .ok (.iconst 3, 1) := by decide +kernel
theorem dX8_walkerInTurn_1 : decode cX8_walkerInTurn 1 = .ok (.iload_n 0, 1) := by decide +kernel
theorem dX8_walkerInTurn_2 : decode cX8_walkerInTurn 2 = .ok (.imul, 1) := by decide +kernel
theorem dX8_walkerInTurn_3 : decode cX8_walkerInTurn 3 = .ok (.iload_n 1, 1) := by decide +kernel
theorem dX8_walkerInTurn_4 : decode cX8_walkerInTurn 4 = .ok (.iadd, 1) := by decide +kernel
theorem dX8_walkerInTurn_5 : decode cX8_walkerInTurn 5 = .ok (.istore_n 2, 1) := by decide +kernel
theorem dX8_walkerInTurn_6 : decode cX8_walkerInTurn 6 = .ok (.iload_n 2, 1) := by decide +kernel
theorem dX8_walkerInTurn_7 : decode cX8_walkerInTurn 7 = .ok (.ifCond .lt 19, 3) := by decide +kernel
theorem dX8_walkerInTurn_10 : decode cX8_walkerInTurn 10 = .ok (.iload_n 2, 1) := by decide +kernel
theorem dX8_walkerInTurn_11 : decode cX8_walkerInTurn 11 = .ok (.getstatic 301, 3) := by decide +kernel
theorem dX8_walkerInTurn_14 : decode cX8_walkerInTurn 14 = .ok (.arraylength, 1) := by decide +kernel
theorem dX8_walkerInTurn_15 : decode cX8_walkerInTurn 15 = .ok (.if_icmp .ge 11, 3) := by decide +kernel
theorem dX8_walkerInTurn_18 : decode cX8_walkerInTurn 18 = .ok (.getstatic 301, 3) := by decide +kernel
theorem dX8_walkerInTurn_21 : decode cX8_walkerInTurn 21 = .ok (.iload_n 2, 1) := by decide +kernel
theorem dX8_walkerInTurn_22 : decode cX8_walkerInTurn 22 = .ok (.iaload, 1) := by decide +kernel
theorem dX8_walkerInTurn_23 : decode cX8_walkerInTurn 23 = .ok (.goto 4, 3) := by decide +kernel
theorem dX8_walkerInTurn_26 : decode cX8_walkerInTurn 26 = .ok (.iconst 0, 1) := by decide +kernel
theorem dX8_walkerInTurn_27 : decode cX8_walkerInTurn 27 = .ok (.ireturn, 1) := by decide +kernel
theorem eX8_walkerInTurn_0 {l0 l1 l2 : Option VV} {S : MM} : rn xX8_walkerInTurn (0, [l0, l1, l2], [], S) = rn xX8_walkerInTurn (1, [l0, l1, l2], [vI 3], S) := rn_step dX8_walkerInTurn_0 rfl rfl
theorem eX8_walkerInTurn_1 {a : Int} {l1 l2 : Option VV} {v0 : VV} {S : MM} : rn xX8_walkerInTurn (1, [some (vI a), l1, l2], [v0], S) = rn xX8_walkerInTurn (2, [some (vI a), l1, l2], [vI a, v0], S) := rn_step dX8_walkerInTurn_1 rfl rfl
theorem eX8_walkerInTurn_2 {a b : Int} {l0 l1 l2 : Option VV} {S : MM} : rn xX8_walkerInTurn (2, [l0, l1, l2], [vI b, vI a], S) = rn xX8_walkerInTurn (3, [l0, l1, l2], [vI (a * b)], S) := rn_step dX8_walkerInTurn_2 rfl rfl
theorem eX8_walkerInTurn_3 {a : Int} {l0 l2 : Option VV} {v0 : VV} {S : MM} : rn xX8_walkerInTurn (3, [l0, some (vI a), l2], [v0], S) = rn xX8_walkerInTurn (4, [l0, some (vI a), l2], [vI a, v0], S) := rn_step dX8_walkerInTurn_3 rfl rfl
theorem eX8_walkerInTurn_4 {a b : Int} {l0 l1 l2 : Option VV} {S : MM} : rn xX8_walkerInTurn (4, [l0, l1, l2], [vI b, vI a], S) = rn xX8_walkerInTurn (5, [l0, l1, l2], [vI (a + b)], S) := rn_step dX8_walkerInTurn_4 rfl rfl
theorem eX8_walkerInTurn_5 {a : Int} {w : Int} {l0 l2 : Option VV} {S : MM} : rn xX8_walkerInTurn (5, [l0, some (vI w), l2], [vI a], S) = rn xX8_walkerInTurn (6, [l0, some (vI w), some (vI a)], [], S) := rn_step dX8_walkerInTurn_5 rfl rfl
theorem eX8_walkerInTurn_6 {a : Int} {l0 l1 : Option VV} {S : MM} : rn xX8_walkerInTurn (6, [l0, l1, some (vI a)], [], S) = rn xX8_walkerInTurn (7, [l0, l1, some (vI a)], [vI a], S) := rn_step dX8_walkerInTurn_6 rfl rfl
theorem eX8_walkerInTurn_7 {a : Int} {l0 l1 l2 : Option VV} (h : -2147483648 ≤ a ∧ a ≤ 2147483647) {S : MM} : rn xX8_walkerInTurn (7, [l0, l1, l2], [vI a], S) = if a < 0 then rn xX8_walkerInTurn (26, [l0, l1, l2], [], S) else rn xX8_walkerInTurn (10, [l0, l1, l2], [], S) := q_if_lt dX8_walkerInTurn_7 (by decide) rfl h
theorem eX8_walkerInTurn_10 {a : Int} {l0 l1 : Option VV} {S : MM} : rn xX8_walkerInTurn (10, [l0, l1, some (vI a)], [], S) = rn xX8_walkerInTurn (11, [l0, l1, some (vI a)], [vI a], S) := rn_step dX8_walkerInTurn_10 rfl rfl
theorem eX8_walkerInTurn_11 {l0 l1 l2 : Option VV} {v0 : VV} {S : MM} : rn xX8_walkerInTurn (11, [l0, l1, l2], [v0], S) = rn xX8_walkerInTurn (14, [l0, l1, l2], [vR 602, v0], S) := q_gets dX8_walkerInTurn_11 rfl
theorem eX8_walkerInTurn_14 {i : Nat} {l0 l1 l2 : Option VV} {v1 : VV} (h : 10 ≤ kd i ∧ kd i ≤ 14) {S : MM} : rn xX8_walkerInTurn (14, [l0, l1, l2], [vR i, v1], S) = rn xX8_walkerInTurn (15, [l0, l1, l2], [vI (alen i), v1], S) := q_alen dX8_walkerInTurn_14 h
theorem eX8_walkerInTurn_14x {l0 l1 l2 : Option VV} {v1 : VV} {S : MM} : rn xX8_walkerInTurn (14, [l0, l1, l2], [vR 602, v1], S) = rn xX8_walkerInTurn (15, [l0, l1, l2], [vI (S 604 0), v1], S) := q_alenX dX8_walkerInTurn_14
theorem eX8_walkerInTurn_14y {l0 l1 l2 : Option VV} {v1 : VV} {S : MM} : rn xX8_walkerInTurn (14, [l0, l1, l2], [vR 603, v1], S) = rn xX8_walkerInTurn (15, [l0, l1, l2], [vI (S 604 1), v1], S) := q_alenY dX8_walkerInTurn_14
theorem eX8_walkerInTurn_15 {a b : Int} {l0 l1 l2 : Option VV} (h : -2147483648 ≤ a ∧ a ≤ 2147483647) (h1 : -2147483648 ≤ b ∧ b ≤ 2147483647) {S : MM} : rn xX8_walkerInTurn (15, [l0, l1, l2], [vI b, vI a], S) = if a < b then rn xX8_walkerInTurn (18, [l0, l1, l2], [], S) else rn xX8_walkerInTurn (26, [l0, l1, l2], [], S) := q_icmp_ge dX8_walkerInTurn_15 (by decide) rfl h h1
theorem eX8_walkerInTurn_18 {l0 l1 l2 : Option VV} {S : MM} : rn xX8_walkerInTurn (18, [l0, l1, l2], [], S) = rn xX8_walkerInTurn (21, [l0, l1, l2], [vR 602], S) := q_gets dX8_walkerInTurn_18 rfl
theorem eX8_walkerInTurn_21 {a : Int} {l0 l1 : Option VV} {v0 : VV} {S : MM} : rn xX8_walkerInTurn (21, [l0, l1, some (vI a)], [v0], S) = rn xX8_walkerInTurn (22, [l0, l1, some (vI a)], [vI a, v0], S) := rn_step dX8_walkerInTurn_21 rfl rfl
theorem eX8_walkerInTurn_22 {i : Nat} {j : Int} {l0 l1 l2 : Option VV} (h : kd i = 10) (h0 : 0 ≤ j) (h1 : j < alen i) {S : MM} : rn xX8_walkerInTurn (22, [l0, l1, l2], [vI j, vR i], S) = rn xX8_walkerInTurn (23, [l0, l1, l2], [vI (S i j.toNat)], S) := q_iald dX8_walkerInTurn_22 h h0 h1
theorem eX8_walkerInTurn_22x {j : Int} {l0 l1 l2 : Option VV} {S : MM} (h0 : 0 ≤ j) (h1 : j < S 604 0) : rn xX8_walkerInTurn (22, [l0, l1, l2], [vI j, vR 602], S) = rn xX8_walkerInTurn (23, [l0, l1, l2], [vI (S 602 j.toNat)], S) := q_ialdX dX8_walkerInTurn_22 h0 h1
theorem eX8_walkerInTurn_22y {j : Int} {l0 l1 l2 : Option VV} {S : MM} (h0 : 0 ≤ j) (h1 : j < S 604 1) : rn xX8_walkerInTurn (22, [l0, l1, l2], [vI j, vR 603], S) = rn xX8_walkerInTurn (23, [l0, l1, l2], [vI (S 603 j.toNat)], S) := q_ialdY dX8_walkerInTurn_22 h0 h1
theorem eX8_walkerInTurn_23 {l0 l1 l2 : Option VV} {v0 : VV} {S : MM} : rn xX8_walkerInTurn (23, [l0, l1, l2], [v0], S) = rn xX8_walkerInTurn (27, [l0, l1, l2], [v0], S) := rn_step dX8_walkerInTurn_23 rfl rfl
theorem eX8_walkerInTurn_26 {l0 l1 l2 : Option VV} {S : MM} : rn xX8_walkerInTurn (26, [l0, l1, l2], [], S) = rn xX8_walkerInTurn (27, [l0, l1, l2], [vI 0], S) := rn_step dX8_walkerInTurn_26 rfl rfl
theorem eX8_walkerInTurn_27 {z : Int} {l0 l1 l2 : Option VV} {S : MM} : rn xX8_walkerInTurn (27, [l0, l1, l2], [vI z], S) = some (some (vI z), S) := q_retI dX8_walkerInTurn_27 rfl
noncomputable def qlX5_pathOf : List CE := []
noncomputable def xX5_pathOf : XX := (cX5_pathOf, fcF fcl5, mcF qlX5_pathOf, 4)
noncomputable def fX5_pathOf : FN := fnX xX5_pathOf 2
set_option maxRecDepth 100000 in
theorem cwX5_pathOf : Cond.code yX5_pathOf cX5_pathOf 2 (some (.object "LeapStones$Path")) ∈ lw_g := lw_gm 349 (by decide +kernel) (by decide +kernel)
set_option maxRecDepth 100000 in
theorem conX5_pathOf : Con yX5_pathOf cX5_pathOf 2 (some (.object "LeapStones$Path")) { frames := 0, cells := 0, slots := 0, locals := 0 } fX5_pathOf := con_of (X := xX5_pathOf) (own := "LeapStones$River") (ql := qlX5_pathOf) (by decide) rfl FOK5 rfl (fun _ h => absurd h List.not_mem_nil) (Or.inr (Or.inr (Or.inr (Or.inr (Or.inl ⟨rfl, _, rfl⟩)))))
theorem uX5_pathOf {i : Nat} {a0 : Int} {S : MM} : fX5_pathOf [vR i, vI a0] S = rn xX5_pathOf (0, [some (vR i), some (vI a0)], [], S) := rfl
theorem dX5_pathOf_0 : decode cX5_pathOf 0 = .ok (.iload_n 1, 1) := by decide +kernel
theorem dX5_pathOf_1 : decode cX5_pathOf 1 = .ok (.ifCond .ne 10, 3) := by decide +kernel
theorem dX5_pathOf_4 : decode cX5_pathOf 4 = .ok (.aload_n 0, 1) := by decide +kernel
theorem dX5_pathOf_5 : decode cX5_pathOf 5 = .ok (.getfield 12, 3) := by decide +kernel
theorem dX5_pathOf_8 : decode cX5_pathOf 8 = .ok (.goto 19, 3) := by decide +kernel
theorem dX5_pathOf_11 : decode cX5_pathOf 11 = .ok (.iload_n 1, 1) := by decide +kernel
theorem dX5_pathOf_12 : decode cX5_pathOf 12 = .ok (.iconst 1, 1) := by decide +kernel
theorem dX5_pathOf_13 : decode cX5_pathOf 13 = .ok (.if_icmp .ne 10, 3) := by decide +kernel
theorem dX5_pathOf_16 : decode cX5_pathOf 16 = .ok (.aload_n 0, 1) := by decide +kernel
theorem dX5_pathOf_17 : decode cX5_pathOf 17 = .ok (.getfield 18, 3) := by decide +kernel
theorem dX5_pathOf_20 : decode cX5_pathOf 20 = .ok (.goto 7, 3) := by decide +kernel
theorem dX5_pathOf_23 : decode cX5_pathOf 23 = .ok (.aload_n 0, 1) := by decide +kernel
theorem dX5_pathOf_24 : decode cX5_pathOf 24 = .ok (.getfield 21, 3) := by decide +kernel
theorem dX5_pathOf_27 : decode cX5_pathOf 27 = .ok (.areturn, 1) := by decide +kernel
theorem eX5_pathOf_0 {a : Int} {l0 : Option VV} {S : MM} : rn xX5_pathOf (0, [l0, some (vI a)], [], S) = rn xX5_pathOf (1, [l0, some (vI a)], [vI a], S) := rn_step dX5_pathOf_0 rfl rfl
theorem eX5_pathOf_1 {a : Int} {l0 l1 : Option VV} (h : -2147483648 ≤ a ∧ a ≤ 2147483647) {S : MM} : rn xX5_pathOf (1, [l0, l1], [vI a], S) = if a = 0 then rn xX5_pathOf (4, [l0, l1], [], S) else rn xX5_pathOf (11, [l0, l1], [], S) := q_if_ne dX5_pathOf_1 (by decide) rfl h
theorem eX5_pathOf_4 {a : Option Nat} {l1 : Option VV} {S : MM} : rn xX5_pathOf (4, [some (.inr (.inl a)), l1], [], S) = rn xX5_pathOf (5, [some (.inr (.inl a)), l1], [.inr (.inl a)], S) := rn_step dX5_pathOf_4 rfl rfl
theorem eX5_pathOf_5 {i : Nat} {l0 l1 : Option VV} (h : kd i = 5) {S : MM} : rn xX5_pathOf (5, [l0, l1], [vR i], S) = rn xX5_pathOf (8, [l0, l1], [vR (i + 1)], S) := q_getR dX5_pathOf_5 rfl ⟨⟨by decide, by decide⟩, by decide⟩ (fun h => (fref5 h).trans (by first | rfl | omega)) h
theorem eX5_pathOf_8 {l0 l1 : Option VV} {v0 : VV} {S : MM} : rn xX5_pathOf (8, [l0, l1], [v0], S) = rn xX5_pathOf (27, [l0, l1], [v0], S) := rn_step dX5_pathOf_8 rfl rfl
theorem eX5_pathOf_11 {a : Int} {l0 : Option VV} {S : MM} : rn xX5_pathOf (11, [l0, some (vI a)], [], S) = rn xX5_pathOf (12, [l0, some (vI a)], [vI a], S) := rn_step dX5_pathOf_11 rfl rfl
theorem eX5_pathOf_12 {l0 l1 : Option VV} {v0 : VV} {S : MM} : rn xX5_pathOf (12, [l0, l1], [v0], S) = rn xX5_pathOf (13, [l0, l1], [vI 1, v0], S) := rn_step dX5_pathOf_12 rfl rfl
theorem eX5_pathOf_13 {a b : Int} {l0 l1 : Option VV} (h : -2147483648 ≤ a ∧ a ≤ 2147483647) (h1 : -2147483648 ≤ b ∧ b ≤ 2147483647) {S : MM} : rn xX5_pathOf (13, [l0, l1], [vI b, vI a], S) = if a = b then rn xX5_pathOf (16, [l0, l1], [], S) else rn xX5_pathOf (23, [l0, l1], [], S) := q_icmp_ne dX5_pathOf_13 (by decide) rfl h h1
theorem eX5_pathOf_16 {a : Option Nat} {l1 : Option VV} {S : MM} : rn xX5_pathOf (16, [some (.inr (.inl a)), l1], [], S) = rn xX5_pathOf (17, [some (.inr (.inl a)), l1], [.inr (.inl a)], S) := rn_step dX5_pathOf_16 rfl rfl
theorem eX5_pathOf_17 {i : Nat} {l0 l1 : Option VV} (h : kd i = 5) {S : MM} : rn xX5_pathOf (17, [l0, l1], [vR i], S) = rn xX5_pathOf (20, [l0, l1], [vR (i + 4)], S) := q_getR dX5_pathOf_17 rfl ⟨⟨by decide, by decide⟩, by decide⟩ (fun h => (fref5 h).trans (by first | rfl | omega)) h
theorem eX5_pathOf_20 {l0 l1 : Option VV} {v0 : VV} {S : MM} : rn xX5_pathOf (20, [l0, l1], [v0], S) = rn xX5_pathOf (27, [l0, l1], [v0], S) := rn_step dX5_pathOf_20 rfl rfl
theorem eX5_pathOf_23 {a : Option Nat} {l1 : Option VV} {S : MM} : rn xX5_pathOf (23, [some (.inr (.inl a)), l1], [], S) = rn xX5_pathOf (24, [some (.inr (.inl a)), l1], [.inr (.inl a)], S) := rn_step dX5_pathOf_23 rfl rfl
theorem eX5_pathOf_24 {i : Nat} {l0 l1 : Option VV} (h : kd i = 5) {S : MM} : rn xX5_pathOf (24, [l0, l1], [vR i], S) = rn xX5_pathOf (27, [l0, l1], [vR (i + 7)], S) := q_getR dX5_pathOf_24 rfl ⟨⟨by decide, by decide⟩, by decide⟩ (fun h => (fref5 h).trans (by first | rfl | omega)) h
theorem eX5_pathOf_27 {r : Option Nat} {l0 l1 : Option VV} {S : MM} : rn xX5_pathOf (27, [l0, l1], [.inr (.inl r)], S) = some (some (.inr (.inl r)), S) := q_retA dX5_pathOf_27 rfl
noncomputable def qlX3_placeFrom : List CE := []
noncomputable def xX3_placeFrom : XX := (cX3_placeFrom, fcF fcl3, mcF qlX3_placeFrom, 1)
noncomputable def fX3_placeFrom : FN := fnX xX3_placeFrom 6
set_option maxRecDepth 100000 in
theorem cwX3_placeFrom : Cond.code yX3_placeFrom cX3_placeFrom 6 (some .int) ∈ lw_g := lw_gm 370 (by decide +kernel) (by decide +kernel)
set_option maxRecDepth 100000 in
theorem conX3_placeFrom : Con yX3_placeFrom cX3_placeFrom 6 (some .int) { frames := 0, cells := 0, slots := 0, locals := 0 } fX3_placeFrom := con_of (X := xX3_placeFrom) (own := "LeapStones$Path") (ql := qlX3_placeFrom) (by decide) rfl FOK3 rfl (fun _ h => absurd h List.not_mem_nil) (Or.inr (Or.inl ⟨rfl, rfl⟩))
theorem uX3_placeFrom {i : Nat} {a0 : Int} {S : MM} : fX3_placeFrom [vR i, vI a0] S = rn xX3_placeFrom (0, [some (vR i), some (vI a0), none, none, none, none], [], S) := rfl
theorem dX3_placeFrom_0 : decode cX3_placeFrom 0 = .ok (.iconst 0, 1) := by decide +kernel
theorem dX3_placeFrom_1 : decode cX3_placeFrom 1 = .ok (.istore_n 2, 1) := by decide +kernel
theorem dX3_placeFrom_2 : decode cX3_placeFrom 2 = .ok (.aload_n 0, 1) := by decide +kernel
theorem dX3_placeFrom_3 : decode cX3_placeFrom 3 = .ok (.getfield 18, 3) := by decide +kernel
theorem dX3_placeFrom_6 : decode cX3_placeFrom 6 = .ok (.istore_n 3, 1) := by decide +kernel
theorem dX3_placeFrom_7 : decode cX3_placeFrom 7 = .ok (.iconst 0, 1) := by decide +kernel
theorem dX3_placeFrom_8 : decode cX3_placeFrom 8 = .ok (.istore 4, 2) := by decide +kernel
theorem dX3_placeFrom_10 : decode cX3_placeFrom 10 = .ok (.iload 4, 2) := by decide +kernel
theorem dX3_placeFrom_12 : decode cX3_placeFrom 12 = .ok (.bipush 40, 2) := by decide +kernel
theorem dX3_placeFrom_14 : decode cX3_placeFrom 14 = .ok (.if_icmp .ge 43, 3) := by decide +kernel
theorem dX3_placeFrom_17 : decode cX3_placeFrom 17 = .ok (.iload_n 2, 1) := by decide +kernel
theorem dX3_placeFrom_18 : decode cX3_placeFrom 18 = .ok (.iload_n 3, 1) := by decide +kernel
theorem dX3_placeFrom_19 : decode cX3_placeFrom 19 = .ok (.if_icmp .ge 38, 3) := by decide +kernel
theorem dX3_placeFrom_22 : decode cX3_placeFrom 22 = .ok (.iload_n 2, 1) := by decide +kernel
theorem dX3_placeFrom_23 : decode cX3_placeFrom 23 = .ok (.iload_n 3, 1) := by decide +kernel
theorem dX3_placeFrom_24 : decode cX3_placeFrom 24 = .ok (.iadd, 1) := by decide +kernel
theorem dX3_placeFrom_25 : decode cX3_placeFrom 25 = .ok (.iconst 1, 1) := by decide +kernel
theorem dX3_placeFrom_26 : decode cX3_placeFrom 26 = .ok (.ishr, 1) := by decide +kernel
theorem dX3_placeFrom_27 : decode cX3_placeFrom 27 = .ok (.istore 5, 2) := by decide +kernel
theorem dX3_placeFrom_29 : decode cX3_placeFrom 29 = .ok (.aload_n 0, 1) := by decide +kernel
theorem dX3_placeFrom_30 : decode cX3_placeFrom 30 = .ok (.getfield 9, 3) := by decide +kernel
theorem dX3_placeFrom_33 : decode cX3_placeFrom 33 = .ok (.iload 5, 2) := by decide +kernel
theorem dX3_placeFrom_35 : decode cX3_placeFrom 35 = .ok (.iaload, 1) := by decide +kernel
theorem dX3_placeFrom_36 : decode cX3_placeFrom 36 = .ok (.iload_n 1, 1) := by decide +kernel
theorem dX3_placeFrom_37 : decode cX3_placeFrom 37 = .ok (.if_icmp .ge 11, 3) := by decide +kernel
theorem dX3_placeFrom_40 : decode cX3_placeFrom 40 = .ok (.iload 5, 2) := by decide +kernel
theorem dX3_placeFrom_42 : decode cX3_placeFrom 42 = .ok (.iconst 1, 1) := by decide +kernel
theorem dX3_placeFrom_43 : decode cX3_placeFrom 43 = .ok (.iadd, 1) := by decide +kernel
theorem dX3_placeFrom_44 : decode cX3_placeFrom 44 = .ok (.istore_n 2, 1) := by decide +kernel
theorem dX3_placeFrom_45 : decode cX3_placeFrom 45 = .ok (.goto 6, 3) := by decide +kernel
theorem dX3_placeFrom_48 : decode cX3_placeFrom 48 = .ok (.iload 5, 2) := by decide +kernel
theorem dX3_placeFrom_50 : decode cX3_placeFrom 50 = .ok (.istore_n 3, 1) := by decide +kernel
theorem dX3_placeFrom_51 : decode cX3_placeFrom 51 = .ok (.iinc 4 1, 3) := by decide +kernel
theorem dX3_placeFrom_54 : decode cX3_placeFrom 54 = .ok (.goto (-44), 3) := by decide +kernel
theorem dX3_placeFrom_57 : decode cX3_placeFrom 57 = .ok (.iload_n 2, 1) := by decide +kernel
theorem dX3_placeFrom_58 : decode cX3_placeFrom 58 = .ok (.ireturn, 1) := by decide +kernel
theorem eX3_placeFrom_0 {l0 l1 l2 l3 l4 l5 : Option VV} {S : MM} : rn xX3_placeFrom (0, [l0, l1, l2, l3, l4, l5], [], S) = rn xX3_placeFrom (1, [l0, l1, l2, l3, l4, l5], [vI 0], S) := rn_step dX3_placeFrom_0 rfl rfl
theorem eX3_placeFrom_1 {a : Int} {w : Int} {l0 l2 l3 l4 l5 : Option VV} {S : MM} : rn xX3_placeFrom (1, [l0, some (vI w), l2, l3, l4, l5], [vI a], S) = rn xX3_placeFrom (2, [l0, some (vI w), some (vI a), l3, l4, l5], [], S) := rn_step dX3_placeFrom_1 rfl rfl
theorem eX3_placeFrom_2 {a : Option Nat} {l1 l2 l3 l4 l5 : Option VV} {S : MM} : rn xX3_placeFrom (2, [some (.inr (.inl a)), l1, l2, l3, l4, l5], [], S) = rn xX3_placeFrom (3, [some (.inr (.inl a)), l1, l2, l3, l4, l5], [.inr (.inl a)], S) := rn_step dX3_placeFrom_2 rfl rfl
theorem eX3_placeFrom_3 {i : Nat} {l0 l1 l2 l3 l4 l5 : Option VV} (h : kd i = 3) {S : MM} : rn xX3_placeFrom (3, [l0, l1, l2, l3, l4, l5], [vR i], S) = rn xX3_placeFrom (6, [l0, l1, l2, l3, l4, l5], [vI (S i 2)], S) := q_getI dX3_placeFrom_3 rfl ⟨⟨by decide, by decide⟩, by decide⟩ h
theorem eX3_placeFrom_6 {a : Int} {w : Int} {l0 l1 l3 l4 l5 : Option VV} {S : MM} : rn xX3_placeFrom (6, [l0, l1, some (vI w), l3, l4, l5], [vI a], S) = rn xX3_placeFrom (7, [l0, l1, some (vI w), some (vI a), l4, l5], [], S) := rn_step dX3_placeFrom_6 rfl rfl
theorem eX3_placeFrom_7 {l0 l1 l2 l3 l4 l5 : Option VV} {S : MM} : rn xX3_placeFrom (7, [l0, l1, l2, l3, l4, l5], [], S) = rn xX3_placeFrom (8, [l0, l1, l2, l3, l4, l5], [vI 0], S) := rn_step dX3_placeFrom_7 rfl rfl
theorem eX3_placeFrom_8 {a : Int} {w : Int} {l0 l1 l2 l4 l5 : Option VV} {S : MM} : rn xX3_placeFrom (8, [l0, l1, l2, some (vI w), l4, l5], [vI a], S) = rn xX3_placeFrom (10, [l0, l1, l2, some (vI w), some (vI a), l5], [], S) := rn_step dX3_placeFrom_8 rfl rfl
theorem eX3_placeFrom_10 {a : Int} {l0 l1 l2 l3 l5 : Option VV} {S : MM} : rn xX3_placeFrom (10, [l0, l1, l2, l3, some (vI a), l5], [], S) = rn xX3_placeFrom (12, [l0, l1, l2, l3, some (vI a), l5], [vI a], S) := rn_step dX3_placeFrom_10 rfl rfl
theorem eX3_placeFrom_12 {l0 l1 l2 l3 l4 l5 : Option VV} {v0 : VV} {S : MM} : rn xX3_placeFrom (12, [l0, l1, l2, l3, l4, l5], [v0], S) = rn xX3_placeFrom (14, [l0, l1, l2, l3, l4, l5], [vI 40, v0], S) := rn_step dX3_placeFrom_12 rfl rfl
theorem eX3_placeFrom_14 {a b : Int} {l0 l1 l2 l3 l4 l5 : Option VV} (h : -2147483648 ≤ a ∧ a ≤ 2147483647) (h1 : -2147483648 ≤ b ∧ b ≤ 2147483647) {S : MM} : rn xX3_placeFrom (14, [l0, l1, l2, l3, l4, l5], [vI b, vI a], S) = if a < b then rn xX3_placeFrom (17, [l0, l1, l2, l3, l4, l5], [], S) else rn xX3_placeFrom (57, [l0, l1, l2, l3, l4, l5], [], S) := q_icmp_ge dX3_placeFrom_14 (by decide) rfl h h1
theorem eX3_placeFrom_17 {a : Int} {l0 l1 l3 l4 l5 : Option VV} {S : MM} : rn xX3_placeFrom (17, [l0, l1, some (vI a), l3, l4, l5], [], S) = rn xX3_placeFrom (18, [l0, l1, some (vI a), l3, l4, l5], [vI a], S) := rn_step dX3_placeFrom_17 rfl rfl
theorem eX3_placeFrom_18 {a : Int} {l0 l1 l2 l4 l5 : Option VV} {v0 : VV} {S : MM} : rn xX3_placeFrom (18, [l0, l1, l2, some (vI a), l4, l5], [v0], S) = rn xX3_placeFrom (19, [l0, l1, l2, some (vI a), l4, l5], [vI a, v0], S) := rn_step dX3_placeFrom_18 rfl rfl
theorem eX3_placeFrom_19 {a b : Int} {l0 l1 l2 l3 l4 l5 : Option VV} (h : -2147483648 ≤ a ∧ a ≤ 2147483647) (h1 : -2147483648 ≤ b ∧ b ≤ 2147483647) {S : MM} : rn xX3_placeFrom (19, [l0, l1, l2, l3, l4, l5], [vI b, vI a], S) = if a < b then rn xX3_placeFrom (22, [l0, l1, l2, l3, l4, l5], [], S) else rn xX3_placeFrom (57, [l0, l1, l2, l3, l4, l5], [], S) := q_icmp_ge dX3_placeFrom_19 (by decide) rfl h h1
theorem eX3_placeFrom_22 {a : Int} {l0 l1 l3 l4 l5 : Option VV} {S : MM} : rn xX3_placeFrom (22, [l0, l1, some (vI a), l3, l4, l5], [], S) = rn xX3_placeFrom (23, [l0, l1, some (vI a), l3, l4, l5], [vI a], S) := rn_step dX3_placeFrom_22 rfl rfl
theorem eX3_placeFrom_23 {a : Int} {l0 l1 l2 l4 l5 : Option VV} {v0 : VV} {S : MM} : rn xX3_placeFrom (23, [l0, l1, l2, some (vI a), l4, l5], [v0], S) = rn xX3_placeFrom (24, [l0, l1, l2, some (vI a), l4, l5], [vI a, v0], S) := rn_step dX3_placeFrom_23 rfl rfl
theorem eX3_placeFrom_24 {a b : Int} {l0 l1 l2 l3 l4 l5 : Option VV} {S : MM} : rn xX3_placeFrom (24, [l0, l1, l2, l3, l4, l5], [vI b, vI a], S) = rn xX3_placeFrom (25, [l0, l1, l2, l3, l4, l5], [vI (a + b)], S) := rn_step dX3_placeFrom_24 rfl rfl
theorem eX3_placeFrom_25 {l0 l1 l2 l3 l4 l5 : Option VV} {v0 : VV} {S : MM} : rn xX3_placeFrom (25, [l0, l1, l2, l3, l4, l5], [v0], S) = rn xX3_placeFrom (26, [l0, l1, l2, l3, l4, l5], [vI 1, v0], S) := rn_step dX3_placeFrom_25 rfl rfl
theorem eX3_placeFrom_26 {a : Int} {l0 l1 l2 l3 l4 l5 : Option VV} (h : -2147483648 ≤ a ∧ a ≤ 2147483647) {S : MM} : rn xX3_placeFrom (26, [l0, l1, l2, l3, l4, l5], [vI 1, vI a], S) = rn xX3_placeFrom (27, [l0, l1, l2, l3, l4, l5], [vI (a / 2)], S) := q_ishrK dX3_placeFrom_26 ⟨by decide, by decide⟩ rfl h
theorem eX3_placeFrom_27 {a : Int} {w : Int} {l0 l1 l2 l3 l5 : Option VV} {S : MM} : rn xX3_placeFrom (27, [l0, l1, l2, l3, some (vI w), l5], [vI a], S) = rn xX3_placeFrom (29, [l0, l1, l2, l3, some (vI w), some (vI a)], [], S) := rn_step dX3_placeFrom_27 rfl rfl
theorem eX3_placeFrom_29 {a : Option Nat} {l1 l2 l3 l4 l5 : Option VV} {S : MM} : rn xX3_placeFrom (29, [some (.inr (.inl a)), l1, l2, l3, l4, l5], [], S) = rn xX3_placeFrom (30, [some (.inr (.inl a)), l1, l2, l3, l4, l5], [.inr (.inl a)], S) := rn_step dX3_placeFrom_29 rfl rfl
theorem eX3_placeFrom_30 {i : Nat} {l0 l1 l2 l3 l4 l5 : Option VV} (h : kd i = 3) {S : MM} : rn xX3_placeFrom (30, [l0, l1, l2, l3, l4, l5], [vR i], S) = rn xX3_placeFrom (33, [l0, l1, l2, l3, l4, l5], [vR (i + 1)], S) := q_getR dX3_placeFrom_30 rfl ⟨⟨by decide, by decide⟩, by decide⟩ (fun h => (fref3 h).trans (by first | rfl | omega)) h
theorem eX3_placeFrom_33 {a : Int} {l0 l1 l2 l3 l4 : Option VV} {v0 : VV} {S : MM} : rn xX3_placeFrom (33, [l0, l1, l2, l3, l4, some (vI a)], [v0], S) = rn xX3_placeFrom (35, [l0, l1, l2, l3, l4, some (vI a)], [vI a, v0], S) := rn_step dX3_placeFrom_33 rfl rfl
theorem eX3_placeFrom_35 {i : Nat} {j : Int} {l0 l1 l2 l3 l4 l5 : Option VV} (h : kd i = 10) (h0 : 0 ≤ j) (h1 : j < alen i) {S : MM} : rn xX3_placeFrom (35, [l0, l1, l2, l3, l4, l5], [vI j, vR i], S) = rn xX3_placeFrom (36, [l0, l1, l2, l3, l4, l5], [vI (S i j.toNat)], S) := q_iald dX3_placeFrom_35 h h0 h1
theorem eX3_placeFrom_35x {j : Int} {l0 l1 l2 l3 l4 l5 : Option VV} {S : MM} (h0 : 0 ≤ j) (h1 : j < S 604 0) : rn xX3_placeFrom (35, [l0, l1, l2, l3, l4, l5], [vI j, vR 602], S) = rn xX3_placeFrom (36, [l0, l1, l2, l3, l4, l5], [vI (S 602 j.toNat)], S) := q_ialdX dX3_placeFrom_35 h0 h1
theorem eX3_placeFrom_35y {j : Int} {l0 l1 l2 l3 l4 l5 : Option VV} {S : MM} (h0 : 0 ≤ j) (h1 : j < S 604 1) : rn xX3_placeFrom (35, [l0, l1, l2, l3, l4, l5], [vI j, vR 603], S) = rn xX3_placeFrom (36, [l0, l1, l2, l3, l4, l5], [vI (S 603 j.toNat)], S) := q_ialdY dX3_placeFrom_35 h0 h1
theorem eX3_placeFrom_36 {a : Int} {l0 l2 l3 l4 l5 : Option VV} {v0 : VV} {S : MM} : rn xX3_placeFrom (36, [l0, some (vI a), l2, l3, l4, l5], [v0], S) = rn xX3_placeFrom (37, [l0, some (vI a), l2, l3, l4, l5], [vI a, v0], S) := rn_step dX3_placeFrom_36 rfl rfl
theorem eX3_placeFrom_37 {a b : Int} {l0 l1 l2 l3 l4 l5 : Option VV} (h : -2147483648 ≤ a ∧ a ≤ 2147483647) (h1 : -2147483648 ≤ b ∧ b ≤ 2147483647) {S : MM} : rn xX3_placeFrom (37, [l0, l1, l2, l3, l4, l5], [vI b, vI a], S) = if a < b then rn xX3_placeFrom (40, [l0, l1, l2, l3, l4, l5], [], S) else rn xX3_placeFrom (48, [l0, l1, l2, l3, l4, l5], [], S) := q_icmp_ge dX3_placeFrom_37 (by decide) rfl h h1
theorem eX3_placeFrom_40 {a : Int} {l0 l1 l2 l3 l4 : Option VV} {S : MM} : rn xX3_placeFrom (40, [l0, l1, l2, l3, l4, some (vI a)], [], S) = rn xX3_placeFrom (42, [l0, l1, l2, l3, l4, some (vI a)], [vI a], S) := rn_step dX3_placeFrom_40 rfl rfl
theorem eX3_placeFrom_42 {l0 l1 l2 l3 l4 l5 : Option VV} {v0 : VV} {S : MM} : rn xX3_placeFrom (42, [l0, l1, l2, l3, l4, l5], [v0], S) = rn xX3_placeFrom (43, [l0, l1, l2, l3, l4, l5], [vI 1, v0], S) := rn_step dX3_placeFrom_42 rfl rfl
theorem eX3_placeFrom_43 {a b : Int} {l0 l1 l2 l3 l4 l5 : Option VV} {S : MM} : rn xX3_placeFrom (43, [l0, l1, l2, l3, l4, l5], [vI b, vI a], S) = rn xX3_placeFrom (44, [l0, l1, l2, l3, l4, l5], [vI (a + b)], S) := rn_step dX3_placeFrom_43 rfl rfl
theorem eX3_placeFrom_44 {a : Int} {w : Int} {l0 l2 l3 l4 l5 : Option VV} {S : MM} : rn xX3_placeFrom (44, [l0, some (vI w), l2, l3, l4, l5], [vI a], S) = rn xX3_placeFrom (45, [l0, some (vI w), some (vI a), l3, l4, l5], [], S) := rn_step dX3_placeFrom_44 rfl rfl
theorem eX3_placeFrom_45 {l0 l1 l2 l3 l4 l5 : Option VV} {S : MM} : rn xX3_placeFrom (45, [l0, l1, l2, l3, l4, l5], [], S) = rn xX3_placeFrom (51, [l0, l1, l2, l3, l4, l5], [], S) := rn_step dX3_placeFrom_45 rfl rfl
theorem eX3_placeFrom_48 {a : Int} {l0 l1 l2 l3 l4 : Option VV} {S : MM} : rn xX3_placeFrom (48, [l0, l1, l2, l3, l4, some (vI a)], [], S) = rn xX3_placeFrom (50, [l0, l1, l2, l3, l4, some (vI a)], [vI a], S) := rn_step dX3_placeFrom_48 rfl rfl
theorem eX3_placeFrom_50 {a : Int} {w : Int} {l0 l1 l3 l4 l5 : Option VV} {S : MM} : rn xX3_placeFrom (50, [l0, l1, some (vI w), l3, l4, l5], [vI a], S) = rn xX3_placeFrom (51, [l0, l1, some (vI w), some (vI a), l4, l5], [], S) := rn_step dX3_placeFrom_50 rfl rfl
theorem eX3_placeFrom_51 {a : Int} {w : Int} {l0 l1 l2 l5 : Option VV} {S : MM} : rn xX3_placeFrom (51, [l0, l1, l2, some (vI w), some (vI a), l5], [], S) = rn xX3_placeFrom (54, [l0, l1, l2, some (vI w), some (vI (a + 1)), l5], [], S) := rn_step dX3_placeFrom_51 rfl rfl
theorem eX3_placeFrom_54 {l0 l1 l2 l3 l4 l5 : Option VV} {S : MM} : rn xX3_placeFrom (54, [l0, l1, l2, l3, l4, l5], [], S) = rn xX3_placeFrom (10, [l0, l1, l2, l3, l4, l5], [], S) := rn_step dX3_placeFrom_54 rfl rfl
theorem eX3_placeFrom_57 {a : Int} {l0 l1 l3 l4 l5 : Option VV} {S : MM} : rn xX3_placeFrom (57, [l0, l1, some (vI a), l3, l4, l5], [], S) = rn xX3_placeFrom (58, [l0, l1, some (vI a), l3, l4, l5], [vI a], S) := rn_step dX3_placeFrom_57 rfl rfl
theorem eX3_placeFrom_58 {z : Int} {l0 l1 l2 l3 l4 l5 : Option VV} {S : MM} : rn xX3_placeFrom (58, [l0, l1, l2, l3, l4, l5], [vI z], S) = some (some (vI z), S) := q_retI dX3_placeFrom_58 rfl
noncomputable def qlX3_keyAt : List CE := []
noncomputable def xX3_keyAt : XX := (cX3_keyAt, fcF fcl3, mcF qlX3_keyAt, 1)
noncomputable def fX3_keyAt : FN := fnX xX3_keyAt 2
set_option maxRecDepth 100000 in
theorem cwX3_keyAt : Cond.code yX3_keyAt cX3_keyAt 2 (some .int) ∈ lw_g := lw_gm 374 (by decide +kernel) (by decide +kernel)
set_option maxRecDepth 100000 in
theorem conX3_keyAt : Con yX3_keyAt cX3_keyAt 2 (some .int) { frames := 0, cells := 0, slots := 0, locals := 0 } fX3_keyAt := con_of (X := xX3_keyAt) (own := "LeapStones$Path") (ql := qlX3_keyAt) (by decide) rfl FOK3 rfl (fun _ h => absurd h List.not_mem_nil) (Or.inr (Or.inl ⟨rfl, rfl⟩))
theorem uX3_keyAt {i : Nat} {a0 : Int} {S : MM} : fX3_keyAt [vR i, vI a0] S = rn xX3_keyAt (0, [some (vR i), some (vI a0)], [], S) := rfl
theorem dX3_keyAt_0 : decode cX3_keyAt 0 = .ok (.iload_n 1, 1) := by decide +kernel
theorem dX3_keyAt_1 : decode cX3_keyAt 1 = .ok (.ifCond .lt 20, 3) := by decide +kernel
theorem dX3_keyAt_4 : decode cX3_keyAt 4 = .ok (.iload_n 1, 1) := by decide +kernel
theorem dX3_keyAt_5 : decode cX3_keyAt 5 = .ok (.aload_n 0, 1) := by decide +kernel
theorem dX3_keyAt_6 : decode cX3_keyAt 6 = .ok (.getfield 18, 3) := by decide +kernel
theorem dX3_keyAt_9 : decode cX3_keyAt 9 = .ok (.if_icmp .ge 12, 3) := by decide +kernel
theorem dX3_keyAt_12 : decode cX3_keyAt 12 = .ok (.aload_n 0, 1) := by decide +kernel
theorem dX3_keyAt_13 : decode cX3_keyAt 13 = .ok (.getfield 9, 3) := by decide +kernel
theorem dX3_keyAt_16 : decode cX3_keyAt 16 = .ok (.iload_n 1, 1) := by decide +kernel
theorem dX3_keyAt_17 : decode cX3_keyAt 17 = .ok (.iaload, 1) := by decide +kernel
theorem dX3_keyAt_18 : decode cX3_keyAt 18 = .ok (.goto 6, 3) := by decide +kernel
theorem dX3_keyAt_21 : decode cX3_keyAt 21 = .ok (.sipush 300, 3) := by decide +kernel
theorem dX3_keyAt_24 : decode cX3_keyAt 24 = .ok (.ireturn, 1) := by decide +kernel
theorem eX3_keyAt_0 {a : Int} {l0 : Option VV} {S : MM} : rn xX3_keyAt (0, [l0, some (vI a)], [], S) = rn xX3_keyAt (1, [l0, some (vI a)], [vI a], S) := rn_step dX3_keyAt_0 rfl rfl
theorem eX3_keyAt_1 {a : Int} {l0 l1 : Option VV} (h : -2147483648 ≤ a ∧ a ≤ 2147483647) {S : MM} : rn xX3_keyAt (1, [l0, l1], [vI a], S) = if a < 0 then rn xX3_keyAt (21, [l0, l1], [], S) else rn xX3_keyAt (4, [l0, l1], [], S) := q_if_lt dX3_keyAt_1 (by decide) rfl h
theorem eX3_keyAt_4 {a : Int} {l0 : Option VV} {S : MM} : rn xX3_keyAt (4, [l0, some (vI a)], [], S) = rn xX3_keyAt (5, [l0, some (vI a)], [vI a], S) := rn_step dX3_keyAt_4 rfl rfl
theorem eX3_keyAt_5 {a : Option Nat} {l1 : Option VV} {v0 : VV} {S : MM} : rn xX3_keyAt (5, [some (.inr (.inl a)), l1], [v0], S) = rn xX3_keyAt (6, [some (.inr (.inl a)), l1], [.inr (.inl a), v0], S) := rn_step dX3_keyAt_5 rfl rfl
theorem eX3_keyAt_6 {i : Nat} {l0 l1 : Option VV} {v1 : VV} (h : kd i = 3) {S : MM} : rn xX3_keyAt (6, [l0, l1], [vR i, v1], S) = rn xX3_keyAt (9, [l0, l1], [vI (S i 2), v1], S) := q_getI dX3_keyAt_6 rfl ⟨⟨by decide, by decide⟩, by decide⟩ h
theorem eX3_keyAt_9 {a b : Int} {l0 l1 : Option VV} (h : -2147483648 ≤ a ∧ a ≤ 2147483647) (h1 : -2147483648 ≤ b ∧ b ≤ 2147483647) {S : MM} : rn xX3_keyAt (9, [l0, l1], [vI b, vI a], S) = if a < b then rn xX3_keyAt (12, [l0, l1], [], S) else rn xX3_keyAt (21, [l0, l1], [], S) := q_icmp_ge dX3_keyAt_9 (by decide) rfl h h1
theorem eX3_keyAt_12 {a : Option Nat} {l1 : Option VV} {S : MM} : rn xX3_keyAt (12, [some (.inr (.inl a)), l1], [], S) = rn xX3_keyAt (13, [some (.inr (.inl a)), l1], [.inr (.inl a)], S) := rn_step dX3_keyAt_12 rfl rfl
theorem eX3_keyAt_13 {i : Nat} {l0 l1 : Option VV} (h : kd i = 3) {S : MM} : rn xX3_keyAt (13, [l0, l1], [vR i], S) = rn xX3_keyAt (16, [l0, l1], [vR (i + 1)], S) := q_getR dX3_keyAt_13 rfl ⟨⟨by decide, by decide⟩, by decide⟩ (fun h => (fref3 h).trans (by first | rfl | omega)) h
theorem eX3_keyAt_16 {a : Int} {l0 : Option VV} {v0 : VV} {S : MM} : rn xX3_keyAt (16, [l0, some (vI a)], [v0], S) = rn xX3_keyAt (17, [l0, some (vI a)], [vI a, v0], S) := rn_step dX3_keyAt_16 rfl rfl
theorem eX3_keyAt_17 {i : Nat} {j : Int} {l0 l1 : Option VV} (h : kd i = 10) (h0 : 0 ≤ j) (h1 : j < alen i) {S : MM} : rn xX3_keyAt (17, [l0, l1], [vI j, vR i], S) = rn xX3_keyAt (18, [l0, l1], [vI (S i j.toNat)], S) := q_iald dX3_keyAt_17 h h0 h1
theorem eX3_keyAt_17x {j : Int} {l0 l1 : Option VV} {S : MM} (h0 : 0 ≤ j) (h1 : j < S 604 0) : rn xX3_keyAt (17, [l0, l1], [vI j, vR 602], S) = rn xX3_keyAt (18, [l0, l1], [vI (S 602 j.toNat)], S) := q_ialdX dX3_keyAt_17 h0 h1
theorem eX3_keyAt_17y {j : Int} {l0 l1 : Option VV} {S : MM} (h0 : 0 ≤ j) (h1 : j < S 604 1) : rn xX3_keyAt (17, [l0, l1], [vI j, vR 603], S) = rn xX3_keyAt (18, [l0, l1], [vI (S 603 j.toNat)], S) := q_ialdY dX3_keyAt_17 h0 h1
theorem eX3_keyAt_18 {l0 l1 : Option VV} {v0 : VV} {S : MM} : rn xX3_keyAt (18, [l0, l1], [v0], S) = rn xX3_keyAt (24, [l0, l1], [v0], S) := rn_step dX3_keyAt_18 rfl rfl
theorem eX3_keyAt_21 {l0 l1 : Option VV} {S : MM} : rn xX3_keyAt (21, [l0, l1], [], S) = rn xX3_keyAt (24, [l0, l1], [vI 300], S) := rn_step dX3_keyAt_21 rfl rfl
theorem eX3_keyAt_24 {z : Int} {l0 l1 : Option VV} {S : MM} : rn xX3_keyAt (24, [l0, l1], [vI z], S) = some (some (vI z), S) := q_retI dX3_keyAt_24 rfl
noncomputable def qlX3_firstKeyFrom : List CE := [(0, 22, 3, 2, fX3_placeFrom), (0, 26, 3, 2, fX3_keyAt)]
noncomputable def xX3_firstKeyFrom : XX := (cX3_firstKeyFrom, fcF fcl3, mcF qlX3_firstKeyFrom, 1)
noncomputable def fX3_firstKeyFrom : FN := fnX xX3_firstKeyFrom 2
set_option maxRecDepth 100000 in
theorem cwX3_firstKeyFrom : Cond.code yX3_firstKeyFrom cX3_firstKeyFrom 2 (some .int) ∈ lw_g := lw_gm 471 (by decide +kernel) (by decide +kernel)
set_option maxRecDepth 100000 in
theorem conX3_firstKeyFrom : Con yX3_firstKeyFrom cX3_firstKeyFrom 2 (some .int) { frames := 1, cells := 0, slots := 0, locals := 25 } fX3_firstKeyFrom := con_of (X := xX3_firstKeyFrom) (own := "LeapStones$Path") (ql := qlX3_firstKeyFrom) (by decide) rfl FOK3 rfl (List.forall_mem_cons.mpr ⟨call_V conX3_placeFrom cwX3_placeFrom (lw_gl _ [367, 368, 369, 25] (by decide +kernel) (by decide +kernel)) (by decide) rfl ⟨by decide, by decide, by decide +kernel⟩ ⟨rfl, rfl⟩ ⟨by decide, by decide⟩ ⟨Nat.le_refl _, Nat.le_refl _⟩, List.forall_mem_cons.mpr ⟨call_V conX3_keyAt cwX3_keyAt (lw_gl _ [371, 372, 373, 25] (by decide +kernel) (by decide +kernel)) (by decide) rfl ⟨by decide, by decide, by decide +kernel⟩ ⟨rfl, rfl⟩ ⟨by decide, by decide⟩ ⟨Nat.le_refl _, Nat.le_refl _⟩, fun _ h => absurd h List.not_mem_nil⟩⟩) (Or.inr (Or.inl ⟨rfl, rfl⟩))
theorem uX3_firstKeyFrom {i : Nat} {a0 : Int} {S : MM} : fX3_firstKeyFrom [vR i, vI a0] S = rn xX3_firstKeyFrom (0, [some (vR i), some (vI a0)], [], S) := rfl
theorem dX3_firstKeyFrom_0 : decode cX3_firstKeyFrom 0 = .ok (.aload_n 0, 1) := by decide +kernel
theorem dX3_firstKeyFrom_1 : decode cX3_firstKeyFrom 1 = .ok (.aload_n 0, 1) := by decide +kernel
theorem dX3_firstKeyFrom_2 : decode cX3_firstKeyFrom 2 = .ok (.iload_n 1, 1) := by decide +kernel
theorem dX3_firstKeyFrom_3 : decode cX3_firstKeyFrom 3 = .ok (.invokevirtual 22, 3) := by decide +kernel
theorem dX3_firstKeyFrom_6 : decode cX3_firstKeyFrom 6 = .ok (.invokevirtual 26, 3) := by decide +kernel
theorem dX3_firstKeyFrom_9 : decode cX3_firstKeyFrom 9 = .ok (.ireturn, 1) := by decide +kernel
theorem eX3_firstKeyFrom_0 {a : Option Nat} {l1 : Option VV} {S : MM} : rn xX3_firstKeyFrom (0, [some (.inr (.inl a)), l1], [], S) = rn xX3_firstKeyFrom (1, [some (.inr (.inl a)), l1], [.inr (.inl a)], S) := rn_step dX3_firstKeyFrom_0 rfl rfl
theorem eX3_firstKeyFrom_1 {a : Option Nat} {l1 : Option VV} {v0 : VV} {S : MM} : rn xX3_firstKeyFrom (1, [some (.inr (.inl a)), l1], [v0], S) = rn xX3_firstKeyFrom (2, [some (.inr (.inl a)), l1], [.inr (.inl a), v0], S) := rn_step dX3_firstKeyFrom_1 rfl rfl
theorem eX3_firstKeyFrom_2 {a : Int} {l0 : Option VV} {v0 v1 : VV} {S : MM} : rn xX3_firstKeyFrom (2, [l0, some (vI a)], [v0, v1], S) = rn xX3_firstKeyFrom (3, [l0, some (vI a)], [vI a, v0, v1], S) := rn_step dX3_firstKeyFrom_2 rfl rfl
theorem eX3_firstKeyFrom_3 {a0 : Int} {i : Nat} {l0 l1 : Option VV} {v2 : VV} (h : kd i = 3) {S : MM} : rn xX3_firstKeyFrom (3, [l0, l1], [vI a0, vR i, v2], S) = (fX3_placeFrom [vR i, vI a0] S).bind (fun q => rn xX3_firstKeyFrom (6, [l0, l1], q.1.toList ++ [v2], q.2)) := q_callV (n := 1) (as := [vI a0]) (rest := [v2]) dX3_firstKeyFrom_3 rfl rfl rfl rfl h
theorem eX3_firstKeyFrom_6 {a0 : Int} {i : Nat} {l0 l1 : Option VV} (h : kd i = 3) {S : MM} : rn xX3_firstKeyFrom (6, [l0, l1], [vI a0, vR i], S) = (fX3_keyAt [vR i, vI a0] S).bind (fun q => rn xX3_firstKeyFrom (9, [l0, l1], q.1.toList ++ [], q.2)) := q_callV (n := 1) (as := [vI a0]) (rest := []) dX3_firstKeyFrom_6 rfl rfl rfl rfl h
theorem eX3_firstKeyFrom_9 {z : Int} {l0 l1 : Option VV} {S : MM} : rn xX3_firstKeyFrom (9, [l0, l1], [vI z], S) = some (some (vI z), S) := q_retI dX3_firstKeyFrom_9 rfl
noncomputable def qlX0_highestKey : List CE := [(1, 97, 0, 2, f_max)]
noncomputable def xX0_highestKey : XX := (cX0_highestKey, fcF fcl0, mcF qlX0_highestKey, 1)
noncomputable def fX0_highestKey : FN := fnX xX0_highestKey 1
set_option maxRecDepth 100000 in
theorem cwX0_highestKey : Cond.code yX0_highestKey cX0_highestKey 1 (some .int) ∈ lw_g := lw_gm 330 (by decide +kernel) (by decide +kernel)
set_option maxRecDepth 100000 in
theorem conX0_highestKey : Con yX0_highestKey cX0_highestKey 1 (some .int) { frames := 1, cells := 0, slots := 0, locals := 21 } fX0_highestKey := con_of (X := xX0_highestKey) (own := "LeapStones$Crossing") (ql := qlX0_highestKey) (by decide) rfl FOK0 rfl (List.forall_mem_cons.mpr ⟨call_max (lw_gl _ [331, 332, 30, 333] (by decide +kernel) (by decide +kernel)) ⟨by decide, by decide⟩ ⟨Nat.le_refl _, Nat.le_refl _⟩, fun _ h => absurd h List.not_mem_nil⟩) (Or.inr (Or.inl ⟨rfl, rfl⟩))
theorem uX0_highestKey {i : Nat} {S : MM} : fX0_highestKey [vR i] S = rn xX0_highestKey (0, [some (vR i)], [], S) := rfl
theorem dX0_highestKey_0 : decode cX0_highestKey 0 = .ok (.aload_n 0, 1) := by decide +kernel
theorem dX0_highestKey_1 : decode cX0_highestKey 1 = .ok (.getfield 18, 3) := by decide +kernel
theorem dX0_highestKey_4 : decode cX0_highestKey 4 = .ok (.iconst 0, 1) := by decide +kernel
theorem dX0_highestKey_5 : decode cX0_highestKey 5 = .ok (.iaload, 1) := by decide +kernel
theorem dX0_highestKey_6 : decode cX0_highestKey 6 = .ok (.aload_n 0, 1) := by decide +kernel
theorem dX0_highestKey_7 : decode cX0_highestKey 7 = .ok (.getfield 18, 3) := by decide +kernel
theorem dX0_highestKey_10 : decode cX0_highestKey 10 = .ok (.iconst 1, 1) := by decide +kernel
theorem dX0_highestKey_11 : decode cX0_highestKey 11 = .ok (.iaload, 1) := by decide +kernel
theorem dX0_highestKey_12 : decode cX0_highestKey 12 = .ok (.aload_n 0, 1) := by decide +kernel
theorem dX0_highestKey_13 : decode cX0_highestKey 13 = .ok (.getfield 18, 3) := by decide +kernel
theorem dX0_highestKey_16 : decode cX0_highestKey 16 = .ok (.iconst 2, 1) := by decide +kernel
theorem dX0_highestKey_17 : decode cX0_highestKey 17 = .ok (.iaload, 1) := by decide +kernel
theorem dX0_highestKey_18 : decode cX0_highestKey 18 = .ok (.invokestatic 97, 3) := by decide +kernel
theorem dX0_highestKey_21 : decode cX0_highestKey 21 = .ok (.invokestatic 97, 3) := by decide +kernel
theorem dX0_highestKey_24 : decode cX0_highestKey 24 = .ok (.ireturn, 1) := by decide +kernel
theorem eX0_highestKey_0 {a : Option Nat} {S : MM} : rn xX0_highestKey (0, [some (.inr (.inl a))], [], S) = rn xX0_highestKey (1, [some (.inr (.inl a))], [.inr (.inl a)], S) := rn_step dX0_highestKey_0 rfl rfl
theorem eX0_highestKey_1 {i : Nat} {l0 : Option VV} (h : kd i = 0) {S : MM} : rn xX0_highestKey (1, [l0], [vR i], S) = rn xX0_highestKey (4, [l0], [vR (i + 3)], S) := q_getR dX0_highestKey_1 rfl ⟨⟨by decide, by decide⟩, by decide⟩ (fun h => (fref0 h).trans (by first | rfl | omega)) h
theorem eX0_highestKey_4 {l0 : Option VV} {v0 : VV} {S : MM} : rn xX0_highestKey (4, [l0], [v0], S) = rn xX0_highestKey (5, [l0], [vI 0, v0], S) := rn_step dX0_highestKey_4 rfl rfl
theorem eX0_highestKey_5 {i : Nat} {j : Int} {l0 : Option VV} (h : kd i = 10) (h0 : 0 ≤ j) (h1 : j < alen i) {S : MM} : rn xX0_highestKey (5, [l0], [vI j, vR i], S) = rn xX0_highestKey (6, [l0], [vI (S i j.toNat)], S) := q_iald dX0_highestKey_5 h h0 h1
theorem eX0_highestKey_5x {j : Int} {l0 : Option VV} {S : MM} (h0 : 0 ≤ j) (h1 : j < S 604 0) : rn xX0_highestKey (5, [l0], [vI j, vR 602], S) = rn xX0_highestKey (6, [l0], [vI (S 602 j.toNat)], S) := q_ialdX dX0_highestKey_5 h0 h1
theorem eX0_highestKey_5y {j : Int} {l0 : Option VV} {S : MM} (h0 : 0 ≤ j) (h1 : j < S 604 1) : rn xX0_highestKey (5, [l0], [vI j, vR 603], S) = rn xX0_highestKey (6, [l0], [vI (S 603 j.toNat)], S) := q_ialdY dX0_highestKey_5 h0 h1
theorem eX0_highestKey_6 {a : Option Nat} {v0 : VV} {S : MM} : rn xX0_highestKey (6, [some (.inr (.inl a))], [v0], S) = rn xX0_highestKey (7, [some (.inr (.inl a))], [.inr (.inl a), v0], S) := rn_step dX0_highestKey_6 rfl rfl
theorem eX0_highestKey_7 {i : Nat} {l0 : Option VV} {v1 : VV} (h : kd i = 0) {S : MM} : rn xX0_highestKey (7, [l0], [vR i, v1], S) = rn xX0_highestKey (10, [l0], [vR (i + 3), v1], S) := q_getR dX0_highestKey_7 rfl ⟨⟨by decide, by decide⟩, by decide⟩ (fun h => (fref0 h).trans (by first | rfl | omega)) h
theorem eX0_highestKey_10 {l0 : Option VV} {v0 v1 : VV} {S : MM} : rn xX0_highestKey (10, [l0], [v0, v1], S) = rn xX0_highestKey (11, [l0], [vI 1, v0, v1], S) := rn_step dX0_highestKey_10 rfl rfl
theorem eX0_highestKey_11 {i : Nat} {j : Int} {l0 : Option VV} {v2 : VV} (h : kd i = 10) (h0 : 0 ≤ j) (h1 : j < alen i) {S : MM} : rn xX0_highestKey (11, [l0], [vI j, vR i, v2], S) = rn xX0_highestKey (12, [l0], [vI (S i j.toNat), v2], S) := q_iald dX0_highestKey_11 h h0 h1
theorem eX0_highestKey_11x {j : Int} {l0 : Option VV} {v2 : VV} {S : MM} (h0 : 0 ≤ j) (h1 : j < S 604 0) : rn xX0_highestKey (11, [l0], [vI j, vR 602, v2], S) = rn xX0_highestKey (12, [l0], [vI (S 602 j.toNat), v2], S) := q_ialdX dX0_highestKey_11 h0 h1
theorem eX0_highestKey_11y {j : Int} {l0 : Option VV} {v2 : VV} {S : MM} (h0 : 0 ≤ j) (h1 : j < S 604 1) : rn xX0_highestKey (11, [l0], [vI j, vR 603, v2], S) = rn xX0_highestKey (12, [l0], [vI (S 603 j.toNat), v2], S) := q_ialdY dX0_highestKey_11 h0 h1
theorem eX0_highestKey_12 {a : Option Nat} {v0 v1 : VV} {S : MM} : rn xX0_highestKey (12, [some (.inr (.inl a))], [v0, v1], S) = rn xX0_highestKey (13, [some (.inr (.inl a))], [.inr (.inl a), v0, v1], S) := rn_step dX0_highestKey_12 rfl rfl
theorem eX0_highestKey_13 {i : Nat} {l0 : Option VV} {v1 v2 : VV} (h : kd i = 0) {S : MM} : rn xX0_highestKey (13, [l0], [vR i, v1, v2], S) = rn xX0_highestKey (16, [l0], [vR (i + 3), v1, v2], S) := q_getR dX0_highestKey_13 rfl ⟨⟨by decide, by decide⟩, by decide⟩ (fun h => (fref0 h).trans (by first | rfl | omega)) h
theorem eX0_highestKey_16 {l0 : Option VV} {v0 v1 v2 : VV} {S : MM} : rn xX0_highestKey (16, [l0], [v0, v1, v2], S) = rn xX0_highestKey (17, [l0], [vI 2, v0, v1, v2], S) := rn_step dX0_highestKey_16 rfl rfl
theorem eX0_highestKey_17 {i : Nat} {j : Int} {l0 : Option VV} {v2 v3 : VV} (h : kd i = 10) (h0 : 0 ≤ j) (h1 : j < alen i) {S : MM} : rn xX0_highestKey (17, [l0], [vI j, vR i, v2, v3], S) = rn xX0_highestKey (18, [l0], [vI (S i j.toNat), v2, v3], S) := q_iald dX0_highestKey_17 h h0 h1
theorem eX0_highestKey_17x {j : Int} {l0 : Option VV} {v2 v3 : VV} {S : MM} (h0 : 0 ≤ j) (h1 : j < S 604 0) : rn xX0_highestKey (17, [l0], [vI j, vR 602, v2, v3], S) = rn xX0_highestKey (18, [l0], [vI (S 602 j.toNat), v2, v3], S) := q_ialdX dX0_highestKey_17 h0 h1
theorem eX0_highestKey_17y {j : Int} {l0 : Option VV} {v2 v3 : VV} {S : MM} (h0 : 0 ≤ j) (h1 : j < S 604 1) : rn xX0_highestKey (17, [l0], [vI j, vR 603, v2, v3], S) = rn xX0_highestKey (18, [l0], [vI (S 603 j.toNat), v2, v3], S) := q_ialdY dX0_highestKey_17 h0 h1
theorem eX0_highestKey_18 {a0 : Int} {a1 : Int} {l0 : Option VV} {v2 : VV} {S : MM} : rn xX0_highestKey (18, [l0], [vI a1, vI a0, v2], S) = (f_max [vI a0, vI a1] S).bind (fun q => rn xX0_highestKey (21, [l0], q.1.toList ++ [v2], q.2)) := q_callS (n := 2) (as := [vI a0, vI a1]) (rest := [v2]) dX0_highestKey_18 rfl rfl rfl rfl
theorem eX0_highestKey_21 {a0 : Int} {a1 : Int} {l0 : Option VV} {S : MM} : rn xX0_highestKey (21, [l0], [vI a1, vI a0], S) = (f_max [vI a0, vI a1] S).bind (fun q => rn xX0_highestKey (24, [l0], q.1.toList ++ [], q.2)) := q_callS (n := 2) (as := [vI a0, vI a1]) (rest := []) dX0_highestKey_21 rfl rfl rfl rfl
theorem eX0_highestKey_24 {z : Int} {l0 : Option VV} {S : MM} : rn xX0_highestKey (24, [l0], [vI z], S) = some (some (vI z), S) := q_retI dX0_highestKey_24 rfl
noncomputable def qlX0_endAbove : List CE := [(0, 127, 0, 1, fX0_highestKey)]
noncomputable def xX0_endAbove : XX := (cX0_endAbove, fcF fcl0, mcF qlX0_endAbove, 0)
noncomputable def fX0_endAbove : FN := fnX xX0_endAbove 2
set_option maxRecDepth 100000 in
theorem cwX0_endAbove : Cond.code yX0_endAbove cX0_endAbove 2 none ∈ lw_g := lw_gm 326 (by decide +kernel) (by decide +kernel)
set_option maxRecDepth 100000 in
theorem conX0_endAbove : Con yX0_endAbove cX0_endAbove 2 none { frames := 2, cells := 0, slots := 0, locals := 41 } fX0_endAbove := con_of (X := xX0_endAbove) (own := "LeapStones$Crossing") (ql := qlX0_endAbove) (by decide) rfl FOK0 rfl (List.forall_mem_cons.mpr ⟨call_V conX0_highestKey cwX0_highestKey (lw_gl _ [327, 329, 2, 28] (by decide +kernel) (by decide +kernel)) (by decide) rfl ⟨by decide, by decide, by decide +kernel⟩ ⟨rfl, rfl⟩ ⟨by decide, by decide⟩ ⟨Nat.le_refl _, Nat.le_refl _⟩, fun _ h => absurd h List.not_mem_nil⟩) (Or.inl ⟨rfl, rfl⟩)
theorem uX0_endAbove {i : Nat} {a0 : Int} {S : MM} : fX0_endAbove [vR i, vI a0] S = rn xX0_endAbove (0, [some (vR i), some (vI a0)], [], S) := rfl
theorem dX0_endAbove_0 : decode cX0_endAbove 0 = .ok (.aload_n 0, 1) := by decide +kernel
theorem dX0_endAbove_1 : decode cX0_endAbove 1 = .ok (.getfield 33, 3) := by decide +kernel
theorem dX0_endAbove_4 : decode cX0_endAbove 4 = .ok (.ifCond .eq 16, 3) := by decide +kernel
theorem dX0_endAbove_7 : decode cX0_endAbove 7 = .ok (.aload_n 0, 1) := by decide +kernel
theorem dX0_endAbove_8 : decode cX0_endAbove 8 = .ok (.invokevirtual 127, 3) := by decide +kernel
theorem dX0_endAbove_11 : decode cX0_endAbove 11 = .ok (.iload_n 1, 1) := by decide +kernel
theorem dX0_endAbove_12 : decode cX0_endAbove 12 = .ok (.if_icmp .le 8, 3) := by decide +kernel
theorem dX0_endAbove_15 : decode cX0_endAbove 15 = .ok (.aload_n 0, 1) := by decide +kernel
theorem dX0_endAbove_16 : decode cX0_endAbove 16 = .ok (.iconst 1, 1) := by decide +kernel
theorem dX0_endAbove_17 : decode cX0_endAbove 17 = .ok (.putfield 37, 3) := by decide +kernel
theorem dX0_endAbove_20 : decode cX0_endAbove 20 = .ok (.return_, 1) := by decide +kernel
theorem eX0_endAbove_0 {a : Option Nat} {l1 : Option VV} {S : MM} : rn xX0_endAbove (0, [some (.inr (.inl a)), l1], [], S) = rn xX0_endAbove (1, [some (.inr (.inl a)), l1], [.inr (.inl a)], S) := rn_step dX0_endAbove_0 rfl rfl
theorem eX0_endAbove_1 {i : Nat} {l0 l1 : Option VV} (h : kd i = 0) {S : MM} : rn xX0_endAbove (1, [l0, l1], [vR i], S) = rn xX0_endAbove (4, [l0, l1], [vI (S i 0)], S) := q_getI dX0_endAbove_1 rfl ⟨⟨by decide, by decide⟩, by decide⟩ h
theorem eX0_endAbove_4 {a : Int} {l0 l1 : Option VV} (h : -2147483648 ≤ a ∧ a ≤ 2147483647) {S : MM} : rn xX0_endAbove (4, [l0, l1], [vI a], S) = if a = 0 then rn xX0_endAbove (20, [l0, l1], [], S) else rn xX0_endAbove (7, [l0, l1], [], S) := q_if_eq dX0_endAbove_4 (by decide) rfl h
theorem eX0_endAbove_7 {a : Option Nat} {l1 : Option VV} {S : MM} : rn xX0_endAbove (7, [some (.inr (.inl a)), l1], [], S) = rn xX0_endAbove (8, [some (.inr (.inl a)), l1], [.inr (.inl a)], S) := rn_step dX0_endAbove_7 rfl rfl
theorem eX0_endAbove_8 {i : Nat} {l0 l1 : Option VV} (h : kd i = 0) {S : MM} : rn xX0_endAbove (8, [l0, l1], [vR i], S) = (fX0_highestKey [vR i] S).bind (fun q => rn xX0_endAbove (11, [l0, l1], q.1.toList ++ [], q.2)) := q_callV (n := 0) (as := []) (rest := []) dX0_endAbove_8 rfl rfl rfl rfl h
theorem eX0_endAbove_11 {a : Int} {l0 : Option VV} {v0 : VV} {S : MM} : rn xX0_endAbove (11, [l0, some (vI a)], [v0], S) = rn xX0_endAbove (12, [l0, some (vI a)], [vI a, v0], S) := rn_step dX0_endAbove_11 rfl rfl
theorem eX0_endAbove_12 {a b : Int} {l0 l1 : Option VV} (h : -2147483648 ≤ a ∧ a ≤ 2147483647) (h1 : -2147483648 ≤ b ∧ b ≤ 2147483647) {S : MM} : rn xX0_endAbove (12, [l0, l1], [vI b, vI a], S) = if b < a then rn xX0_endAbove (15, [l0, l1], [], S) else rn xX0_endAbove (20, [l0, l1], [], S) := q_icmp_le dX0_endAbove_12 (by decide) rfl h h1
theorem eX0_endAbove_15 {a : Option Nat} {l1 : Option VV} {S : MM} : rn xX0_endAbove (15, [some (.inr (.inl a)), l1], [], S) = rn xX0_endAbove (16, [some (.inr (.inl a)), l1], [.inr (.inl a)], S) := rn_step dX0_endAbove_15 rfl rfl
theorem eX0_endAbove_16 {l0 l1 : Option VV} {v0 : VV} {S : MM} : rn xX0_endAbove (16, [l0, l1], [v0], S) = rn xX0_endAbove (17, [l0, l1], [vI 1, v0], S) := rn_step dX0_endAbove_16 rfl rfl
theorem eX0_endAbove_17 {z : Int} {i : Nat} {l0 l1 : Option VV} (hz : z = 0 ∨ z = 1) (h : kd i = 0) {S : MM} : rn xX0_endAbove (17, [l0, l1], [vI z, vR i], S) = rn xX0_endAbove (20, [l0, l1], [], updM S i 1 z) := q_put dX0_endAbove_17 rfl ⟨by decide, by decide⟩ (fit1 hz) h
theorem eX0_endAbove_20 {l0 l1 : Option VV} {S : MM} : rn xX0_endAbove (20, [l0, l1], [], S) = some (none, S) := q_retV dX0_endAbove_20 rfl
noncomputable def qlX3_repeatsOf : List CE := []
noncomputable def xX3_repeatsOf : XX := (cX3_repeatsOf, fcF fcl3, mcF qlX3_repeatsOf, 1)
noncomputable def fX3_repeatsOf : FN := fnX xX3_repeatsOf 3
set_option maxRecDepth 100000 in
theorem cwX3_repeatsOf : Cond.code yX3_repeatsOf cX3_repeatsOf 3 (some .int) ∈ lw_g := lw_gm 357 (by decide +kernel) (by decide +kernel)
set_option maxRecDepth 100000 in
theorem conX3_repeatsOf : Con yX3_repeatsOf cX3_repeatsOf 3 (some .int) { frames := 0, cells := 0, slots := 0, locals := 0 } fX3_repeatsOf := con_of (X := xX3_repeatsOf) (own := "LeapStones$Path") (ql := qlX3_repeatsOf) (by decide) rfl FOK3 rfl (fun _ h => absurd h List.not_mem_nil) (Or.inr (Or.inl ⟨rfl, rfl⟩))
theorem uX3_repeatsOf {i : Nat} {a0 : Int} {S : MM} : fX3_repeatsOf [vR i, vI a0] S = rn xX3_repeatsOf (0, [some (vR i), some (vI a0), none], [], S) := rfl
theorem dX3_repeatsOf_0 : decode cX3_repeatsOf 0 = .ok (.iconst 0, 1) := by decide +kernel
theorem dX3_repeatsOf_1 : decode cX3_repeatsOf 1 = .ok (.istore_n 2, 1) := by decide +kernel
theorem dX3_repeatsOf_2 : decode cX3_repeatsOf 2 = .ok (.iload_n 2, 1) := by decide +kernel
theorem dX3_repeatsOf_3 : decode cX3_repeatsOf 3 = .ok (.aload_n 0, 1) := by decide +kernel
theorem dX3_repeatsOf_4 : decode cX3_repeatsOf 4 = .ok (.getfield 18, 3) := by decide +kernel
theorem dX3_repeatsOf_7 : decode cX3_repeatsOf 7 = .ok (.if_icmp .ge 26, 3) := by decide +kernel
theorem dX3_repeatsOf_10 : decode cX3_repeatsOf 10 = .ok (.aload_n 0, 1) := by decide +kernel
theorem dX3_repeatsOf_11 : decode cX3_repeatsOf 11 = .ok (.getfield 9, 3) := by decide +kernel
theorem dX3_repeatsOf_14 : decode cX3_repeatsOf 14 = .ok (.iload_n 2, 1) := by decide +kernel
theorem dX3_repeatsOf_15 : decode cX3_repeatsOf 15 = .ok (.iaload, 1) := by decide +kernel
theorem dX3_repeatsOf_16 : decode cX3_repeatsOf 16 = .ok (.iload_n 1, 1) := by decide +kernel
theorem dX3_repeatsOf_17 : decode cX3_repeatsOf 17 = .ok (.if_icmp .ne 10, 3) := by decide +kernel
theorem dX3_repeatsOf_20 : decode cX3_repeatsOf 20 = .ok (.aload_n 0, 1) := by decide +kernel
theorem dX3_repeatsOf_21 : decode cX3_repeatsOf 21 = .ok (.getfield 15, 3) := by decide +kernel
theorem dX3_repeatsOf_24 : decode cX3_repeatsOf 24 = .ok (.iload_n 2, 1) := by decide +kernel
theorem dX3_repeatsOf_25 : decode cX3_repeatsOf 25 = .ok (.iaload, 1) := by decide +kernel
theorem dX3_repeatsOf_26 : decode cX3_repeatsOf 26 = .ok (.ireturn, 1) := by decide +kernel
theorem dX3_repeatsOf_27 : decode cX3_repeatsOf 27 = .ok (.iinc 2 1, 3) := by decide +kernel
theorem dX3_repeatsOf_30 : decode cX3_repeatsOf 30 = .ok (.goto (-28), 3) := by decide +kernel
theorem dX3_repeatsOf_33 : decode cX3_repeatsOf 33 = .ok (.iconst 0, 1) := by decide +kernel
theorem dX3_repeatsOf_34 : decode cX3_repeatsOf 34 = .ok (.ireturn, 1) := by decide +kernel
theorem eX3_repeatsOf_0 {l0 l1 l2 : Option VV} {S : MM} : rn xX3_repeatsOf (0, [l0, l1, l2], [], S) = rn xX3_repeatsOf (1, [l0, l1, l2], [vI 0], S) := rn_step dX3_repeatsOf_0 rfl rfl
theorem eX3_repeatsOf_1 {a : Int} {w : Int} {l0 l2 : Option VV} {S : MM} : rn xX3_repeatsOf (1, [l0, some (vI w), l2], [vI a], S) = rn xX3_repeatsOf (2, [l0, some (vI w), some (vI a)], [], S) := rn_step dX3_repeatsOf_1 rfl rfl
theorem eX3_repeatsOf_2 {a : Int} {l0 l1 : Option VV} {S : MM} : rn xX3_repeatsOf (2, [l0, l1, some (vI a)], [], S) = rn xX3_repeatsOf (3, [l0, l1, some (vI a)], [vI a], S) := rn_step dX3_repeatsOf_2 rfl rfl
theorem eX3_repeatsOf_3 {a : Option Nat} {l1 l2 : Option VV} {v0 : VV} {S : MM} : rn xX3_repeatsOf (3, [some (.inr (.inl a)), l1, l2], [v0], S) = rn xX3_repeatsOf (4, [some (.inr (.inl a)), l1, l2], [.inr (.inl a), v0], S) := rn_step dX3_repeatsOf_3 rfl rfl
theorem eX3_repeatsOf_4 {i : Nat} {l0 l1 l2 : Option VV} {v1 : VV} (h : kd i = 3) {S : MM} : rn xX3_repeatsOf (4, [l0, l1, l2], [vR i, v1], S) = rn xX3_repeatsOf (7, [l0, l1, l2], [vI (S i 2), v1], S) := q_getI dX3_repeatsOf_4 rfl ⟨⟨by decide, by decide⟩, by decide⟩ h
theorem eX3_repeatsOf_7 {a b : Int} {l0 l1 l2 : Option VV} (h : -2147483648 ≤ a ∧ a ≤ 2147483647) (h1 : -2147483648 ≤ b ∧ b ≤ 2147483647) {S : MM} : rn xX3_repeatsOf (7, [l0, l1, l2], [vI b, vI a], S) = if a < b then rn xX3_repeatsOf (10, [l0, l1, l2], [], S) else rn xX3_repeatsOf (33, [l0, l1, l2], [], S) := q_icmp_ge dX3_repeatsOf_7 (by decide) rfl h h1
theorem eX3_repeatsOf_10 {a : Option Nat} {l1 l2 : Option VV} {S : MM} : rn xX3_repeatsOf (10, [some (.inr (.inl a)), l1, l2], [], S) = rn xX3_repeatsOf (11, [some (.inr (.inl a)), l1, l2], [.inr (.inl a)], S) := rn_step dX3_repeatsOf_10 rfl rfl
theorem eX3_repeatsOf_11 {i : Nat} {l0 l1 l2 : Option VV} (h : kd i = 3) {S : MM} : rn xX3_repeatsOf (11, [l0, l1, l2], [vR i], S) = rn xX3_repeatsOf (14, [l0, l1, l2], [vR (i + 1)], S) := q_getR dX3_repeatsOf_11 rfl ⟨⟨by decide, by decide⟩, by decide⟩ (fun h => (fref3 h).trans (by first | rfl | omega)) h
theorem eX3_repeatsOf_14 {a : Int} {l0 l1 : Option VV} {v0 : VV} {S : MM} : rn xX3_repeatsOf (14, [l0, l1, some (vI a)], [v0], S) = rn xX3_repeatsOf (15, [l0, l1, some (vI a)], [vI a, v0], S) := rn_step dX3_repeatsOf_14 rfl rfl
theorem eX3_repeatsOf_15 {i : Nat} {j : Int} {l0 l1 l2 : Option VV} (h : kd i = 10) (h0 : 0 ≤ j) (h1 : j < alen i) {S : MM} : rn xX3_repeatsOf (15, [l0, l1, l2], [vI j, vR i], S) = rn xX3_repeatsOf (16, [l0, l1, l2], [vI (S i j.toNat)], S) := q_iald dX3_repeatsOf_15 h h0 h1
theorem eX3_repeatsOf_15x {j : Int} {l0 l1 l2 : Option VV} {S : MM} (h0 : 0 ≤ j) (h1 : j < S 604 0) : rn xX3_repeatsOf (15, [l0, l1, l2], [vI j, vR 602], S) = rn xX3_repeatsOf (16, [l0, l1, l2], [vI (S 602 j.toNat)], S) := q_ialdX dX3_repeatsOf_15 h0 h1
theorem eX3_repeatsOf_15y {j : Int} {l0 l1 l2 : Option VV} {S : MM} (h0 : 0 ≤ j) (h1 : j < S 604 1) : rn xX3_repeatsOf (15, [l0, l1, l2], [vI j, vR 603], S) = rn xX3_repeatsOf (16, [l0, l1, l2], [vI (S 603 j.toNat)], S) := q_ialdY dX3_repeatsOf_15 h0 h1
theorem eX3_repeatsOf_16 {a : Int} {l0 l2 : Option VV} {v0 : VV} {S : MM} : rn xX3_repeatsOf (16, [l0, some (vI a), l2], [v0], S) = rn xX3_repeatsOf (17, [l0, some (vI a), l2], [vI a, v0], S) := rn_step dX3_repeatsOf_16 rfl rfl
theorem eX3_repeatsOf_17 {a b : Int} {l0 l1 l2 : Option VV} (h : -2147483648 ≤ a ∧ a ≤ 2147483647) (h1 : -2147483648 ≤ b ∧ b ≤ 2147483647) {S : MM} : rn xX3_repeatsOf (17, [l0, l1, l2], [vI b, vI a], S) = if a = b then rn xX3_repeatsOf (20, [l0, l1, l2], [], S) else rn xX3_repeatsOf (27, [l0, l1, l2], [], S) := q_icmp_ne dX3_repeatsOf_17 (by decide) rfl h h1
theorem eX3_repeatsOf_20 {a : Option Nat} {l1 l2 : Option VV} {S : MM} : rn xX3_repeatsOf (20, [some (.inr (.inl a)), l1, l2], [], S) = rn xX3_repeatsOf (21, [some (.inr (.inl a)), l1, l2], [.inr (.inl a)], S) := rn_step dX3_repeatsOf_20 rfl rfl
theorem eX3_repeatsOf_21 {i : Nat} {l0 l1 l2 : Option VV} (h : kd i = 3) {S : MM} : rn xX3_repeatsOf (21, [l0, l1, l2], [vR i], S) = rn xX3_repeatsOf (24, [l0, l1, l2], [vR (i + 2)], S) := q_getR dX3_repeatsOf_21 rfl ⟨⟨by decide, by decide⟩, by decide⟩ (fun h => (fref3 h).trans (by first | rfl | omega)) h
theorem eX3_repeatsOf_24 {a : Int} {l0 l1 : Option VV} {v0 : VV} {S : MM} : rn xX3_repeatsOf (24, [l0, l1, some (vI a)], [v0], S) = rn xX3_repeatsOf (25, [l0, l1, some (vI a)], [vI a, v0], S) := rn_step dX3_repeatsOf_24 rfl rfl
theorem eX3_repeatsOf_25 {i : Nat} {j : Int} {l0 l1 l2 : Option VV} (h : kd i = 10) (h0 : 0 ≤ j) (h1 : j < alen i) {S : MM} : rn xX3_repeatsOf (25, [l0, l1, l2], [vI j, vR i], S) = rn xX3_repeatsOf (26, [l0, l1, l2], [vI (S i j.toNat)], S) := q_iald dX3_repeatsOf_25 h h0 h1
theorem eX3_repeatsOf_25x {j : Int} {l0 l1 l2 : Option VV} {S : MM} (h0 : 0 ≤ j) (h1 : j < S 604 0) : rn xX3_repeatsOf (25, [l0, l1, l2], [vI j, vR 602], S) = rn xX3_repeatsOf (26, [l0, l1, l2], [vI (S 602 j.toNat)], S) := q_ialdX dX3_repeatsOf_25 h0 h1
theorem eX3_repeatsOf_25y {j : Int} {l0 l1 l2 : Option VV} {S : MM} (h0 : 0 ≤ j) (h1 : j < S 604 1) : rn xX3_repeatsOf (25, [l0, l1, l2], [vI j, vR 603], S) = rn xX3_repeatsOf (26, [l0, l1, l2], [vI (S 603 j.toNat)], S) := q_ialdY dX3_repeatsOf_25 h0 h1
theorem eX3_repeatsOf_26 {z : Int} {l0 l1 l2 : Option VV} {S : MM} : rn xX3_repeatsOf (26, [l0, l1, l2], [vI z], S) = some (some (vI z), S) := q_retI dX3_repeatsOf_26 rfl
theorem eX3_repeatsOf_27 {a : Int} {w : Int} {l0 : Option VV} {S : MM} : rn xX3_repeatsOf (27, [l0, some (vI w), some (vI a)], [], S) = rn xX3_repeatsOf (30, [l0, some (vI w), some (vI (a + 1))], [], S) := rn_step dX3_repeatsOf_27 rfl rfl
theorem eX3_repeatsOf_30 {l0 l1 l2 : Option VV} {S : MM} : rn xX3_repeatsOf (30, [l0, l1, l2], [], S) = rn xX3_repeatsOf (2, [l0, l1, l2], [], S) := rn_step dX3_repeatsOf_30 rfl rfl
theorem eX3_repeatsOf_33 {l0 l1 l2 : Option VV} {S : MM} : rn xX3_repeatsOf (33, [l0, l1, l2], [], S) = rn xX3_repeatsOf (34, [l0, l1, l2], [vI 0], S) := rn_step dX3_repeatsOf_33 rfl rfl
theorem eX3_repeatsOf_34 {z : Int} {l0 l1 l2 : Option VV} {S : MM} : rn xX3_repeatsOf (34, [l0, l1, l2], [vI z], S) = some (some (vI z), S) := q_retI dX3_repeatsOf_34 rfl
noncomputable def qlX5_rowsAt : List CE := [(0, 28, 3, 2, fX3_repeatsOf)]
noncomputable def xX5_rowsAt : XX := (cX5_rowsAt, fcF fcl5, mcF qlX5_rowsAt, 1)
noncomputable def fX5_rowsAt : FN := fnX xX5_rowsAt 2
set_option maxRecDepth 100000 in
theorem cwX5_rowsAt : Cond.code yX5_rowsAt cX5_rowsAt 2 (some .int) ∈ lw_g := lw_gm 484 (by decide +kernel) (by decide +kernel)
set_option maxRecDepth 100000 in
theorem conX5_rowsAt : Con yX5_rowsAt cX5_rowsAt 2 (some .int) { frames := 1, cells := 0, slots := 0, locals := 22 } fX5_rowsAt := con_of (X := xX5_rowsAt) (own := "LeapStones$River") (ql := qlX5_rowsAt) (by decide) rfl FOK5 rfl (List.forall_mem_cons.mpr ⟨call_V conX3_repeatsOf cwX3_repeatsOf (lw_gl _ [485, 355, 356, 25] (by decide +kernel) (by decide +kernel)) (by decide) rfl ⟨by decide, by decide, by decide +kernel⟩ ⟨rfl, rfl⟩ ⟨by decide, by decide⟩ ⟨Nat.le_refl _, Nat.le_refl _⟩, fun _ h => absurd h List.not_mem_nil⟩) (Or.inr (Or.inl ⟨rfl, rfl⟩))
theorem uX5_rowsAt {i : Nat} {a0 : Int} {S : MM} : fX5_rowsAt [vR i, vI a0] S = rn xX5_rowsAt (0, [some (vR i), some (vI a0)], [], S) := rfl
theorem dX5_rowsAt_0 : decode cX5_rowsAt 0 = .ok (.aload_n 0, 1) := by decide +kernel
theorem dX5_rowsAt_1 : decode cX5_rowsAt 1 = .ok (.getfield 12, 3) := by decide +kernel
theorem dX5_rowsAt_4 : decode cX5_rowsAt 4 = .ok (.iload_n 1, 1) := by decide +kernel
theorem dX5_rowsAt_5 : decode cX5_rowsAt 5 = .ok (.invokevirtual 28, 3) := by decide +kernel
theorem dX5_rowsAt_8 : decode cX5_rowsAt 8 = .ok (.aload_n 0, 1) := by decide +kernel
theorem dX5_rowsAt_9 : decode cX5_rowsAt 9 = .ok (.getfield 18, 3) := by decide +kernel
theorem dX5_rowsAt_12 : decode cX5_rowsAt 12 = .ok (.iload_n 1, 1) := by decide +kernel
theorem dX5_rowsAt_13 : decode cX5_rowsAt 13 = .ok (.invokevirtual 28, 3) := by decide +kernel
theorem dX5_rowsAt_16 : decode cX5_rowsAt 16 = .ok (.imul, 1) := by decide +kernel
theorem dX5_rowsAt_17 : decode cX5_rowsAt 17 = .ok (.aload_n 0, 1) := by decide +kernel
theorem dX5_rowsAt_18 : decode cX5_rowsAt 18 = .ok (.getfield 21, 3) := by decide +kernel
theorem dX5_rowsAt_21 : decode cX5_rowsAt 21 = .ok (.iload_n 1, 1) := by decide +kernel
theorem dX5_rowsAt_22 : decode cX5_rowsAt 22 = .ok (.invokevirtual 28, 3) := by decide +kernel
theorem dX5_rowsAt_25 : decode cX5_rowsAt 25 = .ok (.imul, 1) := by decide +kernel
theorem dX5_rowsAt_26 : decode cX5_rowsAt 26 = .ok (.ireturn, 1) := by decide +kernel
theorem eX5_rowsAt_0 {a : Option Nat} {l1 : Option VV} {S : MM} : rn xX5_rowsAt (0, [some (.inr (.inl a)), l1], [], S) = rn xX5_rowsAt (1, [some (.inr (.inl a)), l1], [.inr (.inl a)], S) := rn_step dX5_rowsAt_0 rfl rfl
theorem eX5_rowsAt_1 {i : Nat} {l0 l1 : Option VV} (h : kd i = 5) {S : MM} : rn xX5_rowsAt (1, [l0, l1], [vR i], S) = rn xX5_rowsAt (4, [l0, l1], [vR (i + 1)], S) := q_getR dX5_rowsAt_1 rfl ⟨⟨by decide, by decide⟩, by decide⟩ (fun h => (fref5 h).trans (by first | rfl | omega)) h
theorem eX5_rowsAt_4 {a : Int} {l0 : Option VV} {v0 : VV} {S : MM} : rn xX5_rowsAt (4, [l0, some (vI a)], [v0], S) = rn xX5_rowsAt (5, [l0, some (vI a)], [vI a, v0], S) := rn_step dX5_rowsAt_4 rfl rfl
theorem eX5_rowsAt_5 {a0 : Int} {i : Nat} {l0 l1 : Option VV} (h : kd i = 3) {S : MM} : rn xX5_rowsAt (5, [l0, l1], [vI a0, vR i], S) = (fX3_repeatsOf [vR i, vI a0] S).bind (fun q => rn xX5_rowsAt (8, [l0, l1], q.1.toList ++ [], q.2)) := q_callV (n := 1) (as := [vI a0]) (rest := []) dX5_rowsAt_5 rfl rfl rfl rfl h
theorem eX5_rowsAt_8 {a : Option Nat} {l1 : Option VV} {v0 : VV} {S : MM} : rn xX5_rowsAt (8, [some (.inr (.inl a)), l1], [v0], S) = rn xX5_rowsAt (9, [some (.inr (.inl a)), l1], [.inr (.inl a), v0], S) := rn_step dX5_rowsAt_8 rfl rfl
theorem eX5_rowsAt_9 {i : Nat} {l0 l1 : Option VV} {v1 : VV} (h : kd i = 5) {S : MM} : rn xX5_rowsAt (9, [l0, l1], [vR i, v1], S) = rn xX5_rowsAt (12, [l0, l1], [vR (i + 4), v1], S) := q_getR dX5_rowsAt_9 rfl ⟨⟨by decide, by decide⟩, by decide⟩ (fun h => (fref5 h).trans (by first | rfl | omega)) h
theorem eX5_rowsAt_12 {a : Int} {l0 : Option VV} {v0 v1 : VV} {S : MM} : rn xX5_rowsAt (12, [l0, some (vI a)], [v0, v1], S) = rn xX5_rowsAt (13, [l0, some (vI a)], [vI a, v0, v1], S) := rn_step dX5_rowsAt_12 rfl rfl
theorem eX5_rowsAt_13 {a0 : Int} {i : Nat} {l0 l1 : Option VV} {v2 : VV} (h : kd i = 3) {S : MM} : rn xX5_rowsAt (13, [l0, l1], [vI a0, vR i, v2], S) = (fX3_repeatsOf [vR i, vI a0] S).bind (fun q => rn xX5_rowsAt (16, [l0, l1], q.1.toList ++ [v2], q.2)) := q_callV (n := 1) (as := [vI a0]) (rest := [v2]) dX5_rowsAt_13 rfl rfl rfl rfl h
theorem eX5_rowsAt_16 {a b : Int} {l0 l1 : Option VV} {S : MM} : rn xX5_rowsAt (16, [l0, l1], [vI b, vI a], S) = rn xX5_rowsAt (17, [l0, l1], [vI (a * b)], S) := rn_step dX5_rowsAt_16 rfl rfl
theorem eX5_rowsAt_17 {a : Option Nat} {l1 : Option VV} {v0 : VV} {S : MM} : rn xX5_rowsAt (17, [some (.inr (.inl a)), l1], [v0], S) = rn xX5_rowsAt (18, [some (.inr (.inl a)), l1], [.inr (.inl a), v0], S) := rn_step dX5_rowsAt_17 rfl rfl
theorem eX5_rowsAt_18 {i : Nat} {l0 l1 : Option VV} {v1 : VV} (h : kd i = 5) {S : MM} : rn xX5_rowsAt (18, [l0, l1], [vR i, v1], S) = rn xX5_rowsAt (21, [l0, l1], [vR (i + 7), v1], S) := q_getR dX5_rowsAt_18 rfl ⟨⟨by decide, by decide⟩, by decide⟩ (fun h => (fref5 h).trans (by first | rfl | omega)) h
theorem eX5_rowsAt_21 {a : Int} {l0 : Option VV} {v0 v1 : VV} {S : MM} : rn xX5_rowsAt (21, [l0, some (vI a)], [v0, v1], S) = rn xX5_rowsAt (22, [l0, some (vI a)], [vI a, v0, v1], S) := rn_step dX5_rowsAt_21 rfl rfl
theorem eX5_rowsAt_22 {a0 : Int} {i : Nat} {l0 l1 : Option VV} {v2 : VV} (h : kd i = 3) {S : MM} : rn xX5_rowsAt (22, [l0, l1], [vI a0, vR i, v2], S) = (fX3_repeatsOf [vR i, vI a0] S).bind (fun q => rn xX5_rowsAt (25, [l0, l1], q.1.toList ++ [v2], q.2)) := q_callV (n := 1) (as := [vI a0]) (rest := [v2]) dX5_rowsAt_22 rfl rfl rfl rfl h
theorem eX5_rowsAt_25 {a b : Int} {l0 l1 : Option VV} {S : MM} : rn xX5_rowsAt (25, [l0, l1], [vI b, vI a], S) = rn xX5_rowsAt (26, [l0, l1], [vI (a * b)], S) := rn_step dX5_rowsAt_25 rfl rfl
theorem eX5_rowsAt_26 {z : Int} {l0 l1 : Option VV} {S : MM} : rn xX5_rowsAt (26, [l0, l1], [vI z], S) = some (some (vI z), S) := q_retI dX5_rowsAt_26 rfl
noncomputable def qlX0_meet : List CE := []
noncomputable def xX0_meet : XX := (cX0_meet, fcF fcl0, mcF qlX0_meet, 0)
noncomputable def fX0_meet : FN := fnX xX0_meet 3
set_option maxRecDepth 100000 in
theorem cwX0_meet : Cond.code yX0_meet cX0_meet 3 none ∈ lw_g := lw_gm 489 (by decide +kernel) (by decide +kernel)
set_option maxRecDepth 100000 in
theorem conX0_meet : Con yX0_meet cX0_meet 3 none { frames := 0, cells := 0, slots := 0, locals := 0 } fX0_meet := con_of (X := xX0_meet) (own := "LeapStones$Crossing") (ql := qlX0_meet) (by decide) rfl FOK0 rfl (fun _ h => absurd h List.not_mem_nil) (Or.inl ⟨rfl, rfl⟩)
theorem uX0_meet {i : Nat} {a0 : Int} {a1 : Int} {S : MM} : fX0_meet [vR i, vI a0, vI a1] S = rn xX0_meet (0, [some (vR i), some (vI a0), some (vI a1)], [], S) := rfl
theorem dX0_meet_0 : decode cX0_meet 0 = .ok (.aload_n 0, 1) := by decide +kernel
theorem dX0_meet_1 : decode cX0_meet 1 = .ok (.getfield 44, 3) := by decide +kernel
theorem dX0_meet_4 : decode cX0_meet 4 = .ok (.sipush 300, 3) := by decide +kernel
theorem dX0_meet_7 : decode cX0_meet 7 = .ok (.if_icmp .ge 33, 3) := by decide +kernel
theorem dX0_meet_10 : decode cX0_meet 10 = .ok (.aload_n 0, 1) := by decide +kernel
theorem dX0_meet_11 : decode cX0_meet 11 = .ok (.getfield 9, 3) := by decide +kernel
theorem dX0_meet_14 : decode cX0_meet 14 = .ok (.aload_n 0, 1) := by decide +kernel
theorem dX0_meet_15 : decode cX0_meet 15 = .ok (.getfield 44, 3) := by decide +kernel
theorem dX0_meet_18 : decode cX0_meet 18 = .ok (.iload_n 1, 1) := by decide +kernel
theorem dX0_meet_19 : decode cX0_meet 19 = .ok (.iastore, 1) := by decide +kernel
theorem dX0_meet_20 : decode cX0_meet 20 = .ok (.aload_n 0, 1) := by decide +kernel
theorem dX0_meet_21 : decode cX0_meet 21 = .ok (.getfield 15, 3) := by decide +kernel
theorem dX0_meet_24 : decode cX0_meet 24 = .ok (.aload_n 0, 1) := by decide +kernel
theorem dX0_meet_25 : decode cX0_meet 25 = .ok (.getfield 44, 3) := by decide +kernel
theorem dX0_meet_28 : decode cX0_meet 28 = .ok (.iload_n 2, 1) := by decide +kernel
theorem dX0_meet_29 : decode cX0_meet 29 = .ok (.iastore, 1) := by decide +kernel
theorem dX0_meet_30 : decode cX0_meet 30 = .ok (.aload_n 0, 1) := by decide +kernel
theorem dX0_meet_31 : decode cX0_meet 31 = .ok (.dup, 1) := by decide +kernel
theorem dX0_meet_32 : decode cX0_meet 32 = .ok (.getfield 44, 3) := by decide +kernel
theorem dX0_meet_35 : decode cX0_meet 35 = .ok (.iconst 1, 1) := by decide +kernel
theorem dX0_meet_36 : decode cX0_meet 36 = .ok (.iadd, 1) := by decide +kernel
theorem dX0_meet_37 : decode cX0_meet 37 = .ok (.putfield 44, 3) := by decide +kernel
theorem dX0_meet_40 : decode cX0_meet 40 = .ok (.return_, 1) := by decide +kernel
theorem eX0_meet_0 {a : Option Nat} {l1 l2 : Option VV} {S : MM} : rn xX0_meet (0, [some (.inr (.inl a)), l1, l2], [], S) = rn xX0_meet (1, [some (.inr (.inl a)), l1, l2], [.inr (.inl a)], S) := rn_step dX0_meet_0 rfl rfl
theorem eX0_meet_1 {i : Nat} {l0 l1 l2 : Option VV} (h : kd i = 0) {S : MM} : rn xX0_meet (1, [l0, l1, l2], [vR i], S) = rn xX0_meet (4, [l0, l1, l2], [vI (S i 4)], S) := q_getI dX0_meet_1 rfl ⟨⟨by decide, by decide⟩, by decide⟩ h
theorem eX0_meet_4 {l0 l1 l2 : Option VV} {v0 : VV} {S : MM} : rn xX0_meet (4, [l0, l1, l2], [v0], S) = rn xX0_meet (7, [l0, l1, l2], [vI 300, v0], S) := rn_step dX0_meet_4 rfl rfl
theorem eX0_meet_7 {a b : Int} {l0 l1 l2 : Option VV} (h : -2147483648 ≤ a ∧ a ≤ 2147483647) (h1 : -2147483648 ≤ b ∧ b ≤ 2147483647) {S : MM} : rn xX0_meet (7, [l0, l1, l2], [vI b, vI a], S) = if a < b then rn xX0_meet (10, [l0, l1, l2], [], S) else rn xX0_meet (40, [l0, l1, l2], [], S) := q_icmp_ge dX0_meet_7 (by decide) rfl h h1
theorem eX0_meet_10 {a : Option Nat} {l1 l2 : Option VV} {S : MM} : rn xX0_meet (10, [some (.inr (.inl a)), l1, l2], [], S) = rn xX0_meet (11, [some (.inr (.inl a)), l1, l2], [.inr (.inl a)], S) := rn_step dX0_meet_10 rfl rfl
theorem eX0_meet_11 {i : Nat} {l0 l1 l2 : Option VV} (h : kd i = 0) {S : MM} : rn xX0_meet (11, [l0, l1, l2], [vR i], S) = rn xX0_meet (14, [l0, l1, l2], [vR (i + 1)], S) := q_getR dX0_meet_11 rfl ⟨⟨by decide, by decide⟩, by decide⟩ (fun h => (fref0 h).trans (by first | rfl | omega)) h
theorem eX0_meet_14 {a : Option Nat} {l1 l2 : Option VV} {v0 : VV} {S : MM} : rn xX0_meet (14, [some (.inr (.inl a)), l1, l2], [v0], S) = rn xX0_meet (15, [some (.inr (.inl a)), l1, l2], [.inr (.inl a), v0], S) := rn_step dX0_meet_14 rfl rfl
theorem eX0_meet_15 {i : Nat} {l0 l1 l2 : Option VV} {v1 : VV} (h : kd i = 0) {S : MM} : rn xX0_meet (15, [l0, l1, l2], [vR i, v1], S) = rn xX0_meet (18, [l0, l1, l2], [vI (S i 4), v1], S) := q_getI dX0_meet_15 rfl ⟨⟨by decide, by decide⟩, by decide⟩ h
theorem eX0_meet_18 {a : Int} {l0 l2 : Option VV} {v0 v1 : VV} {S : MM} : rn xX0_meet (18, [l0, some (vI a), l2], [v0, v1], S) = rn xX0_meet (19, [l0, some (vI a), l2], [vI a, v0, v1], S) := rn_step dX0_meet_18 rfl rfl
theorem eX0_meet_19 {i : Nat} {j z : Int} {l0 l1 l2 : Option VV} (h : kd i = 10) (h0 : 0 ≤ j) (h1 : j < alen i) {S : MM} : rn xX0_meet (19, [l0, l1, l2], [vI z, vI j, vR i], S) = rn xX0_meet (20, [l0, l1, l2], [], updM S i j.toNat z) := q_iast dX0_meet_19 h h0 h1
theorem eX0_meet_20 {a : Option Nat} {l1 l2 : Option VV} {S : MM} : rn xX0_meet (20, [some (.inr (.inl a)), l1, l2], [], S) = rn xX0_meet (21, [some (.inr (.inl a)), l1, l2], [.inr (.inl a)], S) := rn_step dX0_meet_20 rfl rfl
theorem eX0_meet_21 {i : Nat} {l0 l1 l2 : Option VV} (h : kd i = 0) {S : MM} : rn xX0_meet (21, [l0, l1, l2], [vR i], S) = rn xX0_meet (24, [l0, l1, l2], [vR (i + 2)], S) := q_getR dX0_meet_21 rfl ⟨⟨by decide, by decide⟩, by decide⟩ (fun h => (fref0 h).trans (by first | rfl | omega)) h
theorem eX0_meet_24 {a : Option Nat} {l1 l2 : Option VV} {v0 : VV} {S : MM} : rn xX0_meet (24, [some (.inr (.inl a)), l1, l2], [v0], S) = rn xX0_meet (25, [some (.inr (.inl a)), l1, l2], [.inr (.inl a), v0], S) := rn_step dX0_meet_24 rfl rfl
theorem eX0_meet_25 {i : Nat} {l0 l1 l2 : Option VV} {v1 : VV} (h : kd i = 0) {S : MM} : rn xX0_meet (25, [l0, l1, l2], [vR i, v1], S) = rn xX0_meet (28, [l0, l1, l2], [vI (S i 4), v1], S) := q_getI dX0_meet_25 rfl ⟨⟨by decide, by decide⟩, by decide⟩ h
theorem eX0_meet_28 {a : Int} {l0 l1 : Option VV} {v0 v1 : VV} {S : MM} : rn xX0_meet (28, [l0, l1, some (vI a)], [v0, v1], S) = rn xX0_meet (29, [l0, l1, some (vI a)], [vI a, v0, v1], S) := rn_step dX0_meet_28 rfl rfl
theorem eX0_meet_29 {i : Nat} {j z : Int} {l0 l1 l2 : Option VV} (h : kd i = 10) (h0 : 0 ≤ j) (h1 : j < alen i) {S : MM} : rn xX0_meet (29, [l0, l1, l2], [vI z, vI j, vR i], S) = rn xX0_meet (30, [l0, l1, l2], [], updM S i j.toNat z) := q_iast dX0_meet_29 h h0 h1
theorem eX0_meet_30 {a : Option Nat} {l1 l2 : Option VV} {S : MM} : rn xX0_meet (30, [some (.inr (.inl a)), l1, l2], [], S) = rn xX0_meet (31, [some (.inr (.inl a)), l1, l2], [.inr (.inl a)], S) := rn_step dX0_meet_30 rfl rfl
theorem eX0_meet_31 {a : Option Nat} {l0 l1 l2 : Option VV} {S : MM} : rn xX0_meet (31, [l0, l1, l2], [.inr (.inl a)], S) = rn xX0_meet (32, [l0, l1, l2], [.inr (.inl a), .inr (.inl a)], S) := rn_step dX0_meet_31 rfl rfl
theorem eX0_meet_32 {i : Nat} {l0 l1 l2 : Option VV} {v1 : VV} (h : kd i = 0) {S : MM} : rn xX0_meet (32, [l0, l1, l2], [vR i, v1], S) = rn xX0_meet (35, [l0, l1, l2], [vI (S i 4), v1], S) := q_getI dX0_meet_32 rfl ⟨⟨by decide, by decide⟩, by decide⟩ h
theorem eX0_meet_35 {l0 l1 l2 : Option VV} {v0 v1 : VV} {S : MM} : rn xX0_meet (35, [l0, l1, l2], [v0, v1], S) = rn xX0_meet (36, [l0, l1, l2], [vI 1, v0, v1], S) := rn_step dX0_meet_35 rfl rfl
theorem eX0_meet_36 {a b : Int} {l0 l1 l2 : Option VV} {v2 : VV} {S : MM} : rn xX0_meet (36, [l0, l1, l2], [vI b, vI a, v2], S) = rn xX0_meet (37, [l0, l1, l2], [vI (a + b), v2], S) := rn_step dX0_meet_36 rfl rfl
theorem eX0_meet_37 {z : Int} {i : Nat} {l0 l1 l2 : Option VV} (h : kd i = 0) {S : MM} : rn xX0_meet (37, [l0, l1, l2], [vI z, vR i], S) = rn xX0_meet (40, [l0, l1, l2], [], updM S i 4 z) := q_put dX0_meet_37 rfl ⟨by decide, by decide⟩ rfl h
theorem eX0_meet_40 {l0 l1 l2 : Option VV} {S : MM} : rn xX0_meet (40, [l0, l1, l2], [], S) = some (none, S) := q_retV dX0_meet_40 rfl
noncomputable def qlX0_lookRound : List CE := [(0, 116, 0, 2, fX0_endAbove), (0, 105, 0, 1, fX0_goesOn), (0, 120, 5, 2, fX5_rowsAt), (0, 123, 0, 3, fX0_meet), (0, 127, 0, 1, fX0_highestKey), (1, 97, 0, 2, f_max)]
noncomputable def xX0_lookRound : XX := (cX0_lookRound, fcF fcl0, mcF qlX0_lookRound, 0)
noncomputable def fX0_lookRound : FN := fnX xX0_lookRound 4
set_option maxRecDepth 100000 in
theorem cwX0_lookRound : Cond.code yX0_lookRound cX0_lookRound 4 none ∈ lw_g := lw_gm 475 (by decide +kernel) (by decide +kernel)
set_option maxRecDepth 100000 in
theorem conX0_lookRound : Con yX0_lookRound cX0_lookRound 4 none { frames := 3, cells := 0, slots := 0, locals := 62 } fX0_lookRound := con_of (X := xX0_lookRound) (own := "LeapStones$Crossing") (ql := qlX0_lookRound) (by decide) rfl FOK0 rfl (List.forall_mem_cons.mpr ⟨call_V conX0_endAbove cwX0_endAbove (lw_gl _ [476, 324, 325, 28] (by decide +kernel) (by decide +kernel)) (by decide) rfl ⟨by decide, by decide, by decide +kernel⟩ ⟨rfl, rfl⟩ ⟨by decide, by decide⟩ ⟨Nat.le_refl _, Nat.le_refl _⟩, List.forall_mem_cons.mpr ⟨call_V conX0_goesOn cwX0_goesOn (lw_gl _ [477, 478, 479, 28] (by decide +kernel) (by decide +kernel)) (by decide) rfl ⟨by decide, by decide, by decide +kernel⟩ ⟨rfl, rfl⟩ ⟨by decide, by decide⟩ ⟨Nat.le_refl _, Nat.le_refl _⟩, List.forall_mem_cons.mpr ⟨call_V conX5_rowsAt cwX5_rowsAt (lw_gl _ [481, 482, 483, 24] (by decide +kernel) (by decide +kernel)) (by decide) rfl ⟨by decide, by decide, by decide +kernel⟩ ⟨rfl, rfl⟩ ⟨by decide, by decide⟩ ⟨Nat.le_refl _, Nat.le_refl _⟩, List.forall_mem_cons.mpr ⟨call_V conX0_meet cwX0_meet (lw_gl _ [486, 488, 3, 28] (by decide +kernel) (by decide +kernel)) (by decide) rfl ⟨by decide, by decide, by decide +kernel⟩ ⟨rfl, rfl⟩ ⟨by decide, by decide⟩ ⟨Nat.le_refl _, Nat.le_refl _⟩, List.forall_mem_cons.mpr ⟨call_V conX0_highestKey cwX0_highestKey (lw_gl _ [327, 329, 2, 28] (by decide +kernel) (by decide +kernel)) (by decide) rfl ⟨by decide, by decide, by decide +kernel⟩ ⟨rfl, rfl⟩ ⟨by decide, by decide⟩ ⟨Nat.le_refl _, Nat.le_refl _⟩, List.forall_mem_cons.mpr ⟨call_max (lw_gl _ [331, 332, 30, 333] (by decide +kernel) (by decide +kernel)) ⟨by decide, by decide⟩ ⟨Nat.le_refl _, Nat.le_refl _⟩, fun _ h => absurd h List.not_mem_nil⟩⟩⟩⟩⟩⟩) (Or.inl ⟨rfl, rfl⟩)
theorem uX0_lookRound {i : Nat} {a0 : Option Nat} {a1 : Int} {S : MM} : fX0_lookRound [vR i, .inr (.inl a0), vI a1] S = rn xX0_lookRound (0, [some (vR i), some (.inr (.inl a0)), some (vI a1), none], [], S) := rfl
theorem dX0_lookRound_0 : decode cX0_lookRound 0 = .ok (.aload_n 0, 1) := by decide +kernel
theorem dX0_lookRound_1 : decode cX0_lookRound 1 = .ok (.iload_n 2, 1) := by decide +kernel
theorem dX0_lookRound_2 : decode cX0_lookRound 2 = .ok (.invokevirtual 116, 3) := by decide +kernel
theorem dX0_lookRound_5 : decode cX0_lookRound 5 = .ok (.aload_n 0, 1) := by decide +kernel
theorem dX0_lookRound_6 : decode cX0_lookRound 6 = .ok (.invokevirtual 105, 3) := by decide +kernel
theorem dX0_lookRound_9 : decode cX0_lookRound 9 = .ok (.ifCond .ne 4, 3) := by decide +kernel
theorem dX0_lookRound_12 : decode cX0_lookRound 12 = .ok (.return_, 1) := by decide +kernel
theorem dX0_lookRound_13 : decode cX0_lookRound 13 = .ok (.aload_n 0, 1) := by decide +kernel
theorem dX0_lookRound_14 : decode cX0_lookRound 14 = .ok (.getfield 18, 3) := by decide +kernel
theorem dX0_lookRound_17 : decode cX0_lookRound 17 = .ok (.iconst 0, 1) := by decide +kernel
theorem dX0_lookRound_18 : decode cX0_lookRound 18 = .ok (.iaload, 1) := by decide +kernel
theorem dX0_lookRound_19 : decode cX0_lookRound 19 = .ok (.istore_n 3, 1) := by decide +kernel
theorem dX0_lookRound_20 : decode cX0_lookRound 20 = .ok (.iload_n 3, 1) := by decide +kernel
theorem dX0_lookRound_21 : decode cX0_lookRound 21 = .ok (.aload_n 0, 1) := by decide +kernel
theorem dX0_lookRound_22 : decode cX0_lookRound 22 = .ok (.getfield 18, 3) := by decide +kernel
theorem dX0_lookRound_25 : decode cX0_lookRound 25 = .ok (.iconst 1, 1) := by decide +kernel
theorem dX0_lookRound_26 : decode cX0_lookRound 26 = .ok (.iaload, 1) := by decide +kernel
theorem dX0_lookRound_27 : decode cX0_lookRound 27 = .ok (.if_icmp .ne 41, 3) := by decide +kernel
theorem dX0_lookRound_30 : decode cX0_lookRound 30 = .ok (.iload_n 3, 1) := by decide +kernel
theorem dX0_lookRound_31 : decode cX0_lookRound 31 = .ok (.aload_n 0, 1) := by decide +kernel
theorem dX0_lookRound_32 : decode cX0_lookRound 32 = .ok (.getfield 18, 3) := by decide +kernel
theorem dX0_lookRound_35 : decode cX0_lookRound 35 = .ok (.iconst 2, 1) := by decide +kernel
theorem dX0_lookRound_36 : decode cX0_lookRound 36 = .ok (.iaload, 1) := by decide +kernel
theorem dX0_lookRound_37 : decode cX0_lookRound 37 = .ok (.if_icmp .ne 31, 3) := by decide +kernel
theorem dX0_lookRound_40 : decode cX0_lookRound 40 = .ok (.iload_n 3, 1) := by decide +kernel
theorem dX0_lookRound_41 : decode cX0_lookRound 41 = .ok (.aload_n 0, 1) := by decide +kernel
theorem dX0_lookRound_42 : decode cX0_lookRound 42 = .ok (.getfield 62, 3) := by decide +kernel
theorem dX0_lookRound_45 : decode cX0_lookRound 45 = .ok (.if_icmp .lt 23, 3) := by decide +kernel
theorem dX0_lookRound_48 : decode cX0_lookRound 48 = .ok (.aload_n 0, 1) := by decide +kernel
theorem dX0_lookRound_49 : decode cX0_lookRound 49 = .ok (.iload_n 3, 1) := by decide +kernel
theorem dX0_lookRound_50 : decode cX0_lookRound 50 = .ok (.aload_n 1, 1) := by decide +kernel
theorem dX0_lookRound_51 : decode cX0_lookRound 51 = .ok (.iload_n 3, 1) := by decide +kernel
theorem dX0_lookRound_52 : decode cX0_lookRound 52 = .ok (.invokevirtual 120, 3) := by decide +kernel
theorem dX0_lookRound_55 : decode cX0_lookRound 55 = .ok (.invokevirtual 123, 3) := by decide +kernel
theorem dX0_lookRound_58 : decode cX0_lookRound 58 = .ok (.aload_n 0, 1) := by decide +kernel
theorem dX0_lookRound_59 : decode cX0_lookRound 59 = .ok (.iload_n 3, 1) := by decide +kernel
theorem dX0_lookRound_60 : decode cX0_lookRound 60 = .ok (.iconst 1, 1) := by decide +kernel
theorem dX0_lookRound_61 : decode cX0_lookRound 61 = .ok (.iadd, 1) := by decide +kernel
theorem dX0_lookRound_62 : decode cX0_lookRound 62 = .ok (.putfield 62, 3) := by decide +kernel
theorem dX0_lookRound_65 : decode cX0_lookRound 65 = .ok (.goto 18, 3) := by decide +kernel
theorem dX0_lookRound_68 : decode cX0_lookRound 68 = .ok (.aload_n 0, 1) := by decide +kernel
theorem dX0_lookRound_69 : decode cX0_lookRound 69 = .ok (.aload_n 0, 1) := by decide +kernel
theorem dX0_lookRound_70 : decode cX0_lookRound 70 = .ok (.getfield 62, 3) := by decide +kernel
theorem dX0_lookRound_73 : decode cX0_lookRound 73 = .ok (.aload_n 0, 1) := by decide +kernel
theorem dX0_lookRound_74 : decode cX0_lookRound 74 = .ok (.invokevirtual 127, 3) := by decide +kernel
theorem dX0_lookRound_77 : decode cX0_lookRound 77 = .ok (.invokestatic 97, 3) := by decide +kernel
theorem dX0_lookRound_80 : decode cX0_lookRound 80 = .ok (.putfield 62, 3) := by decide +kernel
theorem dX0_lookRound_83 : decode cX0_lookRound 83 = .ok (.return_, 1) := by decide +kernel
theorem eX0_lookRound_0 {a : Option Nat} {l1 l2 l3 : Option VV} {S : MM} : rn xX0_lookRound (0, [some (.inr (.inl a)), l1, l2, l3], [], S) = rn xX0_lookRound (1, [some (.inr (.inl a)), l1, l2, l3], [.inr (.inl a)], S) := rn_step dX0_lookRound_0 rfl rfl
theorem eX0_lookRound_1 {a : Int} {l0 l1 l3 : Option VV} {v0 : VV} {S : MM} : rn xX0_lookRound (1, [l0, l1, some (vI a), l3], [v0], S) = rn xX0_lookRound (2, [l0, l1, some (vI a), l3], [vI a, v0], S) := rn_step dX0_lookRound_1 rfl rfl
theorem eX0_lookRound_2 {a0 : Int} {i : Nat} {l0 l1 l2 l3 : Option VV} (h : kd i = 0) {S : MM} : rn xX0_lookRound (2, [l0, l1, l2, l3], [vI a0, vR i], S) = (fX0_endAbove [vR i, vI a0] S).bind (fun q => rn xX0_lookRound (5, [l0, l1, l2, l3], q.1.toList ++ [], q.2)) := q_callV (n := 1) (as := [vI a0]) (rest := []) dX0_lookRound_2 rfl rfl rfl rfl h
theorem eX0_lookRound_5 {a : Option Nat} {l1 l2 l3 : Option VV} {S : MM} : rn xX0_lookRound (5, [some (.inr (.inl a)), l1, l2, l3], [], S) = rn xX0_lookRound (6, [some (.inr (.inl a)), l1, l2, l3], [.inr (.inl a)], S) := rn_step dX0_lookRound_5 rfl rfl
theorem eX0_lookRound_6 {i : Nat} {l0 l1 l2 l3 : Option VV} (h : kd i = 0) {S : MM} : rn xX0_lookRound (6, [l0, l1, l2, l3], [vR i], S) = (fX0_goesOn [vR i] S).bind (fun q => rn xX0_lookRound (9, [l0, l1, l2, l3], q.1.toList ++ [], q.2)) := q_callV (n := 0) (as := []) (rest := []) dX0_lookRound_6 rfl rfl rfl rfl h
theorem eX0_lookRound_9 {a : Int} {l0 l1 l2 l3 : Option VV} (h : -2147483648 ≤ a ∧ a ≤ 2147483647) {S : MM} : rn xX0_lookRound (9, [l0, l1, l2, l3], [vI a], S) = if a = 0 then rn xX0_lookRound (12, [l0, l1, l2, l3], [], S) else rn xX0_lookRound (13, [l0, l1, l2, l3], [], S) := q_if_ne dX0_lookRound_9 (by decide) rfl h
theorem eX0_lookRound_12 {l0 l1 l2 l3 : Option VV} {S : MM} : rn xX0_lookRound (12, [l0, l1, l2, l3], [], S) = some (none, S) := q_retV dX0_lookRound_12 rfl
theorem eX0_lookRound_13 {a : Option Nat} {l1 l2 l3 : Option VV} {S : MM} : rn xX0_lookRound (13, [some (.inr (.inl a)), l1, l2, l3], [], S) = rn xX0_lookRound (14, [some (.inr (.inl a)), l1, l2, l3], [.inr (.inl a)], S) := rn_step dX0_lookRound_13 rfl rfl
theorem eX0_lookRound_14 {i : Nat} {l0 l1 l2 l3 : Option VV} (h : kd i = 0) {S : MM} : rn xX0_lookRound (14, [l0, l1, l2, l3], [vR i], S) = rn xX0_lookRound (17, [l0, l1, l2, l3], [vR (i + 3)], S) := q_getR dX0_lookRound_14 rfl ⟨⟨by decide, by decide⟩, by decide⟩ (fun h => (fref0 h).trans (by first | rfl | omega)) h
theorem eX0_lookRound_17 {l0 l1 l2 l3 : Option VV} {v0 : VV} {S : MM} : rn xX0_lookRound (17, [l0, l1, l2, l3], [v0], S) = rn xX0_lookRound (18, [l0, l1, l2, l3], [vI 0, v0], S) := rn_step dX0_lookRound_17 rfl rfl
theorem eX0_lookRound_18 {i : Nat} {j : Int} {l0 l1 l2 l3 : Option VV} (h : kd i = 10) (h0 : 0 ≤ j) (h1 : j < alen i) {S : MM} : rn xX0_lookRound (18, [l0, l1, l2, l3], [vI j, vR i], S) = rn xX0_lookRound (19, [l0, l1, l2, l3], [vI (S i j.toNat)], S) := q_iald dX0_lookRound_18 h h0 h1
theorem eX0_lookRound_18x {j : Int} {l0 l1 l2 l3 : Option VV} {S : MM} (h0 : 0 ≤ j) (h1 : j < S 604 0) : rn xX0_lookRound (18, [l0, l1, l2, l3], [vI j, vR 602], S) = rn xX0_lookRound (19, [l0, l1, l2, l3], [vI (S 602 j.toNat)], S) := q_ialdX dX0_lookRound_18 h0 h1
theorem eX0_lookRound_18y {j : Int} {l0 l1 l2 l3 : Option VV} {S : MM} (h0 : 0 ≤ j) (h1 : j < S 604 1) : rn xX0_lookRound (18, [l0, l1, l2, l3], [vI j, vR 603], S) = rn xX0_lookRound (19, [l0, l1, l2, l3], [vI (S 603 j.toNat)], S) := q_ialdY dX0_lookRound_18 h0 h1
theorem eX0_lookRound_19 {a : Int} {w : Int} {l0 l1 l3 : Option VV} {S : MM} : rn xX0_lookRound (19, [l0, l1, some (vI w), l3], [vI a], S) = rn xX0_lookRound (20, [l0, l1, some (vI w), some (vI a)], [], S) := rn_step dX0_lookRound_19 rfl rfl
theorem eX0_lookRound_20 {a : Int} {l0 l1 l2 : Option VV} {S : MM} : rn xX0_lookRound (20, [l0, l1, l2, some (vI a)], [], S) = rn xX0_lookRound (21, [l0, l1, l2, some (vI a)], [vI a], S) := rn_step dX0_lookRound_20 rfl rfl
theorem eX0_lookRound_21 {a : Option Nat} {l1 l2 l3 : Option VV} {v0 : VV} {S : MM} : rn xX0_lookRound (21, [some (.inr (.inl a)), l1, l2, l3], [v0], S) = rn xX0_lookRound (22, [some (.inr (.inl a)), l1, l2, l3], [.inr (.inl a), v0], S) := rn_step dX0_lookRound_21 rfl rfl
theorem eX0_lookRound_22 {i : Nat} {l0 l1 l2 l3 : Option VV} {v1 : VV} (h : kd i = 0) {S : MM} : rn xX0_lookRound (22, [l0, l1, l2, l3], [vR i, v1], S) = rn xX0_lookRound (25, [l0, l1, l2, l3], [vR (i + 3), v1], S) := q_getR dX0_lookRound_22 rfl ⟨⟨by decide, by decide⟩, by decide⟩ (fun h => (fref0 h).trans (by first | rfl | omega)) h
theorem eX0_lookRound_25 {l0 l1 l2 l3 : Option VV} {v0 v1 : VV} {S : MM} : rn xX0_lookRound (25, [l0, l1, l2, l3], [v0, v1], S) = rn xX0_lookRound (26, [l0, l1, l2, l3], [vI 1, v0, v1], S) := rn_step dX0_lookRound_25 rfl rfl
theorem eX0_lookRound_26 {i : Nat} {j : Int} {l0 l1 l2 l3 : Option VV} {v2 : VV} (h : kd i = 10) (h0 : 0 ≤ j) (h1 : j < alen i) {S : MM} : rn xX0_lookRound (26, [l0, l1, l2, l3], [vI j, vR i, v2], S) = rn xX0_lookRound (27, [l0, l1, l2, l3], [vI (S i j.toNat), v2], S) := q_iald dX0_lookRound_26 h h0 h1
theorem eX0_lookRound_26x {j : Int} {l0 l1 l2 l3 : Option VV} {v2 : VV} {S : MM} (h0 : 0 ≤ j) (h1 : j < S 604 0) : rn xX0_lookRound (26, [l0, l1, l2, l3], [vI j, vR 602, v2], S) = rn xX0_lookRound (27, [l0, l1, l2, l3], [vI (S 602 j.toNat), v2], S) := q_ialdX dX0_lookRound_26 h0 h1
theorem eX0_lookRound_26y {j : Int} {l0 l1 l2 l3 : Option VV} {v2 : VV} {S : MM} (h0 : 0 ≤ j) (h1 : j < S 604 1) : rn xX0_lookRound (26, [l0, l1, l2, l3], [vI j, vR 603, v2], S) = rn xX0_lookRound (27, [l0, l1, l2, l3], [vI (S 603 j.toNat), v2], S) := q_ialdY dX0_lookRound_26 h0 h1
theorem eX0_lookRound_27 {a b : Int} {l0 l1 l2 l3 : Option VV} (h : -2147483648 ≤ a ∧ a ≤ 2147483647) (h1 : -2147483648 ≤ b ∧ b ≤ 2147483647) {S : MM} : rn xX0_lookRound (27, [l0, l1, l2, l3], [vI b, vI a], S) = if a = b then rn xX0_lookRound (30, [l0, l1, l2, l3], [], S) else rn xX0_lookRound (68, [l0, l1, l2, l3], [], S) := q_icmp_ne dX0_lookRound_27 (by decide) rfl h h1
theorem eX0_lookRound_30 {a : Int} {l0 l1 l2 : Option VV} {S : MM} : rn xX0_lookRound (30, [l0, l1, l2, some (vI a)], [], S) = rn xX0_lookRound (31, [l0, l1, l2, some (vI a)], [vI a], S) := rn_step dX0_lookRound_30 rfl rfl
theorem eX0_lookRound_31 {a : Option Nat} {l1 l2 l3 : Option VV} {v0 : VV} {S : MM} : rn xX0_lookRound (31, [some (.inr (.inl a)), l1, l2, l3], [v0], S) = rn xX0_lookRound (32, [some (.inr (.inl a)), l1, l2, l3], [.inr (.inl a), v0], S) := rn_step dX0_lookRound_31 rfl rfl
theorem eX0_lookRound_32 {i : Nat} {l0 l1 l2 l3 : Option VV} {v1 : VV} (h : kd i = 0) {S : MM} : rn xX0_lookRound (32, [l0, l1, l2, l3], [vR i, v1], S) = rn xX0_lookRound (35, [l0, l1, l2, l3], [vR (i + 3), v1], S) := q_getR dX0_lookRound_32 rfl ⟨⟨by decide, by decide⟩, by decide⟩ (fun h => (fref0 h).trans (by first | rfl | omega)) h
theorem eX0_lookRound_35 {l0 l1 l2 l3 : Option VV} {v0 v1 : VV} {S : MM} : rn xX0_lookRound (35, [l0, l1, l2, l3], [v0, v1], S) = rn xX0_lookRound (36, [l0, l1, l2, l3], [vI 2, v0, v1], S) := rn_step dX0_lookRound_35 rfl rfl
theorem eX0_lookRound_36 {i : Nat} {j : Int} {l0 l1 l2 l3 : Option VV} {v2 : VV} (h : kd i = 10) (h0 : 0 ≤ j) (h1 : j < alen i) {S : MM} : rn xX0_lookRound (36, [l0, l1, l2, l3], [vI j, vR i, v2], S) = rn xX0_lookRound (37, [l0, l1, l2, l3], [vI (S i j.toNat), v2], S) := q_iald dX0_lookRound_36 h h0 h1
theorem eX0_lookRound_36x {j : Int} {l0 l1 l2 l3 : Option VV} {v2 : VV} {S : MM} (h0 : 0 ≤ j) (h1 : j < S 604 0) : rn xX0_lookRound (36, [l0, l1, l2, l3], [vI j, vR 602, v2], S) = rn xX0_lookRound (37, [l0, l1, l2, l3], [vI (S 602 j.toNat), v2], S) := q_ialdX dX0_lookRound_36 h0 h1
theorem eX0_lookRound_36y {j : Int} {l0 l1 l2 l3 : Option VV} {v2 : VV} {S : MM} (h0 : 0 ≤ j) (h1 : j < S 604 1) : rn xX0_lookRound (36, [l0, l1, l2, l3], [vI j, vR 603, v2], S) = rn xX0_lookRound (37, [l0, l1, l2, l3], [vI (S 603 j.toNat), v2], S) := q_ialdY dX0_lookRound_36 h0 h1
theorem eX0_lookRound_37 {a b : Int} {l0 l1 l2 l3 : Option VV} (h : -2147483648 ≤ a ∧ a ≤ 2147483647) (h1 : -2147483648 ≤ b ∧ b ≤ 2147483647) {S : MM} : rn xX0_lookRound (37, [l0, l1, l2, l3], [vI b, vI a], S) = if a = b then rn xX0_lookRound (40, [l0, l1, l2, l3], [], S) else rn xX0_lookRound (68, [l0, l1, l2, l3], [], S) := q_icmp_ne dX0_lookRound_37 (by decide) rfl h h1
theorem eX0_lookRound_40 {a : Int} {l0 l1 l2 : Option VV} {S : MM} : rn xX0_lookRound (40, [l0, l1, l2, some (vI a)], [], S) = rn xX0_lookRound (41, [l0, l1, l2, some (vI a)], [vI a], S) := rn_step dX0_lookRound_40 rfl rfl
theorem eX0_lookRound_41 {a : Option Nat} {l1 l2 l3 : Option VV} {v0 : VV} {S : MM} : rn xX0_lookRound (41, [some (.inr (.inl a)), l1, l2, l3], [v0], S) = rn xX0_lookRound (42, [some (.inr (.inl a)), l1, l2, l3], [.inr (.inl a), v0], S) := rn_step dX0_lookRound_41 rfl rfl
theorem eX0_lookRound_42 {i : Nat} {l0 l1 l2 l3 : Option VV} {v1 : VV} (h : kd i = 0) {S : MM} : rn xX0_lookRound (42, [l0, l1, l2, l3], [vR i, v1], S) = rn xX0_lookRound (45, [l0, l1, l2, l3], [vI (S i 2), v1], S) := q_getI dX0_lookRound_42 rfl ⟨⟨by decide, by decide⟩, by decide⟩ h
theorem eX0_lookRound_45 {a b : Int} {l0 l1 l2 l3 : Option VV} (h : -2147483648 ≤ a ∧ a ≤ 2147483647) (h1 : -2147483648 ≤ b ∧ b ≤ 2147483647) {S : MM} : rn xX0_lookRound (45, [l0, l1, l2, l3], [vI b, vI a], S) = if a < b then rn xX0_lookRound (68, [l0, l1, l2, l3], [], S) else rn xX0_lookRound (48, [l0, l1, l2, l3], [], S) := q_icmp_lt dX0_lookRound_45 (by decide) rfl h h1
theorem eX0_lookRound_48 {a : Option Nat} {l1 l2 l3 : Option VV} {S : MM} : rn xX0_lookRound (48, [some (.inr (.inl a)), l1, l2, l3], [], S) = rn xX0_lookRound (49, [some (.inr (.inl a)), l1, l2, l3], [.inr (.inl a)], S) := rn_step dX0_lookRound_48 rfl rfl
theorem eX0_lookRound_49 {a : Int} {l0 l1 l2 : Option VV} {v0 : VV} {S : MM} : rn xX0_lookRound (49, [l0, l1, l2, some (vI a)], [v0], S) = rn xX0_lookRound (50, [l0, l1, l2, some (vI a)], [vI a, v0], S) := rn_step dX0_lookRound_49 rfl rfl
theorem eX0_lookRound_50 {a : Option Nat} {l0 l2 l3 : Option VV} {v0 v1 : VV} {S : MM} : rn xX0_lookRound (50, [l0, some (.inr (.inl a)), l2, l3], [v0, v1], S) = rn xX0_lookRound (51, [l0, some (.inr (.inl a)), l2, l3], [.inr (.inl a), v0, v1], S) := rn_step dX0_lookRound_50 rfl rfl
theorem eX0_lookRound_51 {a : Int} {l0 l1 l2 : Option VV} {v0 v1 v2 : VV} {S : MM} : rn xX0_lookRound (51, [l0, l1, l2, some (vI a)], [v0, v1, v2], S) = rn xX0_lookRound (52, [l0, l1, l2, some (vI a)], [vI a, v0, v1, v2], S) := rn_step dX0_lookRound_51 rfl rfl
theorem eX0_lookRound_52 {a0 : Int} {i : Nat} {l0 l1 l2 l3 : Option VV} {v2 v3 : VV} (h : kd i = 5) {S : MM} : rn xX0_lookRound (52, [l0, l1, l2, l3], [vI a0, vR i, v2, v3], S) = (fX5_rowsAt [vR i, vI a0] S).bind (fun q => rn xX0_lookRound (55, [l0, l1, l2, l3], q.1.toList ++ [v2, v3], q.2)) := q_callV (n := 1) (as := [vI a0]) (rest := [v2, v3]) dX0_lookRound_52 rfl rfl rfl rfl h
theorem eX0_lookRound_55 {a0 : Int} {a1 : Int} {i : Nat} {l0 l1 l2 l3 : Option VV} (h : kd i = 0) {S : MM} : rn xX0_lookRound (55, [l0, l1, l2, l3], [vI a1, vI a0, vR i], S) = (fX0_meet [vR i, vI a0, vI a1] S).bind (fun q => rn xX0_lookRound (58, [l0, l1, l2, l3], q.1.toList ++ [], q.2)) := q_callV (n := 2) (as := [vI a0, vI a1]) (rest := []) dX0_lookRound_55 rfl rfl rfl rfl h
theorem eX0_lookRound_58 {a : Option Nat} {l1 l2 l3 : Option VV} {S : MM} : rn xX0_lookRound (58, [some (.inr (.inl a)), l1, l2, l3], [], S) = rn xX0_lookRound (59, [some (.inr (.inl a)), l1, l2, l3], [.inr (.inl a)], S) := rn_step dX0_lookRound_58 rfl rfl
theorem eX0_lookRound_59 {a : Int} {l0 l1 l2 : Option VV} {v0 : VV} {S : MM} : rn xX0_lookRound (59, [l0, l1, l2, some (vI a)], [v0], S) = rn xX0_lookRound (60, [l0, l1, l2, some (vI a)], [vI a, v0], S) := rn_step dX0_lookRound_59 rfl rfl
theorem eX0_lookRound_60 {l0 l1 l2 l3 : Option VV} {v0 v1 : VV} {S : MM} : rn xX0_lookRound (60, [l0, l1, l2, l3], [v0, v1], S) = rn xX0_lookRound (61, [l0, l1, l2, l3], [vI 1, v0, v1], S) := rn_step dX0_lookRound_60 rfl rfl
theorem eX0_lookRound_61 {a b : Int} {l0 l1 l2 l3 : Option VV} {v2 : VV} {S : MM} : rn xX0_lookRound (61, [l0, l1, l2, l3], [vI b, vI a, v2], S) = rn xX0_lookRound (62, [l0, l1, l2, l3], [vI (a + b), v2], S) := rn_step dX0_lookRound_61 rfl rfl
theorem eX0_lookRound_62 {z : Int} {i : Nat} {l0 l1 l2 l3 : Option VV} (h : kd i = 0) {S : MM} : rn xX0_lookRound (62, [l0, l1, l2, l3], [vI z, vR i], S) = rn xX0_lookRound (65, [l0, l1, l2, l3], [], updM S i 2 z) := q_put dX0_lookRound_62 rfl ⟨by decide, by decide⟩ rfl h
theorem eX0_lookRound_65 {l0 l1 l2 l3 : Option VV} {S : MM} : rn xX0_lookRound (65, [l0, l1, l2, l3], [], S) = rn xX0_lookRound (83, [l0, l1, l2, l3], [], S) := rn_step dX0_lookRound_65 rfl rfl
theorem eX0_lookRound_68 {a : Option Nat} {l1 l2 l3 : Option VV} {S : MM} : rn xX0_lookRound (68, [some (.inr (.inl a)), l1, l2, l3], [], S) = rn xX0_lookRound (69, [some (.inr (.inl a)), l1, l2, l3], [.inr (.inl a)], S) := rn_step dX0_lookRound_68 rfl rfl
theorem eX0_lookRound_69 {a : Option Nat} {l1 l2 l3 : Option VV} {v0 : VV} {S : MM} : rn xX0_lookRound (69, [some (.inr (.inl a)), l1, l2, l3], [v0], S) = rn xX0_lookRound (70, [some (.inr (.inl a)), l1, l2, l3], [.inr (.inl a), v0], S) := rn_step dX0_lookRound_69 rfl rfl
theorem eX0_lookRound_70 {i : Nat} {l0 l1 l2 l3 : Option VV} {v1 : VV} (h : kd i = 0) {S : MM} : rn xX0_lookRound (70, [l0, l1, l2, l3], [vR i, v1], S) = rn xX0_lookRound (73, [l0, l1, l2, l3], [vI (S i 2), v1], S) := q_getI dX0_lookRound_70 rfl ⟨⟨by decide, by decide⟩, by decide⟩ h
theorem eX0_lookRound_73 {a : Option Nat} {l1 l2 l3 : Option VV} {v0 v1 : VV} {S : MM} : rn xX0_lookRound (73, [some (.inr (.inl a)), l1, l2, l3], [v0, v1], S) = rn xX0_lookRound (74, [some (.inr (.inl a)), l1, l2, l3], [.inr (.inl a), v0, v1], S) := rn_step dX0_lookRound_73 rfl rfl
theorem eX0_lookRound_74 {i : Nat} {l0 l1 l2 l3 : Option VV} {v1 v2 : VV} (h : kd i = 0) {S : MM} : rn xX0_lookRound (74, [l0, l1, l2, l3], [vR i, v1, v2], S) = (fX0_highestKey [vR i] S).bind (fun q => rn xX0_lookRound (77, [l0, l1, l2, l3], q.1.toList ++ [v1, v2], q.2)) := q_callV (n := 0) (as := []) (rest := [v1, v2]) dX0_lookRound_74 rfl rfl rfl rfl h
theorem eX0_lookRound_77 {a0 : Int} {a1 : Int} {l0 l1 l2 l3 : Option VV} {v2 : VV} {S : MM} : rn xX0_lookRound (77, [l0, l1, l2, l3], [vI a1, vI a0, v2], S) = (f_max [vI a0, vI a1] S).bind (fun q => rn xX0_lookRound (80, [l0, l1, l2, l3], q.1.toList ++ [v2], q.2)) := q_callS (n := 2) (as := [vI a0, vI a1]) (rest := [v2]) dX0_lookRound_77 rfl rfl rfl rfl
theorem eX0_lookRound_80 {z : Int} {i : Nat} {l0 l1 l2 l3 : Option VV} (h : kd i = 0) {S : MM} : rn xX0_lookRound (80, [l0, l1, l2, l3], [vI z, vR i], S) = rn xX0_lookRound (83, [l0, l1, l2, l3], [], updM S i 2 z) := q_put dX0_lookRound_80 rfl ⟨by decide, by decide⟩ rfl h
theorem eX0_lookRound_83 {l0 l1 l2 l3 : Option VV} {S : MM} : rn xX0_lookRound (83, [l0, l1, l2, l3], [], S) = some (none, S) := q_retV dX0_lookRound_83 rfl
noncomputable def qlX0_start : List CE := [(0, 56, 7, 2, fX7_valueOf), (1, 65, 0, 2, fX8_walkerInTurn), (0, 72, 5, 2, fX5_pathOf), (0, 78, 3, 2, fX3_firstKeyFrom), (0, 83, 0, 3, fX0_lookRound)]
noncomputable def xX0_start : XX := (cX0_start, fcF fcl0, mcF qlX0_start, 0)
noncomputable def fX0_start : FN := fnX xX0_start 4
set_option maxRecDepth 100000 in
theorem cwX0_start : Cond.code yX0_start cX0_start 4 none ∈ lw_g := lw_gm 587 (by decide +kernel) (by decide +kernel)
set_option maxRecDepth 100000 in
theorem conX0_start : Con yX0_start cX0_start 4 none { frames := 4, cells := 0, slots := 0, locals := 85 } fX0_start := con_of (X := xX0_start) (own := "LeapStones$Crossing") (ql := qlX0_start) (by decide) rfl FOK0 rfl (List.forall_mem_cons.mpr ⟨call_V conX7_valueOf cwX7_valueOf (lw_gl _ [588, 315, 316, 23] (by decide +kernel) (by decide +kernel)) (by decide) rfl ⟨by decide, by decide, by decide +kernel⟩ ⟨rfl, rfl⟩ ⟨by decide, by decide⟩ ⟨Nat.le_refl _, Nat.le_refl _⟩, List.forall_mem_cons.mpr ⟨call_N conX8_walkerInTurn cwX8_walkerInTurn (lw_gl _ [590, 21] (by decide +kernel) (by decide +kernel)) (List.mem_of_getElem? (i := 25) (by decide +kernel)) ⟨by decide, by decide, by decide +kernel⟩ ⟨rfl, rfl⟩ ⟨by decide, by decide⟩ ⟨Nat.le_refl _, Nat.le_refl _⟩, List.forall_mem_cons.mpr ⟨call_V conX5_pathOf cwX5_pathOf (lw_gl _ [463, 347, 348, 24] (by decide +kernel) (by decide +kernel)) (by decide) rfl ⟨by decide, by decide, by decide +kernel⟩ ⟨rfl, rfl⟩ ⟨by decide, by decide⟩ ⟨Nat.le_refl _, Nat.le_refl _⟩, List.forall_mem_cons.mpr ⟨call_V conX3_firstKeyFrom cwX3_firstKeyFrom (lw_gl _ [468, 469, 470, 25] (by decide +kernel) (by decide +kernel)) (by decide) rfl ⟨by decide, by decide, by decide +kernel⟩ ⟨rfl, rfl⟩ ⟨by decide, by decide⟩ ⟨Nat.le_refl _, Nat.le_refl _⟩, List.forall_mem_cons.mpr ⟨call_V conX0_lookRound cwX0_lookRound (lw_gl _ [594, 473, 474, 28] (by decide +kernel) (by decide +kernel)) (by decide) rfl ⟨by decide, by decide, by decide +kernel⟩ ⟨rfl, rfl⟩ ⟨by decide, by decide⟩ ⟨Nat.le_refl _, Nat.le_refl _⟩, fun _ h => absurd h List.not_mem_nil⟩⟩⟩⟩⟩) (Or.inl ⟨rfl, rfl⟩)
theorem uX0_start {i : Nat} {a0 : Option Nat} {a1 : Option Nat} {S : MM} : fX0_start [vR i, .inr (.inl a0), .inr (.inl a1)] S = rn xX0_start (0, [some (vR i), some (.inr (.inl a0)), some (.inr (.inl a1)), none], [], S) := rfl
theorem dX0_start_0 : decode cX0_start 0 = .ok (.aload_n 0, 1) := by decide +kernel
theorem dX0_start_1 : decode cX0_start 1 = .ok (.iconst 1, 1) := by decide +kernel
theorem dX0_start_2 : decode cX0_start 2 = .ok (.putfield 33, 3) := by decide +kernel
theorem dX0_start_5 : decode cX0_start 5 = .ok (.aload_n 0, 1) := by decide +kernel
theorem dX0_start_6 : decode cX0_start 6 = .ok (.iconst 0, 1) := by decide +kernel
theorem dX0_start_7 : decode cX0_start 7 = .ok (.putfield 37, 3) := by decide +kernel
theorem dX0_start_10 : decode cX0_start 10 = .ok (.aload_n 0, 1) := by decide +kernel
theorem dX0_start_11 : decode cX0_start 11 = .ok (.iconst 0, 1) := by decide +kernel
theorem dX0_start_12 : decode cX0_start 12 = .ok (.putfield 44, 3) := by decide +kernel
theorem dX0_start_15 : decode cX0_start 15 = .ok (.aload_n 0, 1) := by decide +kernel
theorem dX0_start_16 : decode cX0_start 16 = .ok (.aload_n 2, 1) := by decide +kernel
theorem dX0_start_17 : decode cX0_start 17 = .ok (.iconst 0, 1) := by decide +kernel
theorem dX0_start_18 : decode cX0_start 18 = .ok (.invokevirtual 56, 3) := by decide +kernel
theorem dX0_start_21 : decode cX0_start 21 = .ok (.putfield 62, 3) := by decide +kernel
theorem dX0_start_24 : decode cX0_start 24 = .ok (.aload_n 0, 1) := by decide +kernel
theorem dX0_start_25 : decode cX0_start 25 = .ok (.aload_n 2, 1) := by decide +kernel
theorem dX0_start_26 : decode cX0_start 26 = .ok (.iconst 3, 1) := by decide +kernel
theorem dX0_start_27 : decode cX0_start 27 = .ok (.invokevirtual 56, 3) := by decide +kernel
theorem dX0_start_30 : decode cX0_start 30 = .ok (.iconst 0, 1) := by decide +kernel
theorem dX0_start_31 : decode cX0_start 31 = .ok (.invokestatic 65, 3) := by decide +kernel
theorem dX0_start_34 : decode cX0_start 34 = .ok (.putfield 69, 3) := by decide +kernel
theorem dX0_start_37 : decode cX0_start 37 = .ok (.iconst 0, 1) := by decide +kernel
theorem dX0_start_38 : decode cX0_start 38 = .ok (.istore_n 3, 1) := by decide +kernel
theorem dX0_start_39 : decode cX0_start 39 = .ok (.iload_n 3, 1) := by decide +kernel
theorem dX0_start_40 : decode cX0_start 40 = .ok (.iconst 3, 1) := by decide +kernel
theorem dX0_start_41 : decode cX0_start 41 = .ok (.if_icmp .ge 55, 3) := by decide +kernel
theorem dX0_start_44 : decode cX0_start 44 = .ok (.aload_n 0, 1) := by decide +kernel
theorem dX0_start_45 : decode cX0_start 45 = .ok (.getfield 18, 3) := by decide +kernel
theorem dX0_start_48 : decode cX0_start 48 = .ok (.iload_n 3, 1) := by decide +kernel
theorem dX0_start_49 : decode cX0_start 49 = .ok (.aload_n 1, 1) := by decide +kernel
theorem dX0_start_50 : decode cX0_start 50 = .ok (.iload_n 3, 1) := by decide +kernel
theorem dX0_start_51 : decode cX0_start 51 = .ok (.invokevirtual 72, 3) := by decide +kernel
theorem dX0_start_54 : decode cX0_start 54 = .ok (.aload_n 0, 1) := by decide +kernel
theorem dX0_start_55 : decode cX0_start 55 = .ok (.getfield 62, 3) := by decide +kernel
theorem dX0_start_58 : decode cX0_start 58 = .ok (.invokevirtual 78, 3) := by decide +kernel
theorem dX0_start_61 : decode cX0_start 61 = .ok (.iastore, 1) := by decide +kernel
theorem dX0_start_62 : decode cX0_start 62 = .ok (.aload_n 0, 1) := by decide +kernel
theorem dX0_start_63 : decode cX0_start 63 = .ok (.getfield 21, 3) := by decide +kernel
theorem dX0_start_66 : decode cX0_start 66 = .ok (.iload_n 3, 1) := by decide +kernel
theorem dX0_start_67 : decode cX0_start 67 = .ok (.iconst 0, 1) := by decide +kernel
theorem dX0_start_68 : decode cX0_start 68 = .ok (.iastore, 1) := by decide +kernel
theorem dX0_start_69 : decode cX0_start 69 = .ok (.aload_n 0, 1) := by decide +kernel
theorem dX0_start_70 : decode cX0_start 70 = .ok (.getfield 24, 3) := by decide +kernel
theorem dX0_start_73 : decode cX0_start 73 = .ok (.iload_n 3, 1) := by decide +kernel
theorem dX0_start_74 : decode cX0_start 74 = .ok (.iconst 0, 1) := by decide +kernel
theorem dX0_start_75 : decode cX0_start 75 = .ok (.iastore, 1) := by decide +kernel
theorem dX0_start_76 : decode cX0_start 76 = .ok (.aload_n 0, 1) := by decide +kernel
theorem dX0_start_77 : decode cX0_start 77 = .ok (.getfield 27, 3) := by decide +kernel
theorem dX0_start_80 : decode cX0_start 80 = .ok (.iload_n 3, 1) := by decide +kernel
theorem dX0_start_81 : decode cX0_start 81 = .ok (.iconst 0, 1) := by decide +kernel
theorem dX0_start_82 : decode cX0_start 82 = .ok (.iastore, 1) := by decide +kernel
theorem dX0_start_83 : decode cX0_start 83 = .ok (.aload_n 0, 1) := by decide +kernel
theorem dX0_start_84 : decode cX0_start 84 = .ok (.getfield 30, 3) := by decide +kernel
theorem dX0_start_87 : decode cX0_start 87 = .ok (.iload_n 3, 1) := by decide +kernel
theorem dX0_start_88 : decode cX0_start 88 = .ok (.iconst 0, 1) := by decide +kernel
theorem dX0_start_89 : decode cX0_start 89 = .ok (.iastore, 1) := by decide +kernel
theorem dX0_start_90 : decode cX0_start 90 = .ok (.iinc 3 1, 3) := by decide +kernel
theorem dX0_start_93 : decode cX0_start 93 = .ok (.goto (-54), 3) := by decide +kernel
theorem dX0_start_96 : decode cX0_start 96 = .ok (.aload_n 0, 1) := by decide +kernel
theorem dX0_start_97 : decode cX0_start 97 = .ok (.aload_n 1, 1) := by decide +kernel
theorem dX0_start_98 : decode cX0_start 98 = .ok (.aload_n 2, 1) := by decide +kernel
theorem dX0_start_99 : decode cX0_start 99 = .ok (.iconst 1, 1) := by decide +kernel
theorem dX0_start_100 : decode cX0_start 100 = .ok (.invokevirtual 56, 3) := by decide +kernel
theorem dX0_start_103 : decode cX0_start 103 = .ok (.invokevirtual 83, 3) := by decide +kernel
theorem dX0_start_106 : decode cX0_start 106 = .ok (.return_, 1) := by decide +kernel
theorem eX0_start_0 {a : Option Nat} {l1 l2 l3 : Option VV} {S : MM} : rn xX0_start (0, [some (.inr (.inl a)), l1, l2, l3], [], S) = rn xX0_start (1, [some (.inr (.inl a)), l1, l2, l3], [.inr (.inl a)], S) := rn_step dX0_start_0 rfl rfl
theorem eX0_start_1 {l0 l1 l2 l3 : Option VV} {v0 : VV} {S : MM} : rn xX0_start (1, [l0, l1, l2, l3], [v0], S) = rn xX0_start (2, [l0, l1, l2, l3], [vI 1, v0], S) := rn_step dX0_start_1 rfl rfl
theorem eX0_start_2 {z : Int} {i : Nat} {l0 l1 l2 l3 : Option VV} (hz : z = 0 ∨ z = 1) (h : kd i = 0) {S : MM} : rn xX0_start (2, [l0, l1, l2, l3], [vI z, vR i], S) = rn xX0_start (5, [l0, l1, l2, l3], [], updM S i 0 z) := q_put dX0_start_2 rfl ⟨by decide, by decide⟩ (fit1 hz) h
theorem eX0_start_5 {a : Option Nat} {l1 l2 l3 : Option VV} {S : MM} : rn xX0_start (5, [some (.inr (.inl a)), l1, l2, l3], [], S) = rn xX0_start (6, [some (.inr (.inl a)), l1, l2, l3], [.inr (.inl a)], S) := rn_step dX0_start_5 rfl rfl
theorem eX0_start_6 {l0 l1 l2 l3 : Option VV} {v0 : VV} {S : MM} : rn xX0_start (6, [l0, l1, l2, l3], [v0], S) = rn xX0_start (7, [l0, l1, l2, l3], [vI 0, v0], S) := rn_step dX0_start_6 rfl rfl
theorem eX0_start_7 {z : Int} {i : Nat} {l0 l1 l2 l3 : Option VV} (hz : z = 0 ∨ z = 1) (h : kd i = 0) {S : MM} : rn xX0_start (7, [l0, l1, l2, l3], [vI z, vR i], S) = rn xX0_start (10, [l0, l1, l2, l3], [], updM S i 1 z) := q_put dX0_start_7 rfl ⟨by decide, by decide⟩ (fit1 hz) h
theorem eX0_start_10 {a : Option Nat} {l1 l2 l3 : Option VV} {S : MM} : rn xX0_start (10, [some (.inr (.inl a)), l1, l2, l3], [], S) = rn xX0_start (11, [some (.inr (.inl a)), l1, l2, l3], [.inr (.inl a)], S) := rn_step dX0_start_10 rfl rfl
theorem eX0_start_11 {l0 l1 l2 l3 : Option VV} {v0 : VV} {S : MM} : rn xX0_start (11, [l0, l1, l2, l3], [v0], S) = rn xX0_start (12, [l0, l1, l2, l3], [vI 0, v0], S) := rn_step dX0_start_11 rfl rfl
theorem eX0_start_12 {z : Int} {i : Nat} {l0 l1 l2 l3 : Option VV} (h : kd i = 0) {S : MM} : rn xX0_start (12, [l0, l1, l2, l3], [vI z, vR i], S) = rn xX0_start (15, [l0, l1, l2, l3], [], updM S i 4 z) := q_put dX0_start_12 rfl ⟨by decide, by decide⟩ rfl h
theorem eX0_start_15 {a : Option Nat} {l1 l2 l3 : Option VV} {S : MM} : rn xX0_start (15, [some (.inr (.inl a)), l1, l2, l3], [], S) = rn xX0_start (16, [some (.inr (.inl a)), l1, l2, l3], [.inr (.inl a)], S) := rn_step dX0_start_15 rfl rfl
theorem eX0_start_16 {a : Option Nat} {l0 l1 l3 : Option VV} {v0 : VV} {S : MM} : rn xX0_start (16, [l0, l1, some (.inr (.inl a)), l3], [v0], S) = rn xX0_start (17, [l0, l1, some (.inr (.inl a)), l3], [.inr (.inl a), v0], S) := rn_step dX0_start_16 rfl rfl
theorem eX0_start_17 {l0 l1 l2 l3 : Option VV} {v0 v1 : VV} {S : MM} : rn xX0_start (17, [l0, l1, l2, l3], [v0, v1], S) = rn xX0_start (18, [l0, l1, l2, l3], [vI 0, v0, v1], S) := rn_step dX0_start_17 rfl rfl
theorem eX0_start_18 {a0 : Int} {i : Nat} {l0 l1 l2 l3 : Option VV} {v2 : VV} (h : kd i = 7) {S : MM} : rn xX0_start (18, [l0, l1, l2, l3], [vI a0, vR i, v2], S) = (fX7_valueOf [vR i, vI a0] S).bind (fun q => rn xX0_start (21, [l0, l1, l2, l3], q.1.toList ++ [v2], q.2)) := q_callV (n := 1) (as := [vI a0]) (rest := [v2]) dX0_start_18 rfl rfl rfl rfl h
theorem eX0_start_21 {z : Int} {i : Nat} {l0 l1 l2 l3 : Option VV} (h : kd i = 0) {S : MM} : rn xX0_start (21, [l0, l1, l2, l3], [vI z, vR i], S) = rn xX0_start (24, [l0, l1, l2, l3], [], updM S i 2 z) := q_put dX0_start_21 rfl ⟨by decide, by decide⟩ rfl h
theorem eX0_start_24 {a : Option Nat} {l1 l2 l3 : Option VV} {S : MM} : rn xX0_start (24, [some (.inr (.inl a)), l1, l2, l3], [], S) = rn xX0_start (25, [some (.inr (.inl a)), l1, l2, l3], [.inr (.inl a)], S) := rn_step dX0_start_24 rfl rfl
theorem eX0_start_25 {a : Option Nat} {l0 l1 l3 : Option VV} {v0 : VV} {S : MM} : rn xX0_start (25, [l0, l1, some (.inr (.inl a)), l3], [v0], S) = rn xX0_start (26, [l0, l1, some (.inr (.inl a)), l3], [.inr (.inl a), v0], S) := rn_step dX0_start_25 rfl rfl
theorem eX0_start_26 {l0 l1 l2 l3 : Option VV} {v0 v1 : VV} {S : MM} : rn xX0_start (26, [l0, l1, l2, l3], [v0, v1], S) = rn xX0_start (27, [l0, l1, l2, l3], [vI 3, v0, v1], S) := rn_step dX0_start_26 rfl rfl
theorem eX0_start_27 {a0 : Int} {i : Nat} {l0 l1 l2 l3 : Option VV} {v2 : VV} (h : kd i = 7) {S : MM} : rn xX0_start (27, [l0, l1, l2, l3], [vI a0, vR i, v2], S) = (fX7_valueOf [vR i, vI a0] S).bind (fun q => rn xX0_start (30, [l0, l1, l2, l3], q.1.toList ++ [v2], q.2)) := q_callV (n := 1) (as := [vI a0]) (rest := [v2]) dX0_start_27 rfl rfl rfl rfl h
theorem eX0_start_30 {l0 l1 l2 l3 : Option VV} {v0 v1 : VV} {S : MM} : rn xX0_start (30, [l0, l1, l2, l3], [v0, v1], S) = rn xX0_start (31, [l0, l1, l2, l3], [vI 0, v0, v1], S) := rn_step dX0_start_30 rfl rfl
theorem eX0_start_31 {a0 : Int} {a1 : Int} {l0 l1 l2 l3 : Option VV} {v2 : VV} {S : MM} : rn xX0_start (31, [l0, l1, l2, l3], [vI a1, vI a0, v2], S) = (fX8_walkerInTurn [vI a0, vI a1] S).bind (fun q => rn xX0_start (34, [l0, l1, l2, l3], q.1.toList ++ [v2], q.2)) := q_callS (n := 2) (as := [vI a0, vI a1]) (rest := [v2]) dX0_start_31 rfl rfl rfl rfl
theorem eX0_start_34 {z : Int} {i : Nat} {l0 l1 l2 l3 : Option VV} (h : kd i = 0) {S : MM} : rn xX0_start (34, [l0, l1, l2, l3], [vI z, vR i], S) = rn xX0_start (37, [l0, l1, l2, l3], [], updM S i 3 z) := q_put dX0_start_34 rfl ⟨by decide, by decide⟩ rfl h
theorem eX0_start_37 {l0 l1 l2 l3 : Option VV} {S : MM} : rn xX0_start (37, [l0, l1, l2, l3], [], S) = rn xX0_start (38, [l0, l1, l2, l3], [vI 0], S) := rn_step dX0_start_37 rfl rfl
theorem eX0_start_38 {a : Int} {w : Option Nat} {l0 l1 l3 : Option VV} {S : MM} : rn xX0_start (38, [l0, l1, some (.inr (.inl w)), l3], [vI a], S) = rn xX0_start (39, [l0, l1, some (.inr (.inl w)), some (vI a)], [], S) := rn_step dX0_start_38 rfl rfl
theorem eX0_start_39 {a : Int} {l0 l1 l2 : Option VV} {S : MM} : rn xX0_start (39, [l0, l1, l2, some (vI a)], [], S) = rn xX0_start (40, [l0, l1, l2, some (vI a)], [vI a], S) := rn_step dX0_start_39 rfl rfl
theorem eX0_start_40 {l0 l1 l2 l3 : Option VV} {v0 : VV} {S : MM} : rn xX0_start (40, [l0, l1, l2, l3], [v0], S) = rn xX0_start (41, [l0, l1, l2, l3], [vI 3, v0], S) := rn_step dX0_start_40 rfl rfl
theorem eX0_start_41 {a b : Int} {l0 l1 l2 l3 : Option VV} (h : -2147483648 ≤ a ∧ a ≤ 2147483647) (h1 : -2147483648 ≤ b ∧ b ≤ 2147483647) {S : MM} : rn xX0_start (41, [l0, l1, l2, l3], [vI b, vI a], S) = if a < b then rn xX0_start (44, [l0, l1, l2, l3], [], S) else rn xX0_start (96, [l0, l1, l2, l3], [], S) := q_icmp_ge dX0_start_41 (by decide) rfl h h1
theorem eX0_start_44 {a : Option Nat} {l1 l2 l3 : Option VV} {S : MM} : rn xX0_start (44, [some (.inr (.inl a)), l1, l2, l3], [], S) = rn xX0_start (45, [some (.inr (.inl a)), l1, l2, l3], [.inr (.inl a)], S) := rn_step dX0_start_44 rfl rfl
theorem eX0_start_45 {i : Nat} {l0 l1 l2 l3 : Option VV} (h : kd i = 0) {S : MM} : rn xX0_start (45, [l0, l1, l2, l3], [vR i], S) = rn xX0_start (48, [l0, l1, l2, l3], [vR (i + 3)], S) := q_getR dX0_start_45 rfl ⟨⟨by decide, by decide⟩, by decide⟩ (fun h => (fref0 h).trans (by first | rfl | omega)) h
theorem eX0_start_48 {a : Int} {l0 l1 l2 : Option VV} {v0 : VV} {S : MM} : rn xX0_start (48, [l0, l1, l2, some (vI a)], [v0], S) = rn xX0_start (49, [l0, l1, l2, some (vI a)], [vI a, v0], S) := rn_step dX0_start_48 rfl rfl
theorem eX0_start_49 {a : Option Nat} {l0 l2 l3 : Option VV} {v0 v1 : VV} {S : MM} : rn xX0_start (49, [l0, some (.inr (.inl a)), l2, l3], [v0, v1], S) = rn xX0_start (50, [l0, some (.inr (.inl a)), l2, l3], [.inr (.inl a), v0, v1], S) := rn_step dX0_start_49 rfl rfl
theorem eX0_start_50 {a : Int} {l0 l1 l2 : Option VV} {v0 v1 v2 : VV} {S : MM} : rn xX0_start (50, [l0, l1, l2, some (vI a)], [v0, v1, v2], S) = rn xX0_start (51, [l0, l1, l2, some (vI a)], [vI a, v0, v1, v2], S) := rn_step dX0_start_50 rfl rfl
theorem eX0_start_51 {a0 : Int} {i : Nat} {l0 l1 l2 l3 : Option VV} {v2 v3 : VV} (h : kd i = 5) {S : MM} : rn xX0_start (51, [l0, l1, l2, l3], [vI a0, vR i, v2, v3], S) = (fX5_pathOf [vR i, vI a0] S).bind (fun q => rn xX0_start (54, [l0, l1, l2, l3], q.1.toList ++ [v2, v3], q.2)) := q_callV (n := 1) (as := [vI a0]) (rest := [v2, v3]) dX0_start_51 rfl rfl rfl rfl h
theorem eX0_start_54 {a : Option Nat} {l1 l2 l3 : Option VV} {v0 v1 v2 : VV} {S : MM} : rn xX0_start (54, [some (.inr (.inl a)), l1, l2, l3], [v0, v1, v2], S) = rn xX0_start (55, [some (.inr (.inl a)), l1, l2, l3], [.inr (.inl a), v0, v1, v2], S) := rn_step dX0_start_54 rfl rfl
theorem eX0_start_55 {i : Nat} {l0 l1 l2 l3 : Option VV} {v1 v2 v3 : VV} (h : kd i = 0) {S : MM} : rn xX0_start (55, [l0, l1, l2, l3], [vR i, v1, v2, v3], S) = rn xX0_start (58, [l0, l1, l2, l3], [vI (S i 2), v1, v2, v3], S) := q_getI dX0_start_55 rfl ⟨⟨by decide, by decide⟩, by decide⟩ h
theorem eX0_start_58 {a0 : Int} {i : Nat} {l0 l1 l2 l3 : Option VV} {v2 v3 : VV} (h : kd i = 3) {S : MM} : rn xX0_start (58, [l0, l1, l2, l3], [vI a0, vR i, v2, v3], S) = (fX3_firstKeyFrom [vR i, vI a0] S).bind (fun q => rn xX0_start (61, [l0, l1, l2, l3], q.1.toList ++ [v2, v3], q.2)) := q_callV (n := 1) (as := [vI a0]) (rest := [v2, v3]) dX0_start_58 rfl rfl rfl rfl h
theorem eX0_start_61 {i : Nat} {j z : Int} {l0 l1 l2 l3 : Option VV} (h : kd i = 10) (h0 : 0 ≤ j) (h1 : j < alen i) {S : MM} : rn xX0_start (61, [l0, l1, l2, l3], [vI z, vI j, vR i], S) = rn xX0_start (62, [l0, l1, l2, l3], [], updM S i j.toNat z) := q_iast dX0_start_61 h h0 h1
theorem eX0_start_62 {a : Option Nat} {l1 l2 l3 : Option VV} {S : MM} : rn xX0_start (62, [some (.inr (.inl a)), l1, l2, l3], [], S) = rn xX0_start (63, [some (.inr (.inl a)), l1, l2, l3], [.inr (.inl a)], S) := rn_step dX0_start_62 rfl rfl
theorem eX0_start_63 {i : Nat} {l0 l1 l2 l3 : Option VV} (h : kd i = 0) {S : MM} : rn xX0_start (63, [l0, l1, l2, l3], [vR i], S) = rn xX0_start (66, [l0, l1, l2, l3], [vR (i + 4)], S) := q_getR dX0_start_63 rfl ⟨⟨by decide, by decide⟩, by decide⟩ (fun h => (fref0 h).trans (by first | rfl | omega)) h
theorem eX0_start_66 {a : Int} {l0 l1 l2 : Option VV} {v0 : VV} {S : MM} : rn xX0_start (66, [l0, l1, l2, some (vI a)], [v0], S) = rn xX0_start (67, [l0, l1, l2, some (vI a)], [vI a, v0], S) := rn_step dX0_start_66 rfl rfl
theorem eX0_start_67 {l0 l1 l2 l3 : Option VV} {v0 v1 : VV} {S : MM} : rn xX0_start (67, [l0, l1, l2, l3], [v0, v1], S) = rn xX0_start (68, [l0, l1, l2, l3], [vI 0, v0, v1], S) := rn_step dX0_start_67 rfl rfl
theorem eX0_start_68 {i : Nat} {j z : Int} {l0 l1 l2 l3 : Option VV} (h : kd i = 10) (h0 : 0 ≤ j) (h1 : j < alen i) {S : MM} : rn xX0_start (68, [l0, l1, l2, l3], [vI z, vI j, vR i], S) = rn xX0_start (69, [l0, l1, l2, l3], [], updM S i j.toNat z) := q_iast dX0_start_68 h h0 h1
theorem eX0_start_69 {a : Option Nat} {l1 l2 l3 : Option VV} {S : MM} : rn xX0_start (69, [some (.inr (.inl a)), l1, l2, l3], [], S) = rn xX0_start (70, [some (.inr (.inl a)), l1, l2, l3], [.inr (.inl a)], S) := rn_step dX0_start_69 rfl rfl
theorem eX0_start_70 {i : Nat} {l0 l1 l2 l3 : Option VV} (h : kd i = 0) {S : MM} : rn xX0_start (70, [l0, l1, l2, l3], [vR i], S) = rn xX0_start (73, [l0, l1, l2, l3], [vR (i + 5)], S) := q_getR dX0_start_70 rfl ⟨⟨by decide, by decide⟩, by decide⟩ (fun h => (fref0 h).trans (by first | rfl | omega)) h
theorem eX0_start_73 {a : Int} {l0 l1 l2 : Option VV} {v0 : VV} {S : MM} : rn xX0_start (73, [l0, l1, l2, some (vI a)], [v0], S) = rn xX0_start (74, [l0, l1, l2, some (vI a)], [vI a, v0], S) := rn_step dX0_start_73 rfl rfl
theorem eX0_start_74 {l0 l1 l2 l3 : Option VV} {v0 v1 : VV} {S : MM} : rn xX0_start (74, [l0, l1, l2, l3], [v0, v1], S) = rn xX0_start (75, [l0, l1, l2, l3], [vI 0, v0, v1], S) := rn_step dX0_start_74 rfl rfl
theorem eX0_start_75 {i : Nat} {j z : Int} {l0 l1 l2 l3 : Option VV} (h : kd i = 10) (h0 : 0 ≤ j) (h1 : j < alen i) {S : MM} : rn xX0_start (75, [l0, l1, l2, l3], [vI z, vI j, vR i], S) = rn xX0_start (76, [l0, l1, l2, l3], [], updM S i j.toNat z) := q_iast dX0_start_75 h h0 h1
theorem eX0_start_76 {a : Option Nat} {l1 l2 l3 : Option VV} {S : MM} : rn xX0_start (76, [some (.inr (.inl a)), l1, l2, l3], [], S) = rn xX0_start (77, [some (.inr (.inl a)), l1, l2, l3], [.inr (.inl a)], S) := rn_step dX0_start_76 rfl rfl
theorem eX0_start_77 {i : Nat} {l0 l1 l2 l3 : Option VV} (h : kd i = 0) {S : MM} : rn xX0_start (77, [l0, l1, l2, l3], [vR i], S) = rn xX0_start (80, [l0, l1, l2, l3], [vR (i + 6)], S) := q_getR dX0_start_77 rfl ⟨⟨by decide, by decide⟩, by decide⟩ (fun h => (fref0 h).trans (by first | rfl | omega)) h
theorem eX0_start_80 {a : Int} {l0 l1 l2 : Option VV} {v0 : VV} {S : MM} : rn xX0_start (80, [l0, l1, l2, some (vI a)], [v0], S) = rn xX0_start (81, [l0, l1, l2, some (vI a)], [vI a, v0], S) := rn_step dX0_start_80 rfl rfl
theorem eX0_start_81 {l0 l1 l2 l3 : Option VV} {v0 v1 : VV} {S : MM} : rn xX0_start (81, [l0, l1, l2, l3], [v0, v1], S) = rn xX0_start (82, [l0, l1, l2, l3], [vI 0, v0, v1], S) := rn_step dX0_start_81 rfl rfl
theorem eX0_start_82 {i : Nat} {j z : Int} {l0 l1 l2 l3 : Option VV} (h : kd i = 10) (h0 : 0 ≤ j) (h1 : j < alen i) {S : MM} : rn xX0_start (82, [l0, l1, l2, l3], [vI z, vI j, vR i], S) = rn xX0_start (83, [l0, l1, l2, l3], [], updM S i j.toNat z) := q_iast dX0_start_82 h h0 h1
theorem eX0_start_83 {a : Option Nat} {l1 l2 l3 : Option VV} {S : MM} : rn xX0_start (83, [some (.inr (.inl a)), l1, l2, l3], [], S) = rn xX0_start (84, [some (.inr (.inl a)), l1, l2, l3], [.inr (.inl a)], S) := rn_step dX0_start_83 rfl rfl
theorem eX0_start_84 {i : Nat} {l0 l1 l2 l3 : Option VV} (h : kd i = 0) {S : MM} : rn xX0_start (84, [l0, l1, l2, l3], [vR i], S) = rn xX0_start (87, [l0, l1, l2, l3], [vR (i + 7)], S) := q_getR dX0_start_84 rfl ⟨⟨by decide, by decide⟩, by decide⟩ (fun h => (fref0 h).trans (by first | rfl | omega)) h
theorem eX0_start_87 {a : Int} {l0 l1 l2 : Option VV} {v0 : VV} {S : MM} : rn xX0_start (87, [l0, l1, l2, some (vI a)], [v0], S) = rn xX0_start (88, [l0, l1, l2, some (vI a)], [vI a, v0], S) := rn_step dX0_start_87 rfl rfl
theorem eX0_start_88 {l0 l1 l2 l3 : Option VV} {v0 v1 : VV} {S : MM} : rn xX0_start (88, [l0, l1, l2, l3], [v0, v1], S) = rn xX0_start (89, [l0, l1, l2, l3], [vI 0, v0, v1], S) := rn_step dX0_start_88 rfl rfl
theorem eX0_start_89 {i : Nat} {j z : Int} {l0 l1 l2 l3 : Option VV} (h : kd i = 10) (h0 : 0 ≤ j) (h1 : j < alen i) {S : MM} : rn xX0_start (89, [l0, l1, l2, l3], [vI z, vI j, vR i], S) = rn xX0_start (90, [l0, l1, l2, l3], [], updM S i j.toNat z) := q_iast dX0_start_89 h h0 h1
theorem eX0_start_90 {a : Int} {w : Option Nat} {l0 l1 : Option VV} {S : MM} : rn xX0_start (90, [l0, l1, some (.inr (.inl w)), some (vI a)], [], S) = rn xX0_start (93, [l0, l1, some (.inr (.inl w)), some (vI (a + 1))], [], S) := rn_step dX0_start_90 rfl rfl
theorem eX0_start_93 {l0 l1 l2 l3 : Option VV} {S : MM} : rn xX0_start (93, [l0, l1, l2, l3], [], S) = rn xX0_start (39, [l0, l1, l2, l3], [], S) := rn_step dX0_start_93 rfl rfl
theorem eX0_start_96 {a : Option Nat} {l1 l2 l3 : Option VV} {S : MM} : rn xX0_start (96, [some (.inr (.inl a)), l1, l2, l3], [], S) = rn xX0_start (97, [some (.inr (.inl a)), l1, l2, l3], [.inr (.inl a)], S) := rn_step dX0_start_96 rfl rfl
theorem eX0_start_97 {a : Option Nat} {l0 l2 l3 : Option VV} {v0 : VV} {S : MM} : rn xX0_start (97, [l0, some (.inr (.inl a)), l2, l3], [v0], S) = rn xX0_start (98, [l0, some (.inr (.inl a)), l2, l3], [.inr (.inl a), v0], S) := rn_step dX0_start_97 rfl rfl
theorem eX0_start_98 {a : Option Nat} {l0 l1 l3 : Option VV} {v0 v1 : VV} {S : MM} : rn xX0_start (98, [l0, l1, some (.inr (.inl a)), l3], [v0, v1], S) = rn xX0_start (99, [l0, l1, some (.inr (.inl a)), l3], [.inr (.inl a), v0, v1], S) := rn_step dX0_start_98 rfl rfl
theorem eX0_start_99 {l0 l1 l2 l3 : Option VV} {v0 v1 v2 : VV} {S : MM} : rn xX0_start (99, [l0, l1, l2, l3], [v0, v1, v2], S) = rn xX0_start (100, [l0, l1, l2, l3], [vI 1, v0, v1, v2], S) := rn_step dX0_start_99 rfl rfl
theorem eX0_start_100 {a0 : Int} {i : Nat} {l0 l1 l2 l3 : Option VV} {v2 v3 : VV} (h : kd i = 7) {S : MM} : rn xX0_start (100, [l0, l1, l2, l3], [vI a0, vR i, v2, v3], S) = (fX7_valueOf [vR i, vI a0] S).bind (fun q => rn xX0_start (103, [l0, l1, l2, l3], q.1.toList ++ [v2, v3], q.2)) := q_callV (n := 1) (as := [vI a0]) (rest := [v2, v3]) dX0_start_100 rfl rfl rfl rfl h
theorem eX0_start_103 {a0 : Option Nat} {a1 : Int} {i : Nat} {l0 l1 l2 l3 : Option VV} (h : kd i = 0) {S : MM} : rn xX0_start (103, [l0, l1, l2, l3], [vI a1, .inr (.inl a0), vR i], S) = (fX0_lookRound [vR i, .inr (.inl a0), vI a1] S).bind (fun q => rn xX0_start (106, [l0, l1, l2, l3], q.1.toList ++ [], q.2)) := q_callV (n := 2) (as := [.inr (.inl a0), vI a1]) (rest := []) dX0_start_103 rfl rfl rfl rfl h
theorem eX0_start_106 {l0 l1 l2 l3 : Option VV} {S : MM} : rn xX0_start (106, [l0, l1, l2, l3], [], S) = some (none, S) := q_retV dX0_start_106 rfl
noncomputable def qlX8_walkerBehind : List CE := [(1, 305, 0, 2, fX8_walkerInTurn)]
noncomputable def xX8_walkerBehind : XX := (cX8_walkerBehind, fcF fcl8, mcF qlX8_walkerBehind, 1)
noncomputable def fX8_walkerBehind : FN := fnX xX8_walkerBehind 5
set_option maxRecDepth 100000 in
theorem cwX8_walkerBehind : Cond.code yX8_walkerBehind cX8_walkerBehind 5 (some .int) ∈ lw_g := lw_gm 621 (by decide +kernel) (by decide +kernel)
set_option maxRecDepth 100000 in
theorem conX8_walkerBehind : Con yX8_walkerBehind cX8_walkerBehind 5 (some .int) { frames := 1, cells := 0, slots := 0, locals := 22 } fX8_walkerBehind := con_of (X := xX8_walkerBehind) (own := "LeapStones") (ql := qlX8_walkerBehind) (by decide) rfl FOK8 rfl (List.forall_mem_cons.mpr ⟨call_S conX8_walkerInTurn cwX8_walkerInTurn (lw_gl _ [622, 590, 21] (by decide +kernel) (by decide +kernel)) ⟨by decide, by decide, by decide +kernel⟩ ⟨rfl, rfl⟩ ⟨by decide, by decide⟩ ⟨Nat.le_refl _, Nat.le_refl _⟩, fun _ h => absurd h List.not_mem_nil⟩) (Or.inr (Or.inl ⟨rfl, rfl⟩))
theorem uX8_walkerBehind {a0 : Int} {a1 : Int} {a2 : Int} {S : MM} : fX8_walkerBehind [vI a0, vI a1, vI a2] S = rn xX8_walkerBehind (0, [some (vI a0), some (vI a1), some (vI a2), none, none], [], S) := rfl
theorem dX8_walkerBehind_0 : decode cX8_walkerBehind 0 = .ok (.iconst 0, 1) := by decide +kernel
theorem dX8_walkerBehind_1 : decode cX8_walkerBehind 1 = .ok (.istore_n 3, 1) := by decide +kernel
theorem dX8_walkerBehind_2 : decode cX8_walkerBehind 2 = .ok (.iconst 0, 1) := by decide +kernel
theorem dX8_walkerBehind_3 : decode cX8_walkerBehind 3 = .ok (.istore 4, 2) := by decide +kernel
theorem dX8_walkerBehind_5 : decode cX8_walkerBehind 5 = .ok (.iload 4, 2) := by decide +kernel
theorem dX8_walkerBehind_7 : decode cX8_walkerBehind 7 = .ok (.iconst 3, 1) := by decide +kernel
theorem dX8_walkerBehind_8 : decode cX8_walkerBehind 8 = .ok (.if_icmp .ge 22, 3) := by decide +kernel
theorem dX8_walkerBehind_11 : decode cX8_walkerBehind 11 = .ok (.iload_n 0, 1) := by decide +kernel
theorem dX8_walkerBehind_12 : decode cX8_walkerBehind 12 = .ok (.iload 4, 2) := by decide +kernel
theorem dX8_walkerBehind_14 : decode cX8_walkerBehind 14 = .ok (.invokestatic 305, 3) := by decide +kernel
theorem dX8_walkerBehind_17 : decode cX8_walkerBehind 17 = .ok (.iload_n 1, 1) := by decide +kernel
theorem dX8_walkerBehind_18 : decode cX8_walkerBehind 18 = .ok (.if_icmp .ne 6, 3) := by decide +kernel
theorem dX8_walkerBehind_21 : decode cX8_walkerBehind 21 = .ok (.iload 4, 2) := by decide +kernel
theorem dX8_walkerBehind_23 : decode cX8_walkerBehind 23 = .ok (.istore_n 3, 1) := by decide +kernel
theorem dX8_walkerBehind_24 : decode cX8_walkerBehind 24 = .ok (.iinc 4 1, 3) := by decide +kernel
theorem dX8_walkerBehind_27 : decode cX8_walkerBehind 27 = .ok (.goto (-22), 3) := by decide +kernel
theorem dX8_walkerBehind_30 : decode cX8_walkerBehind 30 = .ok (.iload_n 0, 1) := by decide +kernel
theorem dX8_walkerBehind_31 : decode cX8_walkerBehind 31 = .ok (.iload_n 3, 1) := by decide +kernel
theorem dX8_walkerBehind_32 : decode cX8_walkerBehind 32 = .ok (.iload_n 2, 1) := by decide +kernel
theorem dX8_walkerBehind_33 : decode cX8_walkerBehind 33 = .ok (.iadd, 1) := by decide +kernel
theorem dX8_walkerBehind_34 : decode cX8_walkerBehind 34 = .ok (.iconst 3, 1) := by decide +kernel
theorem dX8_walkerBehind_35 : decode cX8_walkerBehind 35 = .ok (.irem, 1) := by decide +kernel
theorem dX8_walkerBehind_36 : decode cX8_walkerBehind 36 = .ok (.invokestatic 305, 3) := by decide +kernel
theorem dX8_walkerBehind_39 : decode cX8_walkerBehind 39 = .ok (.ireturn, 1) := by decide +kernel
theorem eX8_walkerBehind_0 {l0 l1 l2 l3 l4 : Option VV} {S : MM} : rn xX8_walkerBehind (0, [l0, l1, l2, l3, l4], [], S) = rn xX8_walkerBehind (1, [l0, l1, l2, l3, l4], [vI 0], S) := rn_step dX8_walkerBehind_0 rfl rfl
theorem eX8_walkerBehind_1 {a : Int} {w : Int} {l0 l1 l3 l4 : Option VV} {S : MM} : rn xX8_walkerBehind (1, [l0, l1, some (vI w), l3, l4], [vI a], S) = rn xX8_walkerBehind (2, [l0, l1, some (vI w), some (vI a), l4], [], S) := rn_step dX8_walkerBehind_1 rfl rfl
theorem eX8_walkerBehind_2 {l0 l1 l2 l3 l4 : Option VV} {S : MM} : rn xX8_walkerBehind (2, [l0, l1, l2, l3, l4], [], S) = rn xX8_walkerBehind (3, [l0, l1, l2, l3, l4], [vI 0], S) := rn_step dX8_walkerBehind_2 rfl rfl
theorem eX8_walkerBehind_3 {a : Int} {w : Int} {l0 l1 l2 l4 : Option VV} {S : MM} : rn xX8_walkerBehind (3, [l0, l1, l2, some (vI w), l4], [vI a], S) = rn xX8_walkerBehind (5, [l0, l1, l2, some (vI w), some (vI a)], [], S) := rn_step dX8_walkerBehind_3 rfl rfl
theorem eX8_walkerBehind_5 {a : Int} {l0 l1 l2 l3 : Option VV} {S : MM} : rn xX8_walkerBehind (5, [l0, l1, l2, l3, some (vI a)], [], S) = rn xX8_walkerBehind (7, [l0, l1, l2, l3, some (vI a)], [vI a], S) := rn_step dX8_walkerBehind_5 rfl rfl
theorem eX8_walkerBehind_7 {l0 l1 l2 l3 l4 : Option VV} {v0 : VV} {S : MM} : rn xX8_walkerBehind (7, [l0, l1, l2, l3, l4], [v0], S) = rn xX8_walkerBehind (8, [l0, l1, l2, l3, l4], [vI 3, v0], S) := rn_step dX8_walkerBehind_7 rfl rfl
theorem eX8_walkerBehind_8 {a b : Int} {l0 l1 l2 l3 l4 : Option VV} (h : -2147483648 ≤ a ∧ a ≤ 2147483647) (h1 : -2147483648 ≤ b ∧ b ≤ 2147483647) {S : MM} : rn xX8_walkerBehind (8, [l0, l1, l2, l3, l4], [vI b, vI a], S) = if a < b then rn xX8_walkerBehind (11, [l0, l1, l2, l3, l4], [], S) else rn xX8_walkerBehind (30, [l0, l1, l2, l3, l4], [], S) := q_icmp_ge dX8_walkerBehind_8 (by decide) rfl h h1
theorem eX8_walkerBehind_11 {a : Int} {l1 l2 l3 l4 : Option VV} {S : MM} : rn xX8_walkerBehind (11, [some (vI a), l1, l2, l3, l4], [], S) = rn xX8_walkerBehind (12, [some (vI a), l1, l2, l3, l4], [vI a], S) := rn_step dX8_walkerBehind_11 rfl rfl
theorem eX8_walkerBehind_12 {a : Int} {l0 l1 l2 l3 : Option VV} {v0 : VV} {S : MM} : rn xX8_walkerBehind (12, [l0, l1, l2, l3, some (vI a)], [v0], S) = rn xX8_walkerBehind (14, [l0, l1, l2, l3, some (vI a)], [vI a, v0], S) := rn_step dX8_walkerBehind_12 rfl rfl
theorem eX8_walkerBehind_14 {a0 : Int} {a1 : Int} {l0 l1 l2 l3 l4 : Option VV} {S : MM} : rn xX8_walkerBehind (14, [l0, l1, l2, l3, l4], [vI a1, vI a0], S) = (fX8_walkerInTurn [vI a0, vI a1] S).bind (fun q => rn xX8_walkerBehind (17, [l0, l1, l2, l3, l4], q.1.toList ++ [], q.2)) := q_callS (n := 2) (as := [vI a0, vI a1]) (rest := []) dX8_walkerBehind_14 rfl rfl rfl rfl
theorem eX8_walkerBehind_17 {a : Int} {l0 l2 l3 l4 : Option VV} {v0 : VV} {S : MM} : rn xX8_walkerBehind (17, [l0, some (vI a), l2, l3, l4], [v0], S) = rn xX8_walkerBehind (18, [l0, some (vI a), l2, l3, l4], [vI a, v0], S) := rn_step dX8_walkerBehind_17 rfl rfl
theorem eX8_walkerBehind_18 {a b : Int} {l0 l1 l2 l3 l4 : Option VV} (h : -2147483648 ≤ a ∧ a ≤ 2147483647) (h1 : -2147483648 ≤ b ∧ b ≤ 2147483647) {S : MM} : rn xX8_walkerBehind (18, [l0, l1, l2, l3, l4], [vI b, vI a], S) = if a = b then rn xX8_walkerBehind (21, [l0, l1, l2, l3, l4], [], S) else rn xX8_walkerBehind (24, [l0, l1, l2, l3, l4], [], S) := q_icmp_ne dX8_walkerBehind_18 (by decide) rfl h h1
theorem eX8_walkerBehind_21 {a : Int} {l0 l1 l2 l3 : Option VV} {S : MM} : rn xX8_walkerBehind (21, [l0, l1, l2, l3, some (vI a)], [], S) = rn xX8_walkerBehind (23, [l0, l1, l2, l3, some (vI a)], [vI a], S) := rn_step dX8_walkerBehind_21 rfl rfl
theorem eX8_walkerBehind_23 {a : Int} {w : Int} {l0 l1 l3 l4 : Option VV} {S : MM} : rn xX8_walkerBehind (23, [l0, l1, some (vI w), l3, l4], [vI a], S) = rn xX8_walkerBehind (24, [l0, l1, some (vI w), some (vI a), l4], [], S) := rn_step dX8_walkerBehind_23 rfl rfl
theorem eX8_walkerBehind_24 {a : Int} {w : Int} {l0 l1 l2 : Option VV} {S : MM} : rn xX8_walkerBehind (24, [l0, l1, l2, some (vI w), some (vI a)], [], S) = rn xX8_walkerBehind (27, [l0, l1, l2, some (vI w), some (vI (a + 1))], [], S) := rn_step dX8_walkerBehind_24 rfl rfl
theorem eX8_walkerBehind_27 {l0 l1 l2 l3 l4 : Option VV} {S : MM} : rn xX8_walkerBehind (27, [l0, l1, l2, l3, l4], [], S) = rn xX8_walkerBehind (5, [l0, l1, l2, l3, l4], [], S) := rn_step dX8_walkerBehind_27 rfl rfl
theorem eX8_walkerBehind_30 {a : Int} {l1 l2 l3 l4 : Option VV} {S : MM} : rn xX8_walkerBehind (30, [some (vI a), l1, l2, l3, l4], [], S) = rn xX8_walkerBehind (31, [some (vI a), l1, l2, l3, l4], [vI a], S) := rn_step dX8_walkerBehind_30 rfl rfl
theorem eX8_walkerBehind_31 {a : Int} {l0 l1 l2 l4 : Option VV} {v0 : VV} {S : MM} : rn xX8_walkerBehind (31, [l0, l1, l2, some (vI a), l4], [v0], S) = rn xX8_walkerBehind (32, [l0, l1, l2, some (vI a), l4], [vI a, v0], S) := rn_step dX8_walkerBehind_31 rfl rfl
theorem eX8_walkerBehind_32 {a : Int} {l0 l1 l3 l4 : Option VV} {v0 v1 : VV} {S : MM} : rn xX8_walkerBehind (32, [l0, l1, some (vI a), l3, l4], [v0, v1], S) = rn xX8_walkerBehind (33, [l0, l1, some (vI a), l3, l4], [vI a, v0, v1], S) := rn_step dX8_walkerBehind_32 rfl rfl
theorem eX8_walkerBehind_33 {a b : Int} {l0 l1 l2 l3 l4 : Option VV} {v2 : VV} {S : MM} : rn xX8_walkerBehind (33, [l0, l1, l2, l3, l4], [vI b, vI a, v2], S) = rn xX8_walkerBehind (34, [l0, l1, l2, l3, l4], [vI (a + b), v2], S) := rn_step dX8_walkerBehind_33 rfl rfl
theorem eX8_walkerBehind_34 {l0 l1 l2 l3 l4 : Option VV} {v0 v1 : VV} {S : MM} : rn xX8_walkerBehind (34, [l0, l1, l2, l3, l4], [v0, v1], S) = rn xX8_walkerBehind (35, [l0, l1, l2, l3, l4], [vI 3, v0, v1], S) := rn_step dX8_walkerBehind_34 rfl rfl
theorem eX8_walkerBehind_35 {a : Int} {l0 l1 l2 l3 l4 : Option VV} {v2 : VV} (h0 : 0 ≤ a) (h1 : a ≤ 2147483647) {S : MM} : rn xX8_walkerBehind (35, [l0, l1, l2, l3, l4], [vI 3, vI a, v2], S) = rn xX8_walkerBehind (36, [l0, l1, l2, l3, l4], [vI (a % 3), v2], S) := q_irem dX8_walkerBehind_35 ⟨by decide, by decide⟩ h0 h1
theorem eX8_walkerBehind_36 {a0 : Int} {a1 : Int} {l0 l1 l2 l3 l4 : Option VV} {S : MM} : rn xX8_walkerBehind (36, [l0, l1, l2, l3, l4], [vI a1, vI a0], S) = (fX8_walkerInTurn [vI a0, vI a1] S).bind (fun q => rn xX8_walkerBehind (39, [l0, l1, l2, l3, l4], q.1.toList ++ [], q.2)) := q_callS (n := 2) (as := [vI a0, vI a1]) (rest := []) dX8_walkerBehind_36 rfl rfl rfl rfl
theorem eX8_walkerBehind_39 {z : Int} {l0 l1 l2 l3 l4 : Option VV} {S : MM} : rn xX8_walkerBehind (39, [l0, l1, l2, l3, l4], [vI z], S) = some (some (vI z), S) := q_retI dX8_walkerBehind_39 rfl
noncomputable def qlX0_nextToLeap : List CE := [(1, 102, 0, 3, fX8_walkerBehind), (0, 113, 0, 2, fX0_keyUnder)]
noncomputable def xX0_nextToLeap : XX := (cX0_nextToLeap, fcF fcl0, mcF qlX0_nextToLeap, 1)
noncomputable def fX0_nextToLeap : FN := fnX xX0_nextToLeap 4
set_option maxRecDepth 100000 in
theorem cwX0_nextToLeap : Cond.code yX0_nextToLeap cX0_nextToLeap 4 (some .int) ∈ lw_g := lw_gm 618 (by decide +kernel) (by decide +kernel)
set_option maxRecDepth 100000 in
theorem conX0_nextToLeap : Con yX0_nextToLeap cX0_nextToLeap 4 (some .int) { frames := 3, cells := 0, slots := 0, locals := 63 } fX0_nextToLeap := con_of (X := xX0_nextToLeap) (own := "LeapStones$Crossing") (ql := qlX0_nextToLeap) (by decide) rfl FOK0 rfl (List.forall_mem_cons.mpr ⟨call_N conX8_walkerBehind cwX8_walkerBehind (lw_gl _ [620, 21] (by decide +kernel) (by decide +kernel)) (List.mem_of_getElem? (i := 26) (by decide +kernel)) ⟨by decide, by decide, by decide +kernel⟩ ⟨rfl, rfl⟩ ⟨by decide, by decide⟩ ⟨Nat.le_refl _, Nat.le_refl _⟩, List.forall_mem_cons.mpr ⟨call_V conX0_keyUnder cwX0_keyUnder (lw_gl _ [623, 407, 408, 28] (by decide +kernel) (by decide +kernel)) (by decide) rfl ⟨by decide, by decide, by decide +kernel⟩ ⟨rfl, rfl⟩ ⟨by decide, by decide⟩ ⟨Nat.le_refl _, Nat.le_refl _⟩, fun _ h => absurd h List.not_mem_nil⟩⟩) (Or.inr (Or.inl ⟨rfl, rfl⟩))
theorem uX0_nextToLeap {i : Nat} {a0 : Int} {S : MM} : fX0_nextToLeap [vR i, vI a0] S = rn xX0_nextToLeap (0, [some (vR i), some (vI a0), none, none], [], S) := rfl
theorem dX0_nextToLeap_0 : decode cX0_nextToLeap 0 = .ok (.iconst 0, 1) := by decide +kernel
theorem dX0_nextToLeap_1 : decode cX0_nextToLeap 1 = .ok (.istore_n 2, 1) := by decide +kernel
theorem dX0_nextToLeap_2 : decode cX0_nextToLeap 2 = .ok (.iload_n 2, 1) := by decide +kernel
theorem dX0_nextToLeap_3 : decode cX0_nextToLeap 3 = .ok (.iconst 3, 1) := by decide +kernel
theorem dX0_nextToLeap_4 : decode cX0_nextToLeap 4 = .ok (.if_icmp .ge 33, 3) := by decide +kernel
theorem dX0_nextToLeap_7 : decode cX0_nextToLeap 7 = .ok (.iload_n 1, 1) := by decide +kernel
theorem dX0_nextToLeap_8 : decode cX0_nextToLeap 8 = .ok (.aload_n 0, 1) := by decide +kernel
theorem dX0_nextToLeap_9 : decode cX0_nextToLeap 9 = .ok (.getfield 69, 3) := by decide +kernel
theorem dX0_nextToLeap_12 : decode cX0_nextToLeap 12 = .ok (.iload_n 2, 1) := by decide +kernel
theorem dX0_nextToLeap_13 : decode cX0_nextToLeap 13 = .ok (.invokestatic 102, 3) := by decide +kernel
theorem dX0_nextToLeap_16 : decode cX0_nextToLeap 16 = .ok (.istore_n 3, 1) := by decide +kernel
theorem dX0_nextToLeap_17 : decode cX0_nextToLeap 17 = .ok (.aload_n 0, 1) := by decide +kernel
theorem dX0_nextToLeap_18 : decode cX0_nextToLeap 18 = .ok (.iload_n 3, 1) := by decide +kernel
theorem dX0_nextToLeap_19 : decode cX0_nextToLeap 19 = .ok (.invokevirtual 113, 3) := by decide +kernel
theorem dX0_nextToLeap_22 : decode cX0_nextToLeap 22 = .ok (.aload_n 0, 1) := by decide +kernel
theorem dX0_nextToLeap_23 : decode cX0_nextToLeap 23 = .ok (.getfield 62, 3) := by decide +kernel
theorem dX0_nextToLeap_26 : decode cX0_nextToLeap 26 = .ok (.if_icmp .ge 5, 3) := by decide +kernel
theorem dX0_nextToLeap_29 : decode cX0_nextToLeap 29 = .ok (.iload_n 3, 1) := by decide +kernel
theorem dX0_nextToLeap_30 : decode cX0_nextToLeap 30 = .ok (.ireturn, 1) := by decide +kernel
theorem dX0_nextToLeap_31 : decode cX0_nextToLeap 31 = .ok (.iinc 2 1, 3) := by decide +kernel
theorem dX0_nextToLeap_34 : decode cX0_nextToLeap 34 = .ok (.goto (-32), 3) := by decide +kernel
theorem dX0_nextToLeap_37 : decode cX0_nextToLeap 37 = .ok (.bipush (-6), 2) := by decide +kernel
theorem dX0_nextToLeap_39 : decode cX0_nextToLeap 39 = .ok (.ireturn, 1) := by decide +kernel
theorem eX0_nextToLeap_0 {l0 l1 l2 l3 : Option VV} {S : MM} : rn xX0_nextToLeap (0, [l0, l1, l2, l3], [], S) = rn xX0_nextToLeap (1, [l0, l1, l2, l3], [vI 0], S) := rn_step dX0_nextToLeap_0 rfl rfl
theorem eX0_nextToLeap_1 {a : Int} {w : Int} {l0 l2 l3 : Option VV} {S : MM} : rn xX0_nextToLeap (1, [l0, some (vI w), l2, l3], [vI a], S) = rn xX0_nextToLeap (2, [l0, some (vI w), some (vI a), l3], [], S) := rn_step dX0_nextToLeap_1 rfl rfl
theorem eX0_nextToLeap_2 {a : Int} {l0 l1 l3 : Option VV} {S : MM} : rn xX0_nextToLeap (2, [l0, l1, some (vI a), l3], [], S) = rn xX0_nextToLeap (3, [l0, l1, some (vI a), l3], [vI a], S) := rn_step dX0_nextToLeap_2 rfl rfl
theorem eX0_nextToLeap_3 {l0 l1 l2 l3 : Option VV} {v0 : VV} {S : MM} : rn xX0_nextToLeap (3, [l0, l1, l2, l3], [v0], S) = rn xX0_nextToLeap (4, [l0, l1, l2, l3], [vI 3, v0], S) := rn_step dX0_nextToLeap_3 rfl rfl
theorem eX0_nextToLeap_4 {a b : Int} {l0 l1 l2 l3 : Option VV} (h : -2147483648 ≤ a ∧ a ≤ 2147483647) (h1 : -2147483648 ≤ b ∧ b ≤ 2147483647) {S : MM} : rn xX0_nextToLeap (4, [l0, l1, l2, l3], [vI b, vI a], S) = if a < b then rn xX0_nextToLeap (7, [l0, l1, l2, l3], [], S) else rn xX0_nextToLeap (37, [l0, l1, l2, l3], [], S) := q_icmp_ge dX0_nextToLeap_4 (by decide) rfl h h1
theorem eX0_nextToLeap_7 {a : Int} {l0 l2 l3 : Option VV} {S : MM} : rn xX0_nextToLeap (7, [l0, some (vI a), l2, l3], [], S) = rn xX0_nextToLeap (8, [l0, some (vI a), l2, l3], [vI a], S) := rn_step dX0_nextToLeap_7 rfl rfl
theorem eX0_nextToLeap_8 {a : Option Nat} {l1 l2 l3 : Option VV} {v0 : VV} {S : MM} : rn xX0_nextToLeap (8, [some (.inr (.inl a)), l1, l2, l3], [v0], S) = rn xX0_nextToLeap (9, [some (.inr (.inl a)), l1, l2, l3], [.inr (.inl a), v0], S) := rn_step dX0_nextToLeap_8 rfl rfl
theorem eX0_nextToLeap_9 {i : Nat} {l0 l1 l2 l3 : Option VV} {v1 : VV} (h : kd i = 0) {S : MM} : rn xX0_nextToLeap (9, [l0, l1, l2, l3], [vR i, v1], S) = rn xX0_nextToLeap (12, [l0, l1, l2, l3], [vI (S i 3), v1], S) := q_getI dX0_nextToLeap_9 rfl ⟨⟨by decide, by decide⟩, by decide⟩ h
theorem eX0_nextToLeap_12 {a : Int} {l0 l1 l3 : Option VV} {v0 v1 : VV} {S : MM} : rn xX0_nextToLeap (12, [l0, l1, some (vI a), l3], [v0, v1], S) = rn xX0_nextToLeap (13, [l0, l1, some (vI a), l3], [vI a, v0, v1], S) := rn_step dX0_nextToLeap_12 rfl rfl
theorem eX0_nextToLeap_13 {a0 : Int} {a1 : Int} {a2 : Int} {l0 l1 l2 l3 : Option VV} {S : MM} : rn xX0_nextToLeap (13, [l0, l1, l2, l3], [vI a2, vI a1, vI a0], S) = (fX8_walkerBehind [vI a0, vI a1, vI a2] S).bind (fun q => rn xX0_nextToLeap (16, [l0, l1, l2, l3], q.1.toList ++ [], q.2)) := q_callS (n := 3) (as := [vI a0, vI a1, vI a2]) (rest := []) dX0_nextToLeap_13 rfl rfl rfl rfl
theorem eX0_nextToLeap_16 {a : Int} {w : Int} {l0 l1 l3 : Option VV} {S : MM} : rn xX0_nextToLeap (16, [l0, l1, some (vI w), l3], [vI a], S) = rn xX0_nextToLeap (17, [l0, l1, some (vI w), some (vI a)], [], S) := rn_step dX0_nextToLeap_16 rfl rfl
theorem eX0_nextToLeap_17 {a : Option Nat} {l1 l2 l3 : Option VV} {S : MM} : rn xX0_nextToLeap (17, [some (.inr (.inl a)), l1, l2, l3], [], S) = rn xX0_nextToLeap (18, [some (.inr (.inl a)), l1, l2, l3], [.inr (.inl a)], S) := rn_step dX0_nextToLeap_17 rfl rfl
theorem eX0_nextToLeap_18 {a : Int} {l0 l1 l2 : Option VV} {v0 : VV} {S : MM} : rn xX0_nextToLeap (18, [l0, l1, l2, some (vI a)], [v0], S) = rn xX0_nextToLeap (19, [l0, l1, l2, some (vI a)], [vI a, v0], S) := rn_step dX0_nextToLeap_18 rfl rfl
theorem eX0_nextToLeap_19 {a0 : Int} {i : Nat} {l0 l1 l2 l3 : Option VV} (h : kd i = 0) {S : MM} : rn xX0_nextToLeap (19, [l0, l1, l2, l3], [vI a0, vR i], S) = (fX0_keyUnder [vR i, vI a0] S).bind (fun q => rn xX0_nextToLeap (22, [l0, l1, l2, l3], q.1.toList ++ [], q.2)) := q_callV (n := 1) (as := [vI a0]) (rest := []) dX0_nextToLeap_19 rfl rfl rfl rfl h
theorem eX0_nextToLeap_22 {a : Option Nat} {l1 l2 l3 : Option VV} {v0 : VV} {S : MM} : rn xX0_nextToLeap (22, [some (.inr (.inl a)), l1, l2, l3], [v0], S) = rn xX0_nextToLeap (23, [some (.inr (.inl a)), l1, l2, l3], [.inr (.inl a), v0], S) := rn_step dX0_nextToLeap_22 rfl rfl
theorem eX0_nextToLeap_23 {i : Nat} {l0 l1 l2 l3 : Option VV} {v1 : VV} (h : kd i = 0) {S : MM} : rn xX0_nextToLeap (23, [l0, l1, l2, l3], [vR i, v1], S) = rn xX0_nextToLeap (26, [l0, l1, l2, l3], [vI (S i 2), v1], S) := q_getI dX0_nextToLeap_23 rfl ⟨⟨by decide, by decide⟩, by decide⟩ h
theorem eX0_nextToLeap_26 {a b : Int} {l0 l1 l2 l3 : Option VV} (h : -2147483648 ≤ a ∧ a ≤ 2147483647) (h1 : -2147483648 ≤ b ∧ b ≤ 2147483647) {S : MM} : rn xX0_nextToLeap (26, [l0, l1, l2, l3], [vI b, vI a], S) = if a < b then rn xX0_nextToLeap (29, [l0, l1, l2, l3], [], S) else rn xX0_nextToLeap (31, [l0, l1, l2, l3], [], S) := q_icmp_ge dX0_nextToLeap_26 (by decide) rfl h h1
theorem eX0_nextToLeap_29 {a : Int} {l0 l1 l2 : Option VV} {S : MM} : rn xX0_nextToLeap (29, [l0, l1, l2, some (vI a)], [], S) = rn xX0_nextToLeap (30, [l0, l1, l2, some (vI a)], [vI a], S) := rn_step dX0_nextToLeap_29 rfl rfl
theorem eX0_nextToLeap_30 {z : Int} {l0 l1 l2 l3 : Option VV} {S : MM} : rn xX0_nextToLeap (30, [l0, l1, l2, l3], [vI z], S) = some (some (vI z), S) := q_retI dX0_nextToLeap_30 rfl
theorem eX0_nextToLeap_31 {a : Int} {w : Int} {l0 l3 : Option VV} {S : MM} : rn xX0_nextToLeap (31, [l0, some (vI w), some (vI a), l3], [], S) = rn xX0_nextToLeap (34, [l0, some (vI w), some (vI (a + 1)), l3], [], S) := rn_step dX0_nextToLeap_31 rfl rfl
theorem eX0_nextToLeap_34 {l0 l1 l2 l3 : Option VV} {S : MM} : rn xX0_nextToLeap (34, [l0, l1, l2, l3], [], S) = rn xX0_nextToLeap (2, [l0, l1, l2, l3], [], S) := rn_step dX0_nextToLeap_34 rfl rfl
theorem eX0_nextToLeap_37 {l0 l1 l2 l3 : Option VV} {S : MM} : rn xX0_nextToLeap (37, [l0, l1, l2, l3], [], S) = rn xX0_nextToLeap (39, [l0, l1, l2, l3], [vI (-6)], S) := rn_step dX0_nextToLeap_37 rfl rfl
theorem eX0_nextToLeap_39 {z : Int} {l0 l1 l2 l3 : Option VV} {S : MM} : rn xX0_nextToLeap (39, [l0, l1, l2, l3], [vI z], S) = some (some (vI z), S) := q_retI dX0_nextToLeap_39 rfl
noncomputable def qlX3_looksOneByOne : List CE := [(0, 26, 3, 2, fX3_keyAt)]
noncomputable def xX3_looksOneByOne : XX := (cX3_looksOneByOne, fcF fcl3, mcF qlX3_looksOneByOne, 1)
noncomputable def fX3_looksOneByOne : FN := fnX xX3_looksOneByOne 5
set_option maxRecDepth 100000 in
theorem cwX3_looksOneByOne : Cond.code yX3_looksOneByOne cX3_looksOneByOne 5 (some .int) ∈ lw_g := lw_gm 632 (by decide +kernel) (by decide +kernel)
set_option maxRecDepth 100000 in
theorem conX3_looksOneByOne : Con yX3_looksOneByOne cX3_looksOneByOne 5 (some .int) { frames := 1, cells := 0, slots := 0, locals := 21 } fX3_looksOneByOne := con_of (X := xX3_looksOneByOne) (own := "LeapStones$Path") (ql := qlX3_looksOneByOne) (by decide) rfl FOK3 rfl (List.forall_mem_cons.mpr ⟨call_V conX3_keyAt cwX3_keyAt (lw_gl _ [371, 372, 373, 25] (by decide +kernel) (by decide +kernel)) (by decide) rfl ⟨by decide, by decide, by decide +kernel⟩ ⟨rfl, rfl⟩ ⟨by decide, by decide⟩ ⟨Nat.le_refl _, Nat.le_refl _⟩, fun _ h => absurd h List.not_mem_nil⟩) (Or.inr (Or.inl ⟨rfl, rfl⟩))
theorem uX3_looksOneByOne {i : Nat} {a0 : Int} {a1 : Int} {S : MM} : fX3_looksOneByOne [vR i, vI a0, vI a1] S = rn xX3_looksOneByOne (0, [some (vR i), some (vI a0), some (vI a1), none, none], [], S) := rfl
theorem dX3_looksOneByOne_0 : decode cX3_looksOneByOne 0 = .ok (.iconst 0, 1) := by decide +kernel
theorem dX3_looksOneByOne_1 : decode cX3_looksOneByOne 1 = .ok (.istore_n 3, 1) := by decide +kernel
theorem dX3_looksOneByOne_2 : decode cX3_looksOneByOne 2 = .ok (.iload_n 1, 1) := by decide +kernel
theorem dX3_looksOneByOne_3 : decode cX3_looksOneByOne 3 = .ok (.iconst 1, 1) := by decide +kernel
theorem dX3_looksOneByOne_4 : decode cX3_looksOneByOne 4 = .ok (.iadd, 1) := by decide +kernel
theorem dX3_looksOneByOne_5 : decode cX3_looksOneByOne 5 = .ok (.istore 4, 2) := by decide +kernel
theorem dX3_looksOneByOne_7 : decode cX3_looksOneByOne 7 = .ok (.iload 4, 2) := by decide +kernel
theorem dX3_looksOneByOne_9 : decode cX3_looksOneByOne 9 = .ok (.aload_n 0, 1) := by decide +kernel
theorem dX3_looksOneByOne_10 : decode cX3_looksOneByOne 10 = .ok (.getfield 18, 3) := by decide +kernel
theorem dX3_looksOneByOne_13 : decode cX3_looksOneByOne 13 = .ok (.if_icmp .ge 25, 3) := by decide +kernel
theorem dX3_looksOneByOne_16 : decode cX3_looksOneByOne 16 = .ok (.iinc 3 1, 3) := by decide +kernel
theorem dX3_looksOneByOne_19 : decode cX3_looksOneByOne 19 = .ok (.aload_n 0, 1) := by decide +kernel
theorem dX3_looksOneByOne_20 : decode cX3_looksOneByOne 20 = .ok (.iload 4, 2) := by decide +kernel
theorem dX3_looksOneByOne_22 : decode cX3_looksOneByOne 22 = .ok (.invokevirtual 26, 3) := by decide +kernel
theorem dX3_looksOneByOne_25 : decode cX3_looksOneByOne 25 = .ok (.iload_n 2, 1) := by decide +kernel
theorem dX3_looksOneByOne_26 : decode cX3_looksOneByOne 26 = .ok (.if_icmp .lt 6, 3) := by decide +kernel
theorem dX3_looksOneByOne_29 : decode cX3_looksOneByOne 29 = .ok (.goto 9, 3) := by decide +kernel
theorem dX3_looksOneByOne_32 : decode cX3_looksOneByOne 32 = .ok (.iinc 4 1, 3) := by decide +kernel
theorem dX3_looksOneByOne_35 : decode cX3_looksOneByOne 35 = .ok (.goto (-28), 3) := by decide +kernel
theorem dX3_looksOneByOne_38 : decode cX3_looksOneByOne 38 = .ok (.iload_n 3, 1) := by decide +kernel
theorem dX3_looksOneByOne_39 : decode cX3_looksOneByOne 39 = .ok (.ireturn, 1) := by decide +kernel
theorem eX3_looksOneByOne_0 {l0 l1 l2 l3 l4 : Option VV} {S : MM} : rn xX3_looksOneByOne (0, [l0, l1, l2, l3, l4], [], S) = rn xX3_looksOneByOne (1, [l0, l1, l2, l3, l4], [vI 0], S) := rn_step dX3_looksOneByOne_0 rfl rfl
theorem eX3_looksOneByOne_1 {a : Int} {w : Int} {l0 l1 l3 l4 : Option VV} {S : MM} : rn xX3_looksOneByOne (1, [l0, l1, some (vI w), l3, l4], [vI a], S) = rn xX3_looksOneByOne (2, [l0, l1, some (vI w), some (vI a), l4], [], S) := rn_step dX3_looksOneByOne_1 rfl rfl
theorem eX3_looksOneByOne_2 {a : Int} {l0 l2 l3 l4 : Option VV} {S : MM} : rn xX3_looksOneByOne (2, [l0, some (vI a), l2, l3, l4], [], S) = rn xX3_looksOneByOne (3, [l0, some (vI a), l2, l3, l4], [vI a], S) := rn_step dX3_looksOneByOne_2 rfl rfl
theorem eX3_looksOneByOne_3 {l0 l1 l2 l3 l4 : Option VV} {v0 : VV} {S : MM} : rn xX3_looksOneByOne (3, [l0, l1, l2, l3, l4], [v0], S) = rn xX3_looksOneByOne (4, [l0, l1, l2, l3, l4], [vI 1, v0], S) := rn_step dX3_looksOneByOne_3 rfl rfl
theorem eX3_looksOneByOne_4 {a b : Int} {l0 l1 l2 l3 l4 : Option VV} {S : MM} : rn xX3_looksOneByOne (4, [l0, l1, l2, l3, l4], [vI b, vI a], S) = rn xX3_looksOneByOne (5, [l0, l1, l2, l3, l4], [vI (a + b)], S) := rn_step dX3_looksOneByOne_4 rfl rfl
theorem eX3_looksOneByOne_5 {a : Int} {w : Int} {l0 l1 l2 l4 : Option VV} {S : MM} : rn xX3_looksOneByOne (5, [l0, l1, l2, some (vI w), l4], [vI a], S) = rn xX3_looksOneByOne (7, [l0, l1, l2, some (vI w), some (vI a)], [], S) := rn_step dX3_looksOneByOne_5 rfl rfl
theorem eX3_looksOneByOne_7 {a : Int} {l0 l1 l2 l3 : Option VV} {S : MM} : rn xX3_looksOneByOne (7, [l0, l1, l2, l3, some (vI a)], [], S) = rn xX3_looksOneByOne (9, [l0, l1, l2, l3, some (vI a)], [vI a], S) := rn_step dX3_looksOneByOne_7 rfl rfl
theorem eX3_looksOneByOne_9 {a : Option Nat} {l1 l2 l3 l4 : Option VV} {v0 : VV} {S : MM} : rn xX3_looksOneByOne (9, [some (.inr (.inl a)), l1, l2, l3, l4], [v0], S) = rn xX3_looksOneByOne (10, [some (.inr (.inl a)), l1, l2, l3, l4], [.inr (.inl a), v0], S) := rn_step dX3_looksOneByOne_9 rfl rfl
theorem eX3_looksOneByOne_10 {i : Nat} {l0 l1 l2 l3 l4 : Option VV} {v1 : VV} (h : kd i = 3) {S : MM} : rn xX3_looksOneByOne (10, [l0, l1, l2, l3, l4], [vR i, v1], S) = rn xX3_looksOneByOne (13, [l0, l1, l2, l3, l4], [vI (S i 2), v1], S) := q_getI dX3_looksOneByOne_10 rfl ⟨⟨by decide, by decide⟩, by decide⟩ h
theorem eX3_looksOneByOne_13 {a b : Int} {l0 l1 l2 l3 l4 : Option VV} (h : -2147483648 ≤ a ∧ a ≤ 2147483647) (h1 : -2147483648 ≤ b ∧ b ≤ 2147483647) {S : MM} : rn xX3_looksOneByOne (13, [l0, l1, l2, l3, l4], [vI b, vI a], S) = if a < b then rn xX3_looksOneByOne (16, [l0, l1, l2, l3, l4], [], S) else rn xX3_looksOneByOne (38, [l0, l1, l2, l3, l4], [], S) := q_icmp_ge dX3_looksOneByOne_13 (by decide) rfl h h1
theorem eX3_looksOneByOne_16 {a : Int} {w : Int} {l0 l1 l4 : Option VV} {S : MM} : rn xX3_looksOneByOne (16, [l0, l1, some (vI w), some (vI a), l4], [], S) = rn xX3_looksOneByOne (19, [l0, l1, some (vI w), some (vI (a + 1)), l4], [], S) := rn_step dX3_looksOneByOne_16 rfl rfl
theorem eX3_looksOneByOne_19 {a : Option Nat} {l1 l2 l3 l4 : Option VV} {S : MM} : rn xX3_looksOneByOne (19, [some (.inr (.inl a)), l1, l2, l3, l4], [], S) = rn xX3_looksOneByOne (20, [some (.inr (.inl a)), l1, l2, l3, l4], [.inr (.inl a)], S) := rn_step dX3_looksOneByOne_19 rfl rfl
theorem eX3_looksOneByOne_20 {a : Int} {l0 l1 l2 l3 : Option VV} {v0 : VV} {S : MM} : rn xX3_looksOneByOne (20, [l0, l1, l2, l3, some (vI a)], [v0], S) = rn xX3_looksOneByOne (22, [l0, l1, l2, l3, some (vI a)], [vI a, v0], S) := rn_step dX3_looksOneByOne_20 rfl rfl
theorem eX3_looksOneByOne_22 {a0 : Int} {i : Nat} {l0 l1 l2 l3 l4 : Option VV} (h : kd i = 3) {S : MM} : rn xX3_looksOneByOne (22, [l0, l1, l2, l3, l4], [vI a0, vR i], S) = (fX3_keyAt [vR i, vI a0] S).bind (fun q => rn xX3_looksOneByOne (25, [l0, l1, l2, l3, l4], q.1.toList ++ [], q.2)) := q_callV (n := 1) (as := [vI a0]) (rest := []) dX3_looksOneByOne_22 rfl rfl rfl rfl h
theorem eX3_looksOneByOne_25 {a : Int} {l0 l1 l3 l4 : Option VV} {v0 : VV} {S : MM} : rn xX3_looksOneByOne (25, [l0, l1, some (vI a), l3, l4], [v0], S) = rn xX3_looksOneByOne (26, [l0, l1, some (vI a), l3, l4], [vI a, v0], S) := rn_step dX3_looksOneByOne_25 rfl rfl
theorem eX3_looksOneByOne_26 {a b : Int} {l0 l1 l2 l3 l4 : Option VV} (h : -2147483648 ≤ a ∧ a ≤ 2147483647) (h1 : -2147483648 ≤ b ∧ b ≤ 2147483647) {S : MM} : rn xX3_looksOneByOne (26, [l0, l1, l2, l3, l4], [vI b, vI a], S) = if a < b then rn xX3_looksOneByOne (32, [l0, l1, l2, l3, l4], [], S) else rn xX3_looksOneByOne (29, [l0, l1, l2, l3, l4], [], S) := q_icmp_lt dX3_looksOneByOne_26 (by decide) rfl h h1
theorem eX3_looksOneByOne_29 {l0 l1 l2 l3 l4 : Option VV} {S : MM} : rn xX3_looksOneByOne (29, [l0, l1, l2, l3, l4], [], S) = rn xX3_looksOneByOne (38, [l0, l1, l2, l3, l4], [], S) := rn_step dX3_looksOneByOne_29 rfl rfl
theorem eX3_looksOneByOne_32 {a : Int} {w : Int} {l0 l1 l2 : Option VV} {S : MM} : rn xX3_looksOneByOne (32, [l0, l1, l2, some (vI w), some (vI a)], [], S) = rn xX3_looksOneByOne (35, [l0, l1, l2, some (vI w), some (vI (a + 1))], [], S) := rn_step dX3_looksOneByOne_32 rfl rfl
theorem eX3_looksOneByOne_35 {l0 l1 l2 l3 l4 : Option VV} {S : MM} : rn xX3_looksOneByOne (35, [l0, l1, l2, l3, l4], [], S) = rn xX3_looksOneByOne (7, [l0, l1, l2, l3, l4], [], S) := rn_step dX3_looksOneByOne_35 rfl rfl
theorem eX3_looksOneByOne_38 {a : Int} {l0 l1 l2 l4 : Option VV} {S : MM} : rn xX3_looksOneByOne (38, [l0, l1, l2, some (vI a), l4], [], S) = rn xX3_looksOneByOne (39, [l0, l1, l2, some (vI a), l4], [vI a], S) := rn_step dX3_looksOneByOne_38 rfl rfl
theorem eX3_looksOneByOne_39 {z : Int} {l0 l1 l2 l3 l4 : Option VV} {S : MM} : rn xX3_looksOneByOne (39, [l0, l1, l2, l3, l4], [vI z], S) = some (some (vI z), S) := q_retI dX3_looksOneByOne_39 rfl
noncomputable def qlX3_looksHalving : List CE := [(0, 26, 3, 2, fX3_keyAt)]
noncomputable def xX3_looksHalving : XX := (cX3_looksHalving, fcF fcl3, mcF qlX3_looksHalving, 1)
noncomputable def fX3_looksHalving : FN := fnX xX3_looksHalving 9
set_option maxRecDepth 100000 in
theorem cwX3_looksHalving : Cond.code yX3_looksHalving cX3_looksHalving 9 (some .int) ∈ lw_g := lw_gm 640 (by decide +kernel) (by decide +kernel)
set_option maxRecDepth 100000 in
theorem conX3_looksHalving : Con yX3_looksHalving cX3_looksHalving 9 (some .int) { frames := 1, cells := 0, slots := 0, locals := 21 } fX3_looksHalving := con_of (X := xX3_looksHalving) (own := "LeapStones$Path") (ql := qlX3_looksHalving) (by decide) rfl FOK3 rfl (List.forall_mem_cons.mpr ⟨call_V conX3_keyAt cwX3_keyAt (lw_gl _ [371, 372, 373, 25] (by decide +kernel) (by decide +kernel)) (by decide) rfl ⟨by decide, by decide, by decide +kernel⟩ ⟨rfl, rfl⟩ ⟨by decide, by decide⟩ ⟨Nat.le_refl _, Nat.le_refl _⟩, fun _ h => absurd h List.not_mem_nil⟩) (Or.inr (Or.inl ⟨rfl, rfl⟩))
theorem uX3_looksHalving {i : Nat} {a0 : Int} {a1 : Int} {a2 : Int} {S : MM} : fX3_looksHalving [vR i, vI a0, vI a1, vI a2] S = rn xX3_looksHalving (0, [some (vR i), some (vI a0), some (vI a1), some (vI a2), none, none, none, none, none], [], S) := rfl
theorem dX3_looksHalving_0 : decode cX3_looksHalving 0 = .ok (.iconst 0, 1) := by decide +kernel
theorem dX3_looksHalving_1 : decode cX3_looksHalving 1 = .ok (.istore 4, 2) := by decide +kernel
theorem dX3_looksHalving_3 : decode cX3_looksHalving 3 = .ok (.iload_n 1, 1) := by decide +kernel
theorem dX3_looksHalving_4 : decode cX3_looksHalving 4 = .ok (.istore 5, 2) := by decide +kernel
theorem dX3_looksHalving_6 : decode cX3_looksHalving 6 = .ok (.iload_n 2, 1) := by decide +kernel
theorem dX3_looksHalving_7 : decode cX3_looksHalving 7 = .ok (.istore 6, 2) := by decide +kernel
theorem dX3_looksHalving_9 : decode cX3_looksHalving 9 = .ok (.iconst 0, 1) := by decide +kernel
theorem dX3_looksHalving_10 : decode cX3_looksHalving 10 = .ok (.istore 7, 2) := by decide +kernel
theorem dX3_looksHalving_12 : decode cX3_looksHalving 12 = .ok (.iload 7, 2) := by decide +kernel
theorem dX3_looksHalving_14 : decode cX3_looksHalving 14 = .ok (.bipush 40, 2) := by decide +kernel
theorem dX3_looksHalving_16 : decode cX3_looksHalving 16 = .ok (.if_icmp .ge 51, 3) := by decide +kernel
theorem dX3_looksHalving_19 : decode cX3_looksHalving 19 = .ok (.iload 6, 2) := by decide +kernel
theorem dX3_looksHalving_21 : decode cX3_looksHalving 21 = .ok (.iload 5, 2) := by decide +kernel
theorem dX3_looksHalving_23 : decode cX3_looksHalving 23 = .ok (.isub, 1) := by decide +kernel
theorem dX3_looksHalving_24 : decode cX3_looksHalving 24 = .ok (.iconst 1, 1) := by decide +kernel
theorem dX3_looksHalving_25 : decode cX3_looksHalving 25 = .ok (.if_icmp .le 42, 3) := by decide +kernel
theorem dX3_looksHalving_28 : decode cX3_looksHalving 28 = .ok (.iload 5, 2) := by decide +kernel
theorem dX3_looksHalving_30 : decode cX3_looksHalving 30 = .ok (.iload 6, 2) := by decide +kernel
theorem dX3_looksHalving_32 : decode cX3_looksHalving 32 = .ok (.iadd, 1) := by decide +kernel
theorem dX3_looksHalving_33 : decode cX3_looksHalving 33 = .ok (.iconst 1, 1) := by decide +kernel
theorem dX3_looksHalving_34 : decode cX3_looksHalving 34 = .ok (.ishr, 1) := by decide +kernel
theorem dX3_looksHalving_35 : decode cX3_looksHalving 35 = .ok (.istore 8, 2) := by decide +kernel
theorem dX3_looksHalving_37 : decode cX3_looksHalving 37 = .ok (.iinc 4 1, 3) := by decide +kernel
theorem dX3_looksHalving_40 : decode cX3_looksHalving 40 = .ok (.aload_n 0, 1) := by decide +kernel
theorem dX3_looksHalving_41 : decode cX3_looksHalving 41 = .ok (.iload 8, 2) := by decide +kernel
theorem dX3_looksHalving_43 : decode cX3_looksHalving 43 = .ok (.invokevirtual 26, 3) := by decide +kernel
theorem dX3_looksHalving_46 : decode cX3_looksHalving 46 = .ok (.iload_n 3, 1) := by decide +kernel
theorem dX3_looksHalving_47 : decode cX3_looksHalving 47 = .ok (.if_icmp .ge 10, 3) := by decide +kernel
theorem dX3_looksHalving_50 : decode cX3_looksHalving 50 = .ok (.iload 8, 2) := by decide +kernel
theorem dX3_looksHalving_52 : decode cX3_looksHalving 52 = .ok (.istore 5, 2) := by decide +kernel
theorem dX3_looksHalving_54 : decode cX3_looksHalving 54 = .ok (.goto 7, 3) := by decide +kernel
theorem dX3_looksHalving_57 : decode cX3_looksHalving 57 = .ok (.iload 8, 2) := by decide +kernel
theorem dX3_looksHalving_59 : decode cX3_looksHalving 59 = .ok (.istore 6, 2) := by decide +kernel
theorem dX3_looksHalving_61 : decode cX3_looksHalving 61 = .ok (.iinc 7 1, 3) := by decide +kernel
theorem dX3_looksHalving_64 : decode cX3_looksHalving 64 = .ok (.goto (-52), 3) := by decide +kernel
theorem dX3_looksHalving_67 : decode cX3_looksHalving 67 = .ok (.iload 4, 2) := by decide +kernel
theorem dX3_looksHalving_69 : decode cX3_looksHalving 69 = .ok (.ireturn, 1) := by decide +kernel
theorem eX3_looksHalving_0 {l0 l1 l2 l3 l4 l5 l6 l7 l8 : Option VV} {S : MM} : rn xX3_looksHalving (0, [l0, l1, l2, l3, l4, l5, l6, l7, l8], [], S) = rn xX3_looksHalving (1, [l0, l1, l2, l3, l4, l5, l6, l7, l8], [vI 0], S) := rn_step dX3_looksHalving_0 rfl rfl
theorem eX3_looksHalving_1 {a : Int} {w : Int} {l0 l1 l2 l4 l5 l6 l7 l8 : Option VV} {S : MM} : rn xX3_looksHalving (1, [l0, l1, l2, some (vI w), l4, l5, l6, l7, l8], [vI a], S) = rn xX3_looksHalving (3, [l0, l1, l2, some (vI w), some (vI a), l5, l6, l7, l8], [], S) := rn_step dX3_looksHalving_1 rfl rfl
theorem eX3_looksHalving_3 {a : Int} {l0 l2 l3 l4 l5 l6 l7 l8 : Option VV} {S : MM} : rn xX3_looksHalving (3, [l0, some (vI a), l2, l3, l4, l5, l6, l7, l8], [], S) = rn xX3_looksHalving (4, [l0, some (vI a), l2, l3, l4, l5, l6, l7, l8], [vI a], S) := rn_step dX3_looksHalving_3 rfl rfl
theorem eX3_looksHalving_4 {a : Int} {w : Int} {l0 l1 l2 l3 l5 l6 l7 l8 : Option VV} {S : MM} : rn xX3_looksHalving (4, [l0, l1, l2, l3, some (vI w), l5, l6, l7, l8], [vI a], S) = rn xX3_looksHalving (6, [l0, l1, l2, l3, some (vI w), some (vI a), l6, l7, l8], [], S) := rn_step dX3_looksHalving_4 rfl rfl
theorem eX3_looksHalving_6 {a : Int} {l0 l1 l3 l4 l5 l6 l7 l8 : Option VV} {S : MM} : rn xX3_looksHalving (6, [l0, l1, some (vI a), l3, l4, l5, l6, l7, l8], [], S) = rn xX3_looksHalving (7, [l0, l1, some (vI a), l3, l4, l5, l6, l7, l8], [vI a], S) := rn_step dX3_looksHalving_6 rfl rfl
theorem eX3_looksHalving_7 {a : Int} {w : Int} {l0 l1 l2 l3 l4 l6 l7 l8 : Option VV} {S : MM} : rn xX3_looksHalving (7, [l0, l1, l2, l3, l4, some (vI w), l6, l7, l8], [vI a], S) = rn xX3_looksHalving (9, [l0, l1, l2, l3, l4, some (vI w), some (vI a), l7, l8], [], S) := rn_step dX3_looksHalving_7 rfl rfl
theorem eX3_looksHalving_9 {l0 l1 l2 l3 l4 l5 l6 l7 l8 : Option VV} {S : MM} : rn xX3_looksHalving (9, [l0, l1, l2, l3, l4, l5, l6, l7, l8], [], S) = rn xX3_looksHalving (10, [l0, l1, l2, l3, l4, l5, l6, l7, l8], [vI 0], S) := rn_step dX3_looksHalving_9 rfl rfl
theorem eX3_looksHalving_10 {a : Int} {w : Int} {l0 l1 l2 l3 l4 l5 l7 l8 : Option VV} {S : MM} : rn xX3_looksHalving (10, [l0, l1, l2, l3, l4, l5, some (vI w), l7, l8], [vI a], S) = rn xX3_looksHalving (12, [l0, l1, l2, l3, l4, l5, some (vI w), some (vI a), l8], [], S) := rn_step dX3_looksHalving_10 rfl rfl
theorem eX3_looksHalving_12 {a : Int} {l0 l1 l2 l3 l4 l5 l6 l8 : Option VV} {S : MM} : rn xX3_looksHalving (12, [l0, l1, l2, l3, l4, l5, l6, some (vI a), l8], [], S) = rn xX3_looksHalving (14, [l0, l1, l2, l3, l4, l5, l6, some (vI a), l8], [vI a], S) := rn_step dX3_looksHalving_12 rfl rfl
theorem eX3_looksHalving_14 {l0 l1 l2 l3 l4 l5 l6 l7 l8 : Option VV} {v0 : VV} {S : MM} : rn xX3_looksHalving (14, [l0, l1, l2, l3, l4, l5, l6, l7, l8], [v0], S) = rn xX3_looksHalving (16, [l0, l1, l2, l3, l4, l5, l6, l7, l8], [vI 40, v0], S) := rn_step dX3_looksHalving_14 rfl rfl
theorem eX3_looksHalving_16 {a b : Int} {l0 l1 l2 l3 l4 l5 l6 l7 l8 : Option VV} (h : -2147483648 ≤ a ∧ a ≤ 2147483647) (h1 : -2147483648 ≤ b ∧ b ≤ 2147483647) {S : MM} : rn xX3_looksHalving (16, [l0, l1, l2, l3, l4, l5, l6, l7, l8], [vI b, vI a], S) = if a < b then rn xX3_looksHalving (19, [l0, l1, l2, l3, l4, l5, l6, l7, l8], [], S) else rn xX3_looksHalving (67, [l0, l1, l2, l3, l4, l5, l6, l7, l8], [], S) := q_icmp_ge dX3_looksHalving_16 (by decide) rfl h h1
theorem eX3_looksHalving_19 {a : Int} {l0 l1 l2 l3 l4 l5 l7 l8 : Option VV} {S : MM} : rn xX3_looksHalving (19, [l0, l1, l2, l3, l4, l5, some (vI a), l7, l8], [], S) = rn xX3_looksHalving (21, [l0, l1, l2, l3, l4, l5, some (vI a), l7, l8], [vI a], S) := rn_step dX3_looksHalving_19 rfl rfl
theorem eX3_looksHalving_21 {a : Int} {l0 l1 l2 l3 l4 l6 l7 l8 : Option VV} {v0 : VV} {S : MM} : rn xX3_looksHalving (21, [l0, l1, l2, l3, l4, some (vI a), l6, l7, l8], [v0], S) = rn xX3_looksHalving (23, [l0, l1, l2, l3, l4, some (vI a), l6, l7, l8], [vI a, v0], S) := rn_step dX3_looksHalving_21 rfl rfl
theorem eX3_looksHalving_23 {a b : Int} {l0 l1 l2 l3 l4 l5 l6 l7 l8 : Option VV} {S : MM} : rn xX3_looksHalving (23, [l0, l1, l2, l3, l4, l5, l6, l7, l8], [vI b, vI a], S) = rn xX3_looksHalving (24, [l0, l1, l2, l3, l4, l5, l6, l7, l8], [vI (a - b)], S) := rn_step dX3_looksHalving_23 rfl rfl
theorem eX3_looksHalving_24 {l0 l1 l2 l3 l4 l5 l6 l7 l8 : Option VV} {v0 : VV} {S : MM} : rn xX3_looksHalving (24, [l0, l1, l2, l3, l4, l5, l6, l7, l8], [v0], S) = rn xX3_looksHalving (25, [l0, l1, l2, l3, l4, l5, l6, l7, l8], [vI 1, v0], S) := rn_step dX3_looksHalving_24 rfl rfl
theorem eX3_looksHalving_25 {a b : Int} {l0 l1 l2 l3 l4 l5 l6 l7 l8 : Option VV} (h : -2147483648 ≤ a ∧ a ≤ 2147483647) (h1 : -2147483648 ≤ b ∧ b ≤ 2147483647) {S : MM} : rn xX3_looksHalving (25, [l0, l1, l2, l3, l4, l5, l6, l7, l8], [vI b, vI a], S) = if b < a then rn xX3_looksHalving (28, [l0, l1, l2, l3, l4, l5, l6, l7, l8], [], S) else rn xX3_looksHalving (67, [l0, l1, l2, l3, l4, l5, l6, l7, l8], [], S) := q_icmp_le dX3_looksHalving_25 (by decide) rfl h h1
theorem eX3_looksHalving_28 {a : Int} {l0 l1 l2 l3 l4 l6 l7 l8 : Option VV} {S : MM} : rn xX3_looksHalving (28, [l0, l1, l2, l3, l4, some (vI a), l6, l7, l8], [], S) = rn xX3_looksHalving (30, [l0, l1, l2, l3, l4, some (vI a), l6, l7, l8], [vI a], S) := rn_step dX3_looksHalving_28 rfl rfl
theorem eX3_looksHalving_30 {a : Int} {l0 l1 l2 l3 l4 l5 l7 l8 : Option VV} {v0 : VV} {S : MM} : rn xX3_looksHalving (30, [l0, l1, l2, l3, l4, l5, some (vI a), l7, l8], [v0], S) = rn xX3_looksHalving (32, [l0, l1, l2, l3, l4, l5, some (vI a), l7, l8], [vI a, v0], S) := rn_step dX3_looksHalving_30 rfl rfl
theorem eX3_looksHalving_32 {a b : Int} {l0 l1 l2 l3 l4 l5 l6 l7 l8 : Option VV} {S : MM} : rn xX3_looksHalving (32, [l0, l1, l2, l3, l4, l5, l6, l7, l8], [vI b, vI a], S) = rn xX3_looksHalving (33, [l0, l1, l2, l3, l4, l5, l6, l7, l8], [vI (a + b)], S) := rn_step dX3_looksHalving_32 rfl rfl
theorem eX3_looksHalving_33 {l0 l1 l2 l3 l4 l5 l6 l7 l8 : Option VV} {v0 : VV} {S : MM} : rn xX3_looksHalving (33, [l0, l1, l2, l3, l4, l5, l6, l7, l8], [v0], S) = rn xX3_looksHalving (34, [l0, l1, l2, l3, l4, l5, l6, l7, l8], [vI 1, v0], S) := rn_step dX3_looksHalving_33 rfl rfl
theorem eX3_looksHalving_34 {a : Int} {l0 l1 l2 l3 l4 l5 l6 l7 l8 : Option VV} (h : -2147483648 ≤ a ∧ a ≤ 2147483647) {S : MM} : rn xX3_looksHalving (34, [l0, l1, l2, l3, l4, l5, l6, l7, l8], [vI 1, vI a], S) = rn xX3_looksHalving (35, [l0, l1, l2, l3, l4, l5, l6, l7, l8], [vI (a / 2)], S) := q_ishrK dX3_looksHalving_34 ⟨by decide, by decide⟩ rfl h
theorem eX3_looksHalving_35 {a : Int} {w : Int} {l0 l1 l2 l3 l4 l5 l6 l8 : Option VV} {S : MM} : rn xX3_looksHalving (35, [l0, l1, l2, l3, l4, l5, l6, some (vI w), l8], [vI a], S) = rn xX3_looksHalving (37, [l0, l1, l2, l3, l4, l5, l6, some (vI w), some (vI a)], [], S) := rn_step dX3_looksHalving_35 rfl rfl
theorem eX3_looksHalving_37 {a : Int} {w : Int} {l0 l1 l2 l5 l6 l7 l8 : Option VV} {S : MM} : rn xX3_looksHalving (37, [l0, l1, l2, some (vI w), some (vI a), l5, l6, l7, l8], [], S) = rn xX3_looksHalving (40, [l0, l1, l2, some (vI w), some (vI (a + 1)), l5, l6, l7, l8], [], S) := rn_step dX3_looksHalving_37 rfl rfl
theorem eX3_looksHalving_40 {a : Option Nat} {l1 l2 l3 l4 l5 l6 l7 l8 : Option VV} {S : MM} : rn xX3_looksHalving (40, [some (.inr (.inl a)), l1, l2, l3, l4, l5, l6, l7, l8], [], S) = rn xX3_looksHalving (41, [some (.inr (.inl a)), l1, l2, l3, l4, l5, l6, l7, l8], [.inr (.inl a)], S) := rn_step dX3_looksHalving_40 rfl rfl
theorem eX3_looksHalving_41 {a : Int} {l0 l1 l2 l3 l4 l5 l6 l7 : Option VV} {v0 : VV} {S : MM} : rn xX3_looksHalving (41, [l0, l1, l2, l3, l4, l5, l6, l7, some (vI a)], [v0], S) = rn xX3_looksHalving (43, [l0, l1, l2, l3, l4, l5, l6, l7, some (vI a)], [vI a, v0], S) := rn_step dX3_looksHalving_41 rfl rfl
theorem eX3_looksHalving_43 {a0 : Int} {i : Nat} {l0 l1 l2 l3 l4 l5 l6 l7 l8 : Option VV} (h : kd i = 3) {S : MM} : rn xX3_looksHalving (43, [l0, l1, l2, l3, l4, l5, l6, l7, l8], [vI a0, vR i], S) = (fX3_keyAt [vR i, vI a0] S).bind (fun q => rn xX3_looksHalving (46, [l0, l1, l2, l3, l4, l5, l6, l7, l8], q.1.toList ++ [], q.2)) := q_callV (n := 1) (as := [vI a0]) (rest := []) dX3_looksHalving_43 rfl rfl rfl rfl h
theorem eX3_looksHalving_46 {a : Int} {l0 l1 l2 l4 l5 l6 l7 l8 : Option VV} {v0 : VV} {S : MM} : rn xX3_looksHalving (46, [l0, l1, l2, some (vI a), l4, l5, l6, l7, l8], [v0], S) = rn xX3_looksHalving (47, [l0, l1, l2, some (vI a), l4, l5, l6, l7, l8], [vI a, v0], S) := rn_step dX3_looksHalving_46 rfl rfl
theorem eX3_looksHalving_47 {a b : Int} {l0 l1 l2 l3 l4 l5 l6 l7 l8 : Option VV} (h : -2147483648 ≤ a ∧ a ≤ 2147483647) (h1 : -2147483648 ≤ b ∧ b ≤ 2147483647) {S : MM} : rn xX3_looksHalving (47, [l0, l1, l2, l3, l4, l5, l6, l7, l8], [vI b, vI a], S) = if a < b then rn xX3_looksHalving (50, [l0, l1, l2, l3, l4, l5, l6, l7, l8], [], S) else rn xX3_looksHalving (57, [l0, l1, l2, l3, l4, l5, l6, l7, l8], [], S) := q_icmp_ge dX3_looksHalving_47 (by decide) rfl h h1
theorem eX3_looksHalving_50 {a : Int} {l0 l1 l2 l3 l4 l5 l6 l7 : Option VV} {S : MM} : rn xX3_looksHalving (50, [l0, l1, l2, l3, l4, l5, l6, l7, some (vI a)], [], S) = rn xX3_looksHalving (52, [l0, l1, l2, l3, l4, l5, l6, l7, some (vI a)], [vI a], S) := rn_step dX3_looksHalving_50 rfl rfl
theorem eX3_looksHalving_52 {a : Int} {w : Int} {l0 l1 l2 l3 l5 l6 l7 l8 : Option VV} {S : MM} : rn xX3_looksHalving (52, [l0, l1, l2, l3, some (vI w), l5, l6, l7, l8], [vI a], S) = rn xX3_looksHalving (54, [l0, l1, l2, l3, some (vI w), some (vI a), l6, l7, l8], [], S) := rn_step dX3_looksHalving_52 rfl rfl
theorem eX3_looksHalving_54 {l0 l1 l2 l3 l4 l5 l6 l7 l8 : Option VV} {S : MM} : rn xX3_looksHalving (54, [l0, l1, l2, l3, l4, l5, l6, l7, l8], [], S) = rn xX3_looksHalving (61, [l0, l1, l2, l3, l4, l5, l6, l7, l8], [], S) := rn_step dX3_looksHalving_54 rfl rfl
theorem eX3_looksHalving_57 {a : Int} {l0 l1 l2 l3 l4 l5 l6 l7 : Option VV} {S : MM} : rn xX3_looksHalving (57, [l0, l1, l2, l3, l4, l5, l6, l7, some (vI a)], [], S) = rn xX3_looksHalving (59, [l0, l1, l2, l3, l4, l5, l6, l7, some (vI a)], [vI a], S) := rn_step dX3_looksHalving_57 rfl rfl
theorem eX3_looksHalving_59 {a : Int} {w : Int} {l0 l1 l2 l3 l4 l6 l7 l8 : Option VV} {S : MM} : rn xX3_looksHalving (59, [l0, l1, l2, l3, l4, some (vI w), l6, l7, l8], [vI a], S) = rn xX3_looksHalving (61, [l0, l1, l2, l3, l4, some (vI w), some (vI a), l7, l8], [], S) := rn_step dX3_looksHalving_59 rfl rfl
theorem eX3_looksHalving_61 {a : Int} {w : Int} {l0 l1 l2 l3 l4 l5 l8 : Option VV} {S : MM} : rn xX3_looksHalving (61, [l0, l1, l2, l3, l4, l5, some (vI w), some (vI a), l8], [], S) = rn xX3_looksHalving (64, [l0, l1, l2, l3, l4, l5, some (vI w), some (vI (a + 1)), l8], [], S) := rn_step dX3_looksHalving_61 rfl rfl
theorem eX3_looksHalving_64 {l0 l1 l2 l3 l4 l5 l6 l7 l8 : Option VV} {S : MM} : rn xX3_looksHalving (64, [l0, l1, l2, l3, l4, l5, l6, l7, l8], [], S) = rn xX3_looksHalving (12, [l0, l1, l2, l3, l4, l5, l6, l7, l8], [], S) := rn_step dX3_looksHalving_64 rfl rfl
theorem eX3_looksHalving_67 {a : Int} {l0 l1 l2 l3 l5 l6 l7 l8 : Option VV} {S : MM} : rn xX3_looksHalving (67, [l0, l1, l2, l3, some (vI a), l5, l6, l7, l8], [], S) = rn xX3_looksHalving (69, [l0, l1, l2, l3, some (vI a), l5, l6, l7, l8], [vI a], S) := rn_step dX3_looksHalving_67 rfl rfl
theorem eX3_looksHalving_69 {z : Int} {l0 l1 l2 l3 l4 l5 l6 l7 l8 : Option VV} {S : MM} : rn xX3_looksHalving (69, [l0, l1, l2, l3, l4, l5, l6, l7, l8], [vI z], S) = some (some (vI z), S) := q_retI dX3_looksHalving_69 rfl
noncomputable def qlX3_looksDoubling : List CE := [(0, 26, 3, 2, fX3_keyAt), (0, 56, 3, 4, fX3_looksHalving)]
noncomputable def xX3_looksDoubling : XX := (cX3_looksDoubling, fcF fcl3, mcF qlX3_looksDoubling, 1)
noncomputable def fX3_looksDoubling : FN := fnX xX3_looksDoubling 7
set_option maxRecDepth 100000 in
theorem cwX3_looksDoubling : Cond.code yX3_looksDoubling cX3_looksDoubling 7 (some .int) ∈ lw_g := lw_gm 636 (by decide +kernel) (by decide +kernel)
set_option maxRecDepth 100000 in
theorem conX3_looksDoubling : Con yX3_looksDoubling cX3_looksDoubling 7 (some .int) { frames := 2, cells := 0, slots := 0, locals := 49 } fX3_looksDoubling := con_of (X := xX3_looksDoubling) (own := "LeapStones$Path") (ql := qlX3_looksDoubling) (by decide) rfl FOK3 rfl (List.forall_mem_cons.mpr ⟨call_V conX3_keyAt cwX3_keyAt (lw_gl _ [371, 372, 373, 25] (by decide +kernel) (by decide +kernel)) (by decide) rfl ⟨by decide, by decide, by decide +kernel⟩ ⟨rfl, rfl⟩ ⟨by decide, by decide⟩ ⟨Nat.le_refl _, Nat.le_refl _⟩, List.forall_mem_cons.mpr ⟨call_V conX3_looksHalving cwX3_looksHalving (lw_gl _ [637, 639, 8, 25] (by decide +kernel) (by decide +kernel)) (by decide) rfl ⟨by decide, by decide, by decide +kernel⟩ ⟨rfl, rfl⟩ ⟨by decide, by decide⟩ ⟨Nat.le_refl _, Nat.le_refl _⟩, fun _ h => absurd h List.not_mem_nil⟩⟩) (Or.inr (Or.inl ⟨rfl, rfl⟩))
theorem uX3_looksDoubling {i : Nat} {a0 : Int} {a1 : Int} {S : MM} : fX3_looksDoubling [vR i, vI a0, vI a1] S = rn xX3_looksDoubling (0, [some (vR i), some (vI a0), some (vI a1), none, none, none, none], [], S) := rfl
theorem dX3_looksDoubling_0 : decode cX3_looksDoubling 0 = .ok (.iconst 0, 1) := by decide +kernel
theorem dX3_looksDoubling_1 : decode cX3_looksDoubling 1 = .ok (.istore_n 3, 1) := by decide +kernel
theorem dX3_looksDoubling_2 : decode cX3_looksDoubling 2 = .ok (.iload_n 1, 1) := by decide +kernel
theorem dX3_looksDoubling_3 : decode cX3_looksDoubling 3 = .ok (.istore 4, 2) := by decide +kernel
theorem dX3_looksDoubling_5 : decode cX3_looksDoubling 5 = .ok (.aload_n 0, 1) := by decide +kernel
theorem dX3_looksDoubling_6 : decode cX3_looksDoubling 6 = .ok (.getfield 18, 3) := by decide +kernel
theorem dX3_looksDoubling_9 : decode cX3_looksDoubling 9 = .ok (.istore 5, 2) := by decide +kernel
theorem dX3_looksDoubling_11 : decode cX3_looksDoubling 11 = .ok (.iconst 1, 1) := by decide +kernel
theorem dX3_looksDoubling_12 : decode cX3_looksDoubling 12 = .ok (.istore 6, 2) := by decide +kernel
theorem dX3_looksDoubling_14 : decode cX3_looksDoubling 14 = .ok (.iload_n 1, 1) := by decide +kernel
theorem dX3_looksDoubling_15 : decode cX3_looksDoubling 15 = .ok (.iload 6, 2) := by decide +kernel
theorem dX3_looksDoubling_17 : decode cX3_looksDoubling 17 = .ok (.iadd, 1) := by decide +kernel
theorem dX3_looksDoubling_18 : decode cX3_looksDoubling 18 = .ok (.aload_n 0, 1) := by decide +kernel
theorem dX3_looksDoubling_19 : decode cX3_looksDoubling 19 = .ok (.getfield 18, 3) := by decide +kernel
theorem dX3_looksDoubling_22 : decode cX3_looksDoubling 22 = .ok (.if_icmp .ge 42, 3) := by decide +kernel
theorem dX3_looksDoubling_25 : decode cX3_looksDoubling 25 = .ok (.iinc 3 1, 3) := by decide +kernel
theorem dX3_looksDoubling_28 : decode cX3_looksDoubling 28 = .ok (.aload_n 0, 1) := by decide +kernel
theorem dX3_looksDoubling_29 : decode cX3_looksDoubling 29 = .ok (.iload_n 1, 1) := by decide +kernel
theorem dX3_looksDoubling_30 : decode cX3_looksDoubling 30 = .ok (.iload 6, 2) := by decide +kernel
theorem dX3_looksDoubling_32 : decode cX3_looksDoubling 32 = .ok (.iadd, 1) := by decide +kernel
theorem dX3_looksDoubling_33 : decode cX3_looksDoubling 33 = .ok (.invokevirtual 26, 3) := by decide +kernel
theorem dX3_looksDoubling_36 : decode cX3_looksDoubling 36 = .ok (.iload_n 2, 1) := by decide +kernel
theorem dX3_looksDoubling_37 : decode cX3_looksDoubling 37 = .ok (.if_icmp .lt 12, 3) := by decide +kernel
theorem dX3_looksDoubling_40 : decode cX3_looksDoubling 40 = .ok (.iload_n 1, 1) := by decide +kernel
theorem dX3_looksDoubling_41 : decode cX3_looksDoubling 41 = .ok (.iload 6, 2) := by decide +kernel
theorem dX3_looksDoubling_43 : decode cX3_looksDoubling 43 = .ok (.iadd, 1) := by decide +kernel
theorem dX3_looksDoubling_44 : decode cX3_looksDoubling 44 = .ok (.istore 5, 2) := by decide +kernel
theorem dX3_looksDoubling_46 : decode cX3_looksDoubling 46 = .ok (.goto 18, 3) := by decide +kernel
theorem dX3_looksDoubling_49 : decode cX3_looksDoubling 49 = .ok (.iload_n 1, 1) := by decide +kernel
theorem dX3_looksDoubling_50 : decode cX3_looksDoubling 50 = .ok (.iload 6, 2) := by decide +kernel
theorem dX3_looksDoubling_52 : decode cX3_looksDoubling 52 = .ok (.iadd, 1) := by decide +kernel
theorem dX3_looksDoubling_53 : decode cX3_looksDoubling 53 = .ok (.istore 4, 2) := by decide +kernel
theorem dX3_looksDoubling_55 : decode cX3_looksDoubling 55 = .ok (.iload 6, 2) := by decide +kernel
theorem dX3_looksDoubling_57 : decode cX3_looksDoubling 57 = .ok (.iconst 2, 1) := by decide +kernel
theorem dX3_looksDoubling_58 : decode cX3_looksDoubling 58 = .ok (.imul, 1) := by decide +kernel
theorem dX3_looksDoubling_59 : decode cX3_looksDoubling 59 = .ok (.istore 6, 2) := by decide +kernel
theorem dX3_looksDoubling_61 : decode cX3_looksDoubling 61 = .ok (.goto (-47), 3) := by decide +kernel
theorem dX3_looksDoubling_64 : decode cX3_looksDoubling 64 = .ok (.iload_n 3, 1) := by decide +kernel
theorem dX3_looksDoubling_65 : decode cX3_looksDoubling 65 = .ok (.aload_n 0, 1) := by decide +kernel
theorem dX3_looksDoubling_66 : decode cX3_looksDoubling 66 = .ok (.iload 4, 2) := by decide +kernel
theorem dX3_looksDoubling_68 : decode cX3_looksDoubling 68 = .ok (.iload 5, 2) := by decide +kernel
theorem dX3_looksDoubling_70 : decode cX3_looksDoubling 70 = .ok (.iload_n 2, 1) := by decide +kernel
theorem dX3_looksDoubling_71 : decode cX3_looksDoubling 71 = .ok (.invokevirtual 56, 3) := by decide +kernel
theorem dX3_looksDoubling_74 : decode cX3_looksDoubling 74 = .ok (.iadd, 1) := by decide +kernel
theorem dX3_looksDoubling_75 : decode cX3_looksDoubling 75 = .ok (.ireturn, 1) := by decide +kernel
theorem eX3_looksDoubling_0 {l0 l1 l2 l3 l4 l5 l6 : Option VV} {S : MM} : rn xX3_looksDoubling (0, [l0, l1, l2, l3, l4, l5, l6], [], S) = rn xX3_looksDoubling (1, [l0, l1, l2, l3, l4, l5, l6], [vI 0], S) := rn_step dX3_looksDoubling_0 rfl rfl
theorem eX3_looksDoubling_1 {a : Int} {w : Int} {l0 l1 l3 l4 l5 l6 : Option VV} {S : MM} : rn xX3_looksDoubling (1, [l0, l1, some (vI w), l3, l4, l5, l6], [vI a], S) = rn xX3_looksDoubling (2, [l0, l1, some (vI w), some (vI a), l4, l5, l6], [], S) := rn_step dX3_looksDoubling_1 rfl rfl
theorem eX3_looksDoubling_2 {a : Int} {l0 l2 l3 l4 l5 l6 : Option VV} {S : MM} : rn xX3_looksDoubling (2, [l0, some (vI a), l2, l3, l4, l5, l6], [], S) = rn xX3_looksDoubling (3, [l0, some (vI a), l2, l3, l4, l5, l6], [vI a], S) := rn_step dX3_looksDoubling_2 rfl rfl
theorem eX3_looksDoubling_3 {a : Int} {w : Int} {l0 l1 l2 l4 l5 l6 : Option VV} {S : MM} : rn xX3_looksDoubling (3, [l0, l1, l2, some (vI w), l4, l5, l6], [vI a], S) = rn xX3_looksDoubling (5, [l0, l1, l2, some (vI w), some (vI a), l5, l6], [], S) := rn_step dX3_looksDoubling_3 rfl rfl
theorem eX3_looksDoubling_5 {a : Option Nat} {l1 l2 l3 l4 l5 l6 : Option VV} {S : MM} : rn xX3_looksDoubling (5, [some (.inr (.inl a)), l1, l2, l3, l4, l5, l6], [], S) = rn xX3_looksDoubling (6, [some (.inr (.inl a)), l1, l2, l3, l4, l5, l6], [.inr (.inl a)], S) := rn_step dX3_looksDoubling_5 rfl rfl
theorem eX3_looksDoubling_6 {i : Nat} {l0 l1 l2 l3 l4 l5 l6 : Option VV} (h : kd i = 3) {S : MM} : rn xX3_looksDoubling (6, [l0, l1, l2, l3, l4, l5, l6], [vR i], S) = rn xX3_looksDoubling (9, [l0, l1, l2, l3, l4, l5, l6], [vI (S i 2)], S) := q_getI dX3_looksDoubling_6 rfl ⟨⟨by decide, by decide⟩, by decide⟩ h
theorem eX3_looksDoubling_9 {a : Int} {w : Int} {l0 l1 l2 l3 l5 l6 : Option VV} {S : MM} : rn xX3_looksDoubling (9, [l0, l1, l2, l3, some (vI w), l5, l6], [vI a], S) = rn xX3_looksDoubling (11, [l0, l1, l2, l3, some (vI w), some (vI a), l6], [], S) := rn_step dX3_looksDoubling_9 rfl rfl
theorem eX3_looksDoubling_11 {l0 l1 l2 l3 l4 l5 l6 : Option VV} {S : MM} : rn xX3_looksDoubling (11, [l0, l1, l2, l3, l4, l5, l6], [], S) = rn xX3_looksDoubling (12, [l0, l1, l2, l3, l4, l5, l6], [vI 1], S) := rn_step dX3_looksDoubling_11 rfl rfl
theorem eX3_looksDoubling_12 {a : Int} {w : Int} {l0 l1 l2 l3 l4 l6 : Option VV} {S : MM} : rn xX3_looksDoubling (12, [l0, l1, l2, l3, l4, some (vI w), l6], [vI a], S) = rn xX3_looksDoubling (14, [l0, l1, l2, l3, l4, some (vI w), some (vI a)], [], S) := rn_step dX3_looksDoubling_12 rfl rfl
theorem eX3_looksDoubling_14 {a : Int} {l0 l2 l3 l4 l5 l6 : Option VV} {S : MM} : rn xX3_looksDoubling (14, [l0, some (vI a), l2, l3, l4, l5, l6], [], S) = rn xX3_looksDoubling (15, [l0, some (vI a), l2, l3, l4, l5, l6], [vI a], S) := rn_step dX3_looksDoubling_14 rfl rfl
theorem eX3_looksDoubling_15 {a : Int} {l0 l1 l2 l3 l4 l5 : Option VV} {v0 : VV} {S : MM} : rn xX3_looksDoubling (15, [l0, l1, l2, l3, l4, l5, some (vI a)], [v0], S) = rn xX3_looksDoubling (17, [l0, l1, l2, l3, l4, l5, some (vI a)], [vI a, v0], S) := rn_step dX3_looksDoubling_15 rfl rfl
theorem eX3_looksDoubling_17 {a b : Int} {l0 l1 l2 l3 l4 l5 l6 : Option VV} {S : MM} : rn xX3_looksDoubling (17, [l0, l1, l2, l3, l4, l5, l6], [vI b, vI a], S) = rn xX3_looksDoubling (18, [l0, l1, l2, l3, l4, l5, l6], [vI (a + b)], S) := rn_step dX3_looksDoubling_17 rfl rfl
theorem eX3_looksDoubling_18 {a : Option Nat} {l1 l2 l3 l4 l5 l6 : Option VV} {v0 : VV} {S : MM} : rn xX3_looksDoubling (18, [some (.inr (.inl a)), l1, l2, l3, l4, l5, l6], [v0], S) = rn xX3_looksDoubling (19, [some (.inr (.inl a)), l1, l2, l3, l4, l5, l6], [.inr (.inl a), v0], S) := rn_step dX3_looksDoubling_18 rfl rfl
theorem eX3_looksDoubling_19 {i : Nat} {l0 l1 l2 l3 l4 l5 l6 : Option VV} {v1 : VV} (h : kd i = 3) {S : MM} : rn xX3_looksDoubling (19, [l0, l1, l2, l3, l4, l5, l6], [vR i, v1], S) = rn xX3_looksDoubling (22, [l0, l1, l2, l3, l4, l5, l6], [vI (S i 2), v1], S) := q_getI dX3_looksDoubling_19 rfl ⟨⟨by decide, by decide⟩, by decide⟩ h
theorem eX3_looksDoubling_22 {a b : Int} {l0 l1 l2 l3 l4 l5 l6 : Option VV} (h : -2147483648 ≤ a ∧ a ≤ 2147483647) (h1 : -2147483648 ≤ b ∧ b ≤ 2147483647) {S : MM} : rn xX3_looksDoubling (22, [l0, l1, l2, l3, l4, l5, l6], [vI b, vI a], S) = if a < b then rn xX3_looksDoubling (25, [l0, l1, l2, l3, l4, l5, l6], [], S) else rn xX3_looksDoubling (64, [l0, l1, l2, l3, l4, l5, l6], [], S) := q_icmp_ge dX3_looksDoubling_22 (by decide) rfl h h1
theorem eX3_looksDoubling_25 {a : Int} {w : Int} {l0 l1 l4 l5 l6 : Option VV} {S : MM} : rn xX3_looksDoubling (25, [l0, l1, some (vI w), some (vI a), l4, l5, l6], [], S) = rn xX3_looksDoubling (28, [l0, l1, some (vI w), some (vI (a + 1)), l4, l5, l6], [], S) := rn_step dX3_looksDoubling_25 rfl rfl
theorem eX3_looksDoubling_28 {a : Option Nat} {l1 l2 l3 l4 l5 l6 : Option VV} {S : MM} : rn xX3_looksDoubling (28, [some (.inr (.inl a)), l1, l2, l3, l4, l5, l6], [], S) = rn xX3_looksDoubling (29, [some (.inr (.inl a)), l1, l2, l3, l4, l5, l6], [.inr (.inl a)], S) := rn_step dX3_looksDoubling_28 rfl rfl
theorem eX3_looksDoubling_29 {a : Int} {l0 l2 l3 l4 l5 l6 : Option VV} {v0 : VV} {S : MM} : rn xX3_looksDoubling (29, [l0, some (vI a), l2, l3, l4, l5, l6], [v0], S) = rn xX3_looksDoubling (30, [l0, some (vI a), l2, l3, l4, l5, l6], [vI a, v0], S) := rn_step dX3_looksDoubling_29 rfl rfl
theorem eX3_looksDoubling_30 {a : Int} {l0 l1 l2 l3 l4 l5 : Option VV} {v0 v1 : VV} {S : MM} : rn xX3_looksDoubling (30, [l0, l1, l2, l3, l4, l5, some (vI a)], [v0, v1], S) = rn xX3_looksDoubling (32, [l0, l1, l2, l3, l4, l5, some (vI a)], [vI a, v0, v1], S) := rn_step dX3_looksDoubling_30 rfl rfl
theorem eX3_looksDoubling_32 {a b : Int} {l0 l1 l2 l3 l4 l5 l6 : Option VV} {v2 : VV} {S : MM} : rn xX3_looksDoubling (32, [l0, l1, l2, l3, l4, l5, l6], [vI b, vI a, v2], S) = rn xX3_looksDoubling (33, [l0, l1, l2, l3, l4, l5, l6], [vI (a + b), v2], S) := rn_step dX3_looksDoubling_32 rfl rfl
theorem eX3_looksDoubling_33 {a0 : Int} {i : Nat} {l0 l1 l2 l3 l4 l5 l6 : Option VV} (h : kd i = 3) {S : MM} : rn xX3_looksDoubling (33, [l0, l1, l2, l3, l4, l5, l6], [vI a0, vR i], S) = (fX3_keyAt [vR i, vI a0] S).bind (fun q => rn xX3_looksDoubling (36, [l0, l1, l2, l3, l4, l5, l6], q.1.toList ++ [], q.2)) := q_callV (n := 1) (as := [vI a0]) (rest := []) dX3_looksDoubling_33 rfl rfl rfl rfl h
theorem eX3_looksDoubling_36 {a : Int} {l0 l1 l3 l4 l5 l6 : Option VV} {v0 : VV} {S : MM} : rn xX3_looksDoubling (36, [l0, l1, some (vI a), l3, l4, l5, l6], [v0], S) = rn xX3_looksDoubling (37, [l0, l1, some (vI a), l3, l4, l5, l6], [vI a, v0], S) := rn_step dX3_looksDoubling_36 rfl rfl
theorem eX3_looksDoubling_37 {a b : Int} {l0 l1 l2 l3 l4 l5 l6 : Option VV} (h : -2147483648 ≤ a ∧ a ≤ 2147483647) (h1 : -2147483648 ≤ b ∧ b ≤ 2147483647) {S : MM} : rn xX3_looksDoubling (37, [l0, l1, l2, l3, l4, l5, l6], [vI b, vI a], S) = if a < b then rn xX3_looksDoubling (49, [l0, l1, l2, l3, l4, l5, l6], [], S) else rn xX3_looksDoubling (40, [l0, l1, l2, l3, l4, l5, l6], [], S) := q_icmp_lt dX3_looksDoubling_37 (by decide) rfl h h1
theorem eX3_looksDoubling_40 {a : Int} {l0 l2 l3 l4 l5 l6 : Option VV} {S : MM} : rn xX3_looksDoubling (40, [l0, some (vI a), l2, l3, l4, l5, l6], [], S) = rn xX3_looksDoubling (41, [l0, some (vI a), l2, l3, l4, l5, l6], [vI a], S) := rn_step dX3_looksDoubling_40 rfl rfl
theorem eX3_looksDoubling_41 {a : Int} {l0 l1 l2 l3 l4 l5 : Option VV} {v0 : VV} {S : MM} : rn xX3_looksDoubling (41, [l0, l1, l2, l3, l4, l5, some (vI a)], [v0], S) = rn xX3_looksDoubling (43, [l0, l1, l2, l3, l4, l5, some (vI a)], [vI a, v0], S) := rn_step dX3_looksDoubling_41 rfl rfl
theorem eX3_looksDoubling_43 {a b : Int} {l0 l1 l2 l3 l4 l5 l6 : Option VV} {S : MM} : rn xX3_looksDoubling (43, [l0, l1, l2, l3, l4, l5, l6], [vI b, vI a], S) = rn xX3_looksDoubling (44, [l0, l1, l2, l3, l4, l5, l6], [vI (a + b)], S) := rn_step dX3_looksDoubling_43 rfl rfl
theorem eX3_looksDoubling_44 {a : Int} {w : Int} {l0 l1 l2 l3 l5 l6 : Option VV} {S : MM} : rn xX3_looksDoubling (44, [l0, l1, l2, l3, some (vI w), l5, l6], [vI a], S) = rn xX3_looksDoubling (46, [l0, l1, l2, l3, some (vI w), some (vI a), l6], [], S) := rn_step dX3_looksDoubling_44 rfl rfl
theorem eX3_looksDoubling_46 {l0 l1 l2 l3 l4 l5 l6 : Option VV} {S : MM} : rn xX3_looksDoubling (46, [l0, l1, l2, l3, l4, l5, l6], [], S) = rn xX3_looksDoubling (64, [l0, l1, l2, l3, l4, l5, l6], [], S) := rn_step dX3_looksDoubling_46 rfl rfl
theorem eX3_looksDoubling_49 {a : Int} {l0 l2 l3 l4 l5 l6 : Option VV} {S : MM} : rn xX3_looksDoubling (49, [l0, some (vI a), l2, l3, l4, l5, l6], [], S) = rn xX3_looksDoubling (50, [l0, some (vI a), l2, l3, l4, l5, l6], [vI a], S) := rn_step dX3_looksDoubling_49 rfl rfl
theorem eX3_looksDoubling_50 {a : Int} {l0 l1 l2 l3 l4 l5 : Option VV} {v0 : VV} {S : MM} : rn xX3_looksDoubling (50, [l0, l1, l2, l3, l4, l5, some (vI a)], [v0], S) = rn xX3_looksDoubling (52, [l0, l1, l2, l3, l4, l5, some (vI a)], [vI a, v0], S) := rn_step dX3_looksDoubling_50 rfl rfl
theorem eX3_looksDoubling_52 {a b : Int} {l0 l1 l2 l3 l4 l5 l6 : Option VV} {S : MM} : rn xX3_looksDoubling (52, [l0, l1, l2, l3, l4, l5, l6], [vI b, vI a], S) = rn xX3_looksDoubling (53, [l0, l1, l2, l3, l4, l5, l6], [vI (a + b)], S) := rn_step dX3_looksDoubling_52 rfl rfl
theorem eX3_looksDoubling_53 {a : Int} {w : Int} {l0 l1 l2 l4 l5 l6 : Option VV} {S : MM} : rn xX3_looksDoubling (53, [l0, l1, l2, some (vI w), l4, l5, l6], [vI a], S) = rn xX3_looksDoubling (55, [l0, l1, l2, some (vI w), some (vI a), l5, l6], [], S) := rn_step dX3_looksDoubling_53 rfl rfl
theorem eX3_looksDoubling_55 {a : Int} {l0 l1 l2 l3 l4 l5 : Option VV} {S : MM} : rn xX3_looksDoubling (55, [l0, l1, l2, l3, l4, l5, some (vI a)], [], S) = rn xX3_looksDoubling (57, [l0, l1, l2, l3, l4, l5, some (vI a)], [vI a], S) := rn_step dX3_looksDoubling_55 rfl rfl
theorem eX3_looksDoubling_57 {l0 l1 l2 l3 l4 l5 l6 : Option VV} {v0 : VV} {S : MM} : rn xX3_looksDoubling (57, [l0, l1, l2, l3, l4, l5, l6], [v0], S) = rn xX3_looksDoubling (58, [l0, l1, l2, l3, l4, l5, l6], [vI 2, v0], S) := rn_step dX3_looksDoubling_57 rfl rfl
theorem eX3_looksDoubling_58 {a b : Int} {l0 l1 l2 l3 l4 l5 l6 : Option VV} {S : MM} : rn xX3_looksDoubling (58, [l0, l1, l2, l3, l4, l5, l6], [vI b, vI a], S) = rn xX3_looksDoubling (59, [l0, l1, l2, l3, l4, l5, l6], [vI (a * b)], S) := rn_step dX3_looksDoubling_58 rfl rfl
theorem eX3_looksDoubling_59 {a : Int} {w : Int} {l0 l1 l2 l3 l4 l6 : Option VV} {S : MM} : rn xX3_looksDoubling (59, [l0, l1, l2, l3, l4, some (vI w), l6], [vI a], S) = rn xX3_looksDoubling (61, [l0, l1, l2, l3, l4, some (vI w), some (vI a)], [], S) := rn_step dX3_looksDoubling_59 rfl rfl
theorem eX3_looksDoubling_61 {l0 l1 l2 l3 l4 l5 l6 : Option VV} {S : MM} : rn xX3_looksDoubling (61, [l0, l1, l2, l3, l4, l5, l6], [], S) = rn xX3_looksDoubling (14, [l0, l1, l2, l3, l4, l5, l6], [], S) := rn_step dX3_looksDoubling_61 rfl rfl
theorem eX3_looksDoubling_64 {a : Int} {l0 l1 l2 l4 l5 l6 : Option VV} {S : MM} : rn xX3_looksDoubling (64, [l0, l1, l2, some (vI a), l4, l5, l6], [], S) = rn xX3_looksDoubling (65, [l0, l1, l2, some (vI a), l4, l5, l6], [vI a], S) := rn_step dX3_looksDoubling_64 rfl rfl
theorem eX3_looksDoubling_65 {a : Option Nat} {l1 l2 l3 l4 l5 l6 : Option VV} {v0 : VV} {S : MM} : rn xX3_looksDoubling (65, [some (.inr (.inl a)), l1, l2, l3, l4, l5, l6], [v0], S) = rn xX3_looksDoubling (66, [some (.inr (.inl a)), l1, l2, l3, l4, l5, l6], [.inr (.inl a), v0], S) := rn_step dX3_looksDoubling_65 rfl rfl
theorem eX3_looksDoubling_66 {a : Int} {l0 l1 l2 l3 l5 l6 : Option VV} {v0 v1 : VV} {S : MM} : rn xX3_looksDoubling (66, [l0, l1, l2, l3, some (vI a), l5, l6], [v0, v1], S) = rn xX3_looksDoubling (68, [l0, l1, l2, l3, some (vI a), l5, l6], [vI a, v0, v1], S) := rn_step dX3_looksDoubling_66 rfl rfl
theorem eX3_looksDoubling_68 {a : Int} {l0 l1 l2 l3 l4 l6 : Option VV} {v0 v1 v2 : VV} {S : MM} : rn xX3_looksDoubling (68, [l0, l1, l2, l3, l4, some (vI a), l6], [v0, v1, v2], S) = rn xX3_looksDoubling (70, [l0, l1, l2, l3, l4, some (vI a), l6], [vI a, v0, v1, v2], S) := rn_step dX3_looksDoubling_68 rfl rfl
theorem eX3_looksDoubling_70 {a : Int} {l0 l1 l3 l4 l5 l6 : Option VV} {v0 v1 v2 v3 : VV} {S : MM} : rn xX3_looksDoubling (70, [l0, l1, some (vI a), l3, l4, l5, l6], [v0, v1, v2, v3], S) = rn xX3_looksDoubling (71, [l0, l1, some (vI a), l3, l4, l5, l6], [vI a, v0, v1, v2, v3], S) := rn_step dX3_looksDoubling_70 rfl rfl
theorem eX3_looksDoubling_71 {a0 : Int} {a1 : Int} {a2 : Int} {i : Nat} {l0 l1 l2 l3 l4 l5 l6 : Option VV} {v4 : VV} (h : kd i = 3) {S : MM} : rn xX3_looksDoubling (71, [l0, l1, l2, l3, l4, l5, l6], [vI a2, vI a1, vI a0, vR i, v4], S) = (fX3_looksHalving [vR i, vI a0, vI a1, vI a2] S).bind (fun q => rn xX3_looksDoubling (74, [l0, l1, l2, l3, l4, l5, l6], q.1.toList ++ [v4], q.2)) := q_callV (n := 3) (as := [vI a0, vI a1, vI a2]) (rest := [v4]) dX3_looksDoubling_71 rfl rfl rfl rfl h
theorem eX3_looksDoubling_74 {a b : Int} {l0 l1 l2 l3 l4 l5 l6 : Option VV} {S : MM} : rn xX3_looksDoubling (74, [l0, l1, l2, l3, l4, l5, l6], [vI b, vI a], S) = rn xX3_looksDoubling (75, [l0, l1, l2, l3, l4, l5, l6], [vI (a + b)], S) := rn_step dX3_looksDoubling_74 rfl rfl
theorem eX3_looksDoubling_75 {z : Int} {l0 l1 l2 l3 l4 l5 l6 : Option VV} {S : MM} : rn xX3_looksDoubling (75, [l0, l1, l2, l3, l4, l5, l6], [vI z], S) = some (some (vI z), S) := q_retI dX3_looksDoubling_75 rfl
noncomputable def qlX3_looksFor : List CE := [(0, 50, 3, 3, fX3_looksOneByOne), (0, 53, 3, 3, fX3_looksDoubling), (0, 56, 3, 4, fX3_looksHalving)]
noncomputable def xX3_looksFor : XX := (cX3_looksFor, fcF fcl3, mcF qlX3_looksFor, 1)
noncomputable def fX3_looksFor : FN := fnX xX3_looksFor 4
set_option maxRecDepth 100000 in
theorem cwX3_looksFor : Cond.code yX3_looksFor cX3_looksFor 4 (some .int) ∈ lw_g := lw_gm 628 (by decide +kernel) (by decide +kernel)
set_option maxRecDepth 100000 in
theorem conX3_looksFor : Con yX3_looksFor cX3_looksFor 4 (some .int) { frames := 3, cells := 0, slots := 0, locals := 75 } fX3_looksFor := con_of (X := xX3_looksFor) (own := "LeapStones$Path") (ql := qlX3_looksFor) (by decide) rfl FOK3 rfl (List.forall_mem_cons.mpr ⟨call_V conX3_looksOneByOne cwX3_looksOneByOne (lw_gl _ [629, 631, 6, 25] (by decide +kernel) (by decide +kernel)) (by decide) rfl ⟨by decide, by decide, by decide +kernel⟩ ⟨rfl, rfl⟩ ⟨by decide, by decide⟩ ⟨Nat.le_refl _, Nat.le_refl _⟩, List.forall_mem_cons.mpr ⟨call_V conX3_looksDoubling cwX3_looksDoubling (lw_gl _ [633, 635, 7, 25] (by decide +kernel) (by decide +kernel)) (by decide) rfl ⟨by decide, by decide, by decide +kernel⟩ ⟨rfl, rfl⟩ ⟨by decide, by decide⟩ ⟨Nat.le_refl _, Nat.le_refl _⟩, List.forall_mem_cons.mpr ⟨call_V conX3_looksHalving cwX3_looksHalving (lw_gl _ [637, 639, 8, 25] (by decide +kernel) (by decide +kernel)) (by decide) rfl ⟨by decide, by decide, by decide +kernel⟩ ⟨rfl, rfl⟩ ⟨by decide, by decide⟩ ⟨Nat.le_refl _, Nat.le_refl _⟩, fun _ h => absurd h List.not_mem_nil⟩⟩⟩) (Or.inr (Or.inl ⟨rfl, rfl⟩))
theorem uX3_looksFor {i : Nat} {a0 : Int} {a1 : Int} {a2 : Int} {S : MM} : fX3_looksFor [vR i, vI a0, vI a1, vI a2] S = rn xX3_looksFor (0, [some (vR i), some (vI a0), some (vI a1), some (vI a2)], [], S) := rfl
theorem dX3_looksFor_0 : decode cX3_looksFor 0 = .ok (.iload_n 1, 1) := by decide +kernel
theorem dX3_looksFor_1 : decode cX3_looksFor 1 = .ok (.lookupswitch 41 #[(0, 27), (1, 34)], 27) := by decide +kernel
theorem dX3_looksFor_28 : decode cX3_looksFor 28 = .ok (.aload_n 0, 1) := by decide +kernel
theorem dX3_looksFor_29 : decode cX3_looksFor 29 = .ok (.iload_n 2, 1) := by decide +kernel
theorem dX3_looksFor_30 : decode cX3_looksFor 30 = .ok (.iload_n 3, 1) := by decide +kernel
theorem dX3_looksFor_31 : decode cX3_looksFor 31 = .ok (.invokevirtual 50, 3) := by decide +kernel
theorem dX3_looksFor_34 : decode cX3_looksFor 34 = .ok (.ireturn, 1) := by decide +kernel
theorem dX3_looksFor_35 : decode cX3_looksFor 35 = .ok (.aload_n 0, 1) := by decide +kernel
theorem dX3_looksFor_36 : decode cX3_looksFor 36 = .ok (.iload_n 2, 1) := by decide +kernel
theorem dX3_looksFor_37 : decode cX3_looksFor 37 = .ok (.iload_n 3, 1) := by decide +kernel
theorem dX3_looksFor_38 : decode cX3_looksFor 38 = .ok (.invokevirtual 53, 3) := by decide +kernel
theorem dX3_looksFor_41 : decode cX3_looksFor 41 = .ok (.ireturn, 1) := by decide +kernel
theorem dX3_looksFor_42 : decode cX3_looksFor 42 = .ok (.aload_n 0, 1) := by decide +kernel
theorem dX3_looksFor_43 : decode cX3_looksFor 43 = .ok (.iload_n 2, 1) := by decide +kernel
theorem dX3_looksFor_44 : decode cX3_looksFor 44 = .ok (.aload_n 0, 1) := by decide +kernel
theorem dX3_looksFor_45 : decode cX3_looksFor 45 = .ok (.getfield 18, 3) := by decide +kernel
theorem dX3_looksFor_48 : decode cX3_looksFor 48 = .ok (.iload_n 3, 1) := by decide +kernel
theorem dX3_looksFor_49 : decode cX3_looksFor 49 = .ok (.invokevirtual 56, 3) := by decide +kernel
theorem dX3_looksFor_52 : decode cX3_looksFor 52 = .ok (.ireturn, 1) := by decide +kernel
theorem eX3_looksFor_0 {a : Int} {l0 l2 l3 : Option VV} {S : MM} : rn xX3_looksFor (0, [l0, some (vI a), l2, l3], [], S) = rn xX3_looksFor (1, [l0, some (vI a), l2, l3], [vI a], S) := rn_step dX3_looksFor_0 rfl rfl
theorem eX3_looksFor_1p : srt2 #[(0, 27), (1, 34)] = true := by decide +kernel
theorem eX3_looksFor_1o0 : Op.lookupswitch.offset (#[(0, 27), (1, 34)] : Array (Int × Int)).toList 41 0 = 27 := by decide +kernel
theorem eX3_looksFor_1o1 : Op.lookupswitch.offset (#[(0, 27), (1, 34)] : Array (Int × Int)).toList 41 1 = 34 := by decide +kernel
theorem eX3_looksFor_1d {a : Int} (c0 : ¬ a = 0) (c1 : ¬ a = 1) : Op.lookupswitch.offset (#[(0, 27), (1, 34)] : Array (Int × Int)).toList 41 a = 41 := by
  show Op.lookupswitch.offset [(0, 27), (1, 34)] 41 a = 41
  rw [Op.lookupswitch.offset_cons, if_neg (fun q => c0 q.symm), Op.lookupswitch.offset_cons, if_neg (fun q => c1 q.symm)]
  rfl
theorem eX3_looksFor_1 {a : Int} {l0 l1 l2 l3 : Option VV} (h : -2147483648 ≤ a ∧ a ≤ 2147483647) {S : MM} : rn xX3_looksFor (1, [l0, l1, l2, l3], [vI a], S) = if a = 0 then rn xX3_looksFor (28, [l0, l1, l2, l3], [], S) else if a = 1 then rn xX3_looksFor (35, [l0, l1, l2, l3], [], S) else rn xX3_looksFor (42, [l0, l1, l2, l3], [], S) := by
  by_cases c0 : a = 0
  · subst c0; rw [if_pos rfl]; exact q_look (X := xX3_looksFor) (pc := 1) (L := [l0, l1, l2, l3]) (st := []) (S := S) (x := 0) (t := 28) dX3_looksFor_1 eX3_looksFor_1p h eX3_looksFor_1o0 (by decide) rfl
  rw [if_neg c0]
  by_cases c1 : a = 1
  · subst c1; rw [if_pos rfl]; exact q_look (X := xX3_looksFor) (pc := 1) (L := [l0, l1, l2, l3]) (st := []) (S := S) (x := 1) (t := 35) dX3_looksFor_1 eX3_looksFor_1p h eX3_looksFor_1o1 (by decide) rfl
  rw [if_neg c1]
  exact q_look (X := xX3_looksFor) (pc := 1) (L := [l0, l1, l2, l3]) (st := []) (S := S) (x := a) (t := 42) dX3_looksFor_1 eX3_looksFor_1p h (eX3_looksFor_1d c0 c1) (by decide) rfl
theorem eX3_looksFor_28 {a : Option Nat} {l1 l2 l3 : Option VV} {S : MM} : rn xX3_looksFor (28, [some (.inr (.inl a)), l1, l2, l3], [], S) = rn xX3_looksFor (29, [some (.inr (.inl a)), l1, l2, l3], [.inr (.inl a)], S) := rn_step dX3_looksFor_28 rfl rfl
theorem eX3_looksFor_29 {a : Int} {l0 l1 l3 : Option VV} {v0 : VV} {S : MM} : rn xX3_looksFor (29, [l0, l1, some (vI a), l3], [v0], S) = rn xX3_looksFor (30, [l0, l1, some (vI a), l3], [vI a, v0], S) := rn_step dX3_looksFor_29 rfl rfl
theorem eX3_looksFor_30 {a : Int} {l0 l1 l2 : Option VV} {v0 v1 : VV} {S : MM} : rn xX3_looksFor (30, [l0, l1, l2, some (vI a)], [v0, v1], S) = rn xX3_looksFor (31, [l0, l1, l2, some (vI a)], [vI a, v0, v1], S) := rn_step dX3_looksFor_30 rfl rfl
theorem eX3_looksFor_31 {a0 : Int} {a1 : Int} {i : Nat} {l0 l1 l2 l3 : Option VV} (h : kd i = 3) {S : MM} : rn xX3_looksFor (31, [l0, l1, l2, l3], [vI a1, vI a0, vR i], S) = (fX3_looksOneByOne [vR i, vI a0, vI a1] S).bind (fun q => rn xX3_looksFor (34, [l0, l1, l2, l3], q.1.toList ++ [], q.2)) := q_callV (n := 2) (as := [vI a0, vI a1]) (rest := []) dX3_looksFor_31 rfl rfl rfl rfl h
theorem eX3_looksFor_34 {z : Int} {l0 l1 l2 l3 : Option VV} {S : MM} : rn xX3_looksFor (34, [l0, l1, l2, l3], [vI z], S) = some (some (vI z), S) := q_retI dX3_looksFor_34 rfl
theorem eX3_looksFor_35 {a : Option Nat} {l1 l2 l3 : Option VV} {S : MM} : rn xX3_looksFor (35, [some (.inr (.inl a)), l1, l2, l3], [], S) = rn xX3_looksFor (36, [some (.inr (.inl a)), l1, l2, l3], [.inr (.inl a)], S) := rn_step dX3_looksFor_35 rfl rfl
theorem eX3_looksFor_36 {a : Int} {l0 l1 l3 : Option VV} {v0 : VV} {S : MM} : rn xX3_looksFor (36, [l0, l1, some (vI a), l3], [v0], S) = rn xX3_looksFor (37, [l0, l1, some (vI a), l3], [vI a, v0], S) := rn_step dX3_looksFor_36 rfl rfl
theorem eX3_looksFor_37 {a : Int} {l0 l1 l2 : Option VV} {v0 v1 : VV} {S : MM} : rn xX3_looksFor (37, [l0, l1, l2, some (vI a)], [v0, v1], S) = rn xX3_looksFor (38, [l0, l1, l2, some (vI a)], [vI a, v0, v1], S) := rn_step dX3_looksFor_37 rfl rfl
theorem eX3_looksFor_38 {a0 : Int} {a1 : Int} {i : Nat} {l0 l1 l2 l3 : Option VV} (h : kd i = 3) {S : MM} : rn xX3_looksFor (38, [l0, l1, l2, l3], [vI a1, vI a0, vR i], S) = (fX3_looksDoubling [vR i, vI a0, vI a1] S).bind (fun q => rn xX3_looksFor (41, [l0, l1, l2, l3], q.1.toList ++ [], q.2)) := q_callV (n := 2) (as := [vI a0, vI a1]) (rest := []) dX3_looksFor_38 rfl rfl rfl rfl h
theorem eX3_looksFor_41 {z : Int} {l0 l1 l2 l3 : Option VV} {S : MM} : rn xX3_looksFor (41, [l0, l1, l2, l3], [vI z], S) = some (some (vI z), S) := q_retI dX3_looksFor_41 rfl
theorem eX3_looksFor_42 {a : Option Nat} {l1 l2 l3 : Option VV} {S : MM} : rn xX3_looksFor (42, [some (.inr (.inl a)), l1, l2, l3], [], S) = rn xX3_looksFor (43, [some (.inr (.inl a)), l1, l2, l3], [.inr (.inl a)], S) := rn_step dX3_looksFor_42 rfl rfl
theorem eX3_looksFor_43 {a : Int} {l0 l1 l3 : Option VV} {v0 : VV} {S : MM} : rn xX3_looksFor (43, [l0, l1, some (vI a), l3], [v0], S) = rn xX3_looksFor (44, [l0, l1, some (vI a), l3], [vI a, v0], S) := rn_step dX3_looksFor_43 rfl rfl
theorem eX3_looksFor_44 {a : Option Nat} {l1 l2 l3 : Option VV} {v0 v1 : VV} {S : MM} : rn xX3_looksFor (44, [some (.inr (.inl a)), l1, l2, l3], [v0, v1], S) = rn xX3_looksFor (45, [some (.inr (.inl a)), l1, l2, l3], [.inr (.inl a), v0, v1], S) := rn_step dX3_looksFor_44 rfl rfl
theorem eX3_looksFor_45 {i : Nat} {l0 l1 l2 l3 : Option VV} {v1 v2 : VV} (h : kd i = 3) {S : MM} : rn xX3_looksFor (45, [l0, l1, l2, l3], [vR i, v1, v2], S) = rn xX3_looksFor (48, [l0, l1, l2, l3], [vI (S i 2), v1, v2], S) := q_getI dX3_looksFor_45 rfl ⟨⟨by decide, by decide⟩, by decide⟩ h
theorem eX3_looksFor_48 {a : Int} {l0 l1 l2 : Option VV} {v0 v1 v2 : VV} {S : MM} : rn xX3_looksFor (48, [l0, l1, l2, some (vI a)], [v0, v1, v2], S) = rn xX3_looksFor (49, [l0, l1, l2, some (vI a)], [vI a, v0, v1, v2], S) := rn_step dX3_looksFor_48 rfl rfl
theorem eX3_looksFor_49 {a0 : Int} {a1 : Int} {a2 : Int} {i : Nat} {l0 l1 l2 l3 : Option VV} (h : kd i = 3) {S : MM} : rn xX3_looksFor (49, [l0, l1, l2, l3], [vI a2, vI a1, vI a0, vR i], S) = (fX3_looksHalving [vR i, vI a0, vI a1, vI a2] S).bind (fun q => rn xX3_looksFor (52, [l0, l1, l2, l3], q.1.toList ++ [], q.2)) := q_callV (n := 3) (as := [vI a0, vI a1, vI a2]) (rest := []) dX3_looksFor_49 rfl rfl rfl rfl h
theorem eX3_looksFor_52 {z : Int} {l0 l1 l2 l3 : Option VV} {S : MM} : rn xX3_looksFor (52, [l0, l1, l2, l3], [vI z], S) = some (some (vI z), S) := q_retI dX3_looksFor_52 rfl
noncomputable def qlX0_step : List CE := [(0, 56, 7, 2, fX7_valueOf), (0, 87, 0, 2, fX0_nextToLeap), (1, 48, 0, 1, fX8_isWalker), (0, 72, 5, 2, fX5_pathOf), (0, 78, 3, 2, fX3_firstKeyFrom), (0, 90, 3, 2, fX3_placeFrom), (0, 93, 3, 4, fX3_looksFor), (1, 97, 0, 2, f_max), (1, 102, 0, 3, fX8_walkerBehind), (0, 83, 0, 3, fX0_lookRound)]
noncomputable def xX0_step : XX := (cX0_step, fcF fcl0, mcF qlX0_step, 1)
noncomputable def fX0_step : FN := fnX xX0_step 8
set_option maxRecDepth 100000 in
theorem cwX0_step : Cond.code yX0_step cX0_step 8 (some .int) ∈ lw_g := lw_gm 614 (by decide +kernel) (by decide +kernel)
set_option maxRecDepth 100000 in
theorem conX0_step : Con yX0_step cX0_step 8 (some .int) { frames := 4, cells := 0, slots := 0, locals := 98 } fX0_step := con_of (X := xX0_step) (own := "LeapStones$Crossing") (ql := qlX0_step) (by decide) rfl FOK0 rfl (List.forall_mem_cons.mpr ⟨call_V conX7_valueOf cwX7_valueOf (lw_gl _ [588, 315, 316, 23] (by decide +kernel) (by decide +kernel)) (by decide) rfl ⟨by decide, by decide, by decide +kernel⟩ ⟨rfl, rfl⟩ ⟨by decide, by decide⟩ ⟨Nat.le_refl _, Nat.le_refl _⟩, List.forall_mem_cons.mpr ⟨call_V conX0_nextToLeap cwX0_nextToLeap (lw_gl _ [615, 617, 5, 28] (by decide +kernel) (by decide +kernel)) (by decide) rfl ⟨by decide, by decide, by decide +kernel⟩ ⟨rfl, rfl⟩ ⟨by decide, by decide⟩ ⟨Nat.le_refl _, Nat.le_refl _⟩, List.forall_mem_cons.mpr ⟨call_N conX8_isWalker cwX8_isWalker (lw_gl _ [343, 21] (by decide +kernel) (by decide +kernel)) (List.mem_of_getElem? (i := 20) (by decide +kernel)) ⟨by decide, by decide, by decide +kernel⟩ ⟨rfl, rfl⟩ ⟨by decide, by decide⟩ ⟨Nat.le_refl _, Nat.le_refl _⟩, List.forall_mem_cons.mpr ⟨call_V conX5_pathOf cwX5_pathOf (lw_gl _ [463, 347, 348, 24] (by decide +kernel) (by decide +kernel)) (by decide) rfl ⟨by decide, by decide, by decide +kernel⟩ ⟨rfl, rfl⟩ ⟨by decide, by decide⟩ ⟨Nat.le_refl _, Nat.le_refl _⟩, List.forall_mem_cons.mpr ⟨call_V conX3_firstKeyFrom cwX3_firstKeyFrom (lw_gl _ [468, 469, 470, 25] (by decide +kernel) (by decide +kernel)) (by decide) rfl ⟨by decide, by decide, by decide +kernel⟩ ⟨rfl, rfl⟩ ⟨by decide, by decide⟩ ⟨Nat.le_refl _, Nat.le_refl _⟩, List.forall_mem_cons.mpr ⟨call_V conX3_placeFrom cwX3_placeFrom (lw_gl _ [624, 368, 369, 25] (by decide +kernel) (by decide +kernel)) (by decide) rfl ⟨by decide, by decide, by decide +kernel⟩ ⟨rfl, rfl⟩ ⟨by decide, by decide⟩ ⟨Nat.le_refl _, Nat.le_refl _⟩, List.forall_mem_cons.mpr ⟨call_V conX3_looksFor cwX3_looksFor (lw_gl _ [625, 626, 627, 25] (by decide +kernel) (by decide +kernel)) (by decide) rfl ⟨by decide, by decide, by decide +kernel⟩ ⟨rfl, rfl⟩ ⟨by decide, by decide⟩ ⟨Nat.le_refl _, Nat.le_refl _⟩, List.forall_mem_cons.mpr ⟨call_max (lw_gl _ [331, 332, 30, 333] (by decide +kernel) (by decide +kernel)) ⟨by decide, by decide⟩ ⟨Nat.le_refl _, Nat.le_refl _⟩, List.forall_mem_cons.mpr ⟨call_N conX8_walkerBehind cwX8_walkerBehind (lw_gl _ [620, 21] (by decide +kernel) (by decide +kernel)) (List.mem_of_getElem? (i := 26) (by decide +kernel)) ⟨by decide, by decide, by decide +kernel⟩ ⟨rfl, rfl⟩ ⟨by decide, by decide⟩ ⟨Nat.le_refl _, Nat.le_refl _⟩, List.forall_mem_cons.mpr ⟨call_V conX0_lookRound cwX0_lookRound (lw_gl _ [594, 473, 474, 28] (by decide +kernel) (by decide +kernel)) (by decide) rfl ⟨by decide, by decide, by decide +kernel⟩ ⟨rfl, rfl⟩ ⟨by decide, by decide⟩ ⟨Nat.le_refl _, Nat.le_refl _⟩, fun _ h => absurd h List.not_mem_nil⟩⟩⟩⟩⟩⟩⟩⟩⟩⟩) (Or.inr (Or.inl ⟨rfl, rfl⟩))
theorem uX0_step {i : Nat} {a0 : Option Nat} {a1 : Option Nat} {S : MM} : fX0_step [vR i, .inr (.inl a0), .inr (.inl a1)] S = rn xX0_step (0, [some (vR i), some (.inr (.inl a0)), some (.inr (.inl a1)), none, none, none, none, none], [], S) := rfl
theorem dX0_step_0 : decode cX0_step 0 = .ok (.aload_n 2, 1) := by decide +kernel
theorem dX0_step_1 : decode cX0_step 1 = .ok (.iconst 3, 1) := by decide +kernel
theorem dX0_step_2 : decode cX0_step 2 = .ok (.invokevirtual 56, 3) := by decide +kernel
theorem dX0_step_5 : decode cX0_step 5 = .ok (.istore_n 3, 1) := by decide +kernel
theorem dX0_step_6 : decode cX0_step 6 = .ok (.aload_n 0, 1) := by decide +kernel
theorem dX0_step_7 : decode cX0_step 7 = .ok (.iload_n 3, 1) := by decide +kernel
theorem dX0_step_8 : decode cX0_step 8 = .ok (.invokevirtual 87, 3) := by decide +kernel
theorem dX0_step_11 : decode cX0_step 11 = .ok (.istore 4, 2) := by decide +kernel
theorem dX0_step_13 : decode cX0_step 13 = .ok (.iload 4, 2) := by decide +kernel
theorem dX0_step_15 : decode cX0_step 15 = .ok (.invokestatic 48, 3) := by decide +kernel
theorem dX0_step_18 : decode cX0_step 18 = .ok (.ifCond .ne 6, 3) := by decide +kernel
theorem dX0_step_21 : decode cX0_step 21 = .ok (.bipush (-5), 2) := by decide +kernel
theorem dX0_step_23 : decode cX0_step 23 = .ok (.ireturn, 1) := by decide +kernel
theorem dX0_step_24 : decode cX0_step 24 = .ok (.aload_n 1, 1) := by decide +kernel
theorem dX0_step_25 : decode cX0_step 25 = .ok (.iload 4, 2) := by decide +kernel
theorem dX0_step_27 : decode cX0_step 27 = .ok (.invokevirtual 72, 3) := by decide +kernel
theorem dX0_step_30 : decode cX0_step 30 = .ok (.astore 5, 2) := by decide +kernel
theorem dX0_step_32 : decode cX0_step 32 = .ok (.aload_n 0, 1) := by decide +kernel
theorem dX0_step_33 : decode cX0_step 33 = .ok (.getfield 18, 3) := by decide +kernel
theorem dX0_step_36 : decode cX0_step 36 = .ok (.iload 4, 2) := by decide +kernel
theorem dX0_step_38 : decode cX0_step 38 = .ok (.iaload, 1) := by decide +kernel
theorem dX0_step_39 : decode cX0_step 39 = .ok (.istore 6, 2) := by decide +kernel
theorem dX0_step_41 : decode cX0_step 41 = .ok (.aload 5, 2) := by decide +kernel
theorem dX0_step_43 : decode cX0_step 43 = .ok (.aload_n 0, 1) := by decide +kernel
theorem dX0_step_44 : decode cX0_step 44 = .ok (.getfield 62, 3) := by decide +kernel
theorem dX0_step_47 : decode cX0_step 47 = .ok (.invokevirtual 78, 3) := by decide +kernel
theorem dX0_step_50 : decode cX0_step 50 = .ok (.istore 7, 2) := by decide +kernel
theorem dX0_step_52 : decode cX0_step 52 = .ok (.aload_n 0, 1) := by decide +kernel
theorem dX0_step_53 : decode cX0_step 53 = .ok (.getfield 21, 3) := by decide +kernel
theorem dX0_step_56 : decode cX0_step 56 = .ok (.iload 4, 2) := by decide +kernel
theorem dX0_step_58 : decode cX0_step 58 = .ok (.dup2, 1) := by decide +kernel
theorem dX0_step_59 : decode cX0_step 59 = .ok (.iaload, 1) := by decide +kernel
theorem dX0_step_60 : decode cX0_step 60 = .ok (.iconst 1, 1) := by decide +kernel
theorem dX0_step_61 : decode cX0_step 61 = .ok (.iadd, 1) := by decide +kernel
theorem dX0_step_62 : decode cX0_step 62 = .ok (.iastore, 1) := by decide +kernel
theorem dX0_step_63 : decode cX0_step 63 = .ok (.aload_n 0, 1) := by decide +kernel
theorem dX0_step_64 : decode cX0_step 64 = .ok (.getfield 24, 3) := by decide +kernel
theorem dX0_step_67 : decode cX0_step 67 = .ok (.iload 4, 2) := by decide +kernel
theorem dX0_step_69 : decode cX0_step 69 = .ok (.dup2, 1) := by decide +kernel
theorem dX0_step_70 : decode cX0_step 70 = .ok (.iaload, 1) := by decide +kernel
theorem dX0_step_71 : decode cX0_step 71 = .ok (.aload 5, 2) := by decide +kernel
theorem dX0_step_73 : decode cX0_step 73 = .ok (.aload_n 2, 1) := by decide +kernel
theorem dX0_step_74 : decode cX0_step 74 = .ok (.iconst 2, 1) := by decide +kernel
theorem dX0_step_75 : decode cX0_step 75 = .ok (.invokevirtual 56, 3) := by decide +kernel
theorem dX0_step_78 : decode cX0_step 78 = .ok (.aload 5, 2) := by decide +kernel
theorem dX0_step_80 : decode cX0_step 80 = .ok (.iload 6, 2) := by decide +kernel
theorem dX0_step_82 : decode cX0_step 82 = .ok (.invokevirtual 90, 3) := by decide +kernel
theorem dX0_step_85 : decode cX0_step 85 = .ok (.aload_n 0, 1) := by decide +kernel
theorem dX0_step_86 : decode cX0_step 86 = .ok (.getfield 62, 3) := by decide +kernel
theorem dX0_step_89 : decode cX0_step 89 = .ok (.invokevirtual 93, 3) := by decide +kernel
theorem dX0_step_92 : decode cX0_step 92 = .ok (.iadd, 1) := by decide +kernel
theorem dX0_step_93 : decode cX0_step 93 = .ok (.iastore, 1) := by decide +kernel
theorem dX0_step_94 : decode cX0_step 94 = .ok (.iload 7, 2) := by decide +kernel
theorem dX0_step_96 : decode cX0_step 96 = .ok (.sipush 300, 3) := by decide +kernel
theorem dX0_step_99 : decode cX0_step 99 = .ok (.if_icmp .eq 25, 3) := by decide +kernel
theorem dX0_step_102 : decode cX0_step 102 = .ok (.aload_n 0, 1) := by decide +kernel
theorem dX0_step_103 : decode cX0_step 103 = .ok (.getfield 30, 3) := by decide +kernel
theorem dX0_step_106 : decode cX0_step 106 = .ok (.iload 4, 2) := by decide +kernel
theorem dX0_step_108 : decode cX0_step 108 = .ok (.aload_n 0, 1) := by decide +kernel
theorem dX0_step_109 : decode cX0_step 109 = .ok (.getfield 30, 3) := by decide +kernel
theorem dX0_step_112 : decode cX0_step 112 = .ok (.iload 4, 2) := by decide +kernel
theorem dX0_step_114 : decode cX0_step 114 = .ok (.iaload, 1) := by decide +kernel
theorem dX0_step_115 : decode cX0_step 115 = .ok (.iload 7, 2) := by decide +kernel
theorem dX0_step_117 : decode cX0_step 117 = .ok (.iload 6, 2) := by decide +kernel
theorem dX0_step_119 : decode cX0_step 119 = .ok (.isub, 1) := by decide +kernel
theorem dX0_step_120 : decode cX0_step 120 = .ok (.invokestatic 97, 3) := by decide +kernel
theorem dX0_step_123 : decode cX0_step 123 = .ok (.iastore, 1) := by decide +kernel
theorem dX0_step_124 : decode cX0_step 124 = .ok (.aload_n 0, 1) := by decide +kernel
theorem dX0_step_125 : decode cX0_step 125 = .ok (.getfield 18, 3) := by decide +kernel
theorem dX0_step_128 : decode cX0_step 128 = .ok (.iload 4, 2) := by decide +kernel
theorem dX0_step_130 : decode cX0_step 130 = .ok (.iload 7, 2) := by decide +kernel
theorem dX0_step_132 : decode cX0_step 132 = .ok (.iastore, 1) := by decide +kernel
theorem dX0_step_133 : decode cX0_step 133 = .ok (.aload_n 0, 1) := by decide +kernel
theorem dX0_step_134 : decode cX0_step 134 = .ok (.iload_n 3, 1) := by decide +kernel
theorem dX0_step_135 : decode cX0_step 135 = .ok (.iload 4, 2) := by decide +kernel
theorem dX0_step_137 : decode cX0_step 137 = .ok (.iconst 1, 1) := by decide +kernel
theorem dX0_step_138 : decode cX0_step 138 = .ok (.invokestatic 102, 3) := by decide +kernel
theorem dX0_step_141 : decode cX0_step 141 = .ok (.putfield 69, 3) := by decide +kernel
theorem dX0_step_144 : decode cX0_step 144 = .ok (.aload_n 0, 1) := by decide +kernel
theorem dX0_step_145 : decode cX0_step 145 = .ok (.aload_n 1, 1) := by decide +kernel
theorem dX0_step_146 : decode cX0_step 146 = .ok (.aload_n 2, 1) := by decide +kernel
theorem dX0_step_147 : decode cX0_step 147 = .ok (.iconst 1, 1) := by decide +kernel
theorem dX0_step_148 : decode cX0_step 148 = .ok (.invokevirtual 56, 3) := by decide +kernel
theorem dX0_step_151 : decode cX0_step 151 = .ok (.invokevirtual 83, 3) := by decide +kernel
theorem dX0_step_154 : decode cX0_step 154 = .ok (.iload 4, 2) := by decide +kernel
theorem dX0_step_156 : decode cX0_step 156 = .ok (.ireturn, 1) := by decide +kernel
theorem eX0_step_0 {a : Option Nat} {l0 l1 l3 l4 l5 l6 l7 : Option VV} {S : MM} : rn xX0_step (0, [l0, l1, some (.inr (.inl a)), l3, l4, l5, l6, l7], [], S) = rn xX0_step (1, [l0, l1, some (.inr (.inl a)), l3, l4, l5, l6, l7], [.inr (.inl a)], S) := rn_step dX0_step_0 rfl rfl
theorem eX0_step_1 {l0 l1 l2 l3 l4 l5 l6 l7 : Option VV} {v0 : VV} {S : MM} : rn xX0_step (1, [l0, l1, l2, l3, l4, l5, l6, l7], [v0], S) = rn xX0_step (2, [l0, l1, l2, l3, l4, l5, l6, l7], [vI 3, v0], S) := rn_step dX0_step_1 rfl rfl
theorem eX0_step_2 {a0 : Int} {i : Nat} {l0 l1 l2 l3 l4 l5 l6 l7 : Option VV} (h : kd i = 7) {S : MM} : rn xX0_step (2, [l0, l1, l2, l3, l4, l5, l6, l7], [vI a0, vR i], S) = (fX7_valueOf [vR i, vI a0] S).bind (fun q => rn xX0_step (5, [l0, l1, l2, l3, l4, l5, l6, l7], q.1.toList ++ [], q.2)) := q_callV (n := 1) (as := [vI a0]) (rest := []) dX0_step_2 rfl rfl rfl rfl h
theorem eX0_step_5 {a : Int} {w : Option Nat} {l0 l1 l3 l4 l5 l6 l7 : Option VV} {S : MM} : rn xX0_step (5, [l0, l1, some (.inr (.inl w)), l3, l4, l5, l6, l7], [vI a], S) = rn xX0_step (6, [l0, l1, some (.inr (.inl w)), some (vI a), l4, l5, l6, l7], [], S) := rn_step dX0_step_5 rfl rfl
theorem eX0_step_6 {a : Option Nat} {l1 l2 l3 l4 l5 l6 l7 : Option VV} {S : MM} : rn xX0_step (6, [some (.inr (.inl a)), l1, l2, l3, l4, l5, l6, l7], [], S) = rn xX0_step (7, [some (.inr (.inl a)), l1, l2, l3, l4, l5, l6, l7], [.inr (.inl a)], S) := rn_step dX0_step_6 rfl rfl
theorem eX0_step_7 {a : Int} {l0 l1 l2 l4 l5 l6 l7 : Option VV} {v0 : VV} {S : MM} : rn xX0_step (7, [l0, l1, l2, some (vI a), l4, l5, l6, l7], [v0], S) = rn xX0_step (8, [l0, l1, l2, some (vI a), l4, l5, l6, l7], [vI a, v0], S) := rn_step dX0_step_7 rfl rfl
theorem eX0_step_8 {a0 : Int} {i : Nat} {l0 l1 l2 l3 l4 l5 l6 l7 : Option VV} (h : kd i = 0) {S : MM} : rn xX0_step (8, [l0, l1, l2, l3, l4, l5, l6, l7], [vI a0, vR i], S) = (fX0_nextToLeap [vR i, vI a0] S).bind (fun q => rn xX0_step (11, [l0, l1, l2, l3, l4, l5, l6, l7], q.1.toList ++ [], q.2)) := q_callV (n := 1) (as := [vI a0]) (rest := []) dX0_step_8 rfl rfl rfl rfl h
theorem eX0_step_11 {a : Int} {w : Int} {l0 l1 l2 l4 l5 l6 l7 : Option VV} {S : MM} : rn xX0_step (11, [l0, l1, l2, some (vI w), l4, l5, l6, l7], [vI a], S) = rn xX0_step (13, [l0, l1, l2, some (vI w), some (vI a), l5, l6, l7], [], S) := rn_step dX0_step_11 rfl rfl
theorem eX0_step_13 {a : Int} {l0 l1 l2 l3 l5 l6 l7 : Option VV} {S : MM} : rn xX0_step (13, [l0, l1, l2, l3, some (vI a), l5, l6, l7], [], S) = rn xX0_step (15, [l0, l1, l2, l3, some (vI a), l5, l6, l7], [vI a], S) := rn_step dX0_step_13 rfl rfl
theorem eX0_step_15 {a0 : Int} {l0 l1 l2 l3 l4 l5 l6 l7 : Option VV} {S : MM} : rn xX0_step (15, [l0, l1, l2, l3, l4, l5, l6, l7], [vI a0], S) = (fX8_isWalker [vI a0] S).bind (fun q => rn xX0_step (18, [l0, l1, l2, l3, l4, l5, l6, l7], q.1.toList ++ [], q.2)) := q_callS (n := 1) (as := [vI a0]) (rest := []) dX0_step_15 rfl rfl rfl rfl
theorem eX0_step_18 {a : Int} {l0 l1 l2 l3 l4 l5 l6 l7 : Option VV} (h : -2147483648 ≤ a ∧ a ≤ 2147483647) {S : MM} : rn xX0_step (18, [l0, l1, l2, l3, l4, l5, l6, l7], [vI a], S) = if a = 0 then rn xX0_step (21, [l0, l1, l2, l3, l4, l5, l6, l7], [], S) else rn xX0_step (24, [l0, l1, l2, l3, l4, l5, l6, l7], [], S) := q_if_ne dX0_step_18 (by decide) rfl h
theorem eX0_step_21 {l0 l1 l2 l3 l4 l5 l6 l7 : Option VV} {S : MM} : rn xX0_step (21, [l0, l1, l2, l3, l4, l5, l6, l7], [], S) = rn xX0_step (23, [l0, l1, l2, l3, l4, l5, l6, l7], [vI (-5)], S) := rn_step dX0_step_21 rfl rfl
theorem eX0_step_23 {z : Int} {l0 l1 l2 l3 l4 l5 l6 l7 : Option VV} {S : MM} : rn xX0_step (23, [l0, l1, l2, l3, l4, l5, l6, l7], [vI z], S) = some (some (vI z), S) := q_retI dX0_step_23 rfl
theorem eX0_step_24 {a : Option Nat} {l0 l2 l3 l4 l5 l6 l7 : Option VV} {S : MM} : rn xX0_step (24, [l0, some (.inr (.inl a)), l2, l3, l4, l5, l6, l7], [], S) = rn xX0_step (25, [l0, some (.inr (.inl a)), l2, l3, l4, l5, l6, l7], [.inr (.inl a)], S) := rn_step dX0_step_24 rfl rfl
theorem eX0_step_25 {a : Int} {l0 l1 l2 l3 l5 l6 l7 : Option VV} {v0 : VV} {S : MM} : rn xX0_step (25, [l0, l1, l2, l3, some (vI a), l5, l6, l7], [v0], S) = rn xX0_step (27, [l0, l1, l2, l3, some (vI a), l5, l6, l7], [vI a, v0], S) := rn_step dX0_step_25 rfl rfl
theorem eX0_step_27 {a0 : Int} {i : Nat} {l0 l1 l2 l3 l4 l5 l6 l7 : Option VV} (h : kd i = 5) {S : MM} : rn xX0_step (27, [l0, l1, l2, l3, l4, l5, l6, l7], [vI a0, vR i], S) = (fX5_pathOf [vR i, vI a0] S).bind (fun q => rn xX0_step (30, [l0, l1, l2, l3, l4, l5, l6, l7], q.1.toList ++ [], q.2)) := q_callV (n := 1) (as := [vI a0]) (rest := []) dX0_step_27 rfl rfl rfl rfl h
theorem eX0_step_30 {a : Option Nat} {w : Int} {l0 l1 l2 l3 l5 l6 l7 : Option VV} {S : MM} : rn xX0_step (30, [l0, l1, l2, l3, some (vI w), l5, l6, l7], [.inr (.inl a)], S) = rn xX0_step (32, [l0, l1, l2, l3, some (vI w), some (.inr (.inl a)), l6, l7], [], S) := rn_step dX0_step_30 rfl rfl
theorem eX0_step_32 {a : Option Nat} {l1 l2 l3 l4 l5 l6 l7 : Option VV} {S : MM} : rn xX0_step (32, [some (.inr (.inl a)), l1, l2, l3, l4, l5, l6, l7], [], S) = rn xX0_step (33, [some (.inr (.inl a)), l1, l2, l3, l4, l5, l6, l7], [.inr (.inl a)], S) := rn_step dX0_step_32 rfl rfl
theorem eX0_step_33 {i : Nat} {l0 l1 l2 l3 l4 l5 l6 l7 : Option VV} (h : kd i = 0) {S : MM} : rn xX0_step (33, [l0, l1, l2, l3, l4, l5, l6, l7], [vR i], S) = rn xX0_step (36, [l0, l1, l2, l3, l4, l5, l6, l7], [vR (i + 3)], S) := q_getR dX0_step_33 rfl ⟨⟨by decide, by decide⟩, by decide⟩ (fun h => (fref0 h).trans (by first | rfl | omega)) h
theorem eX0_step_36 {a : Int} {l0 l1 l2 l3 l5 l6 l7 : Option VV} {v0 : VV} {S : MM} : rn xX0_step (36, [l0, l1, l2, l3, some (vI a), l5, l6, l7], [v0], S) = rn xX0_step (38, [l0, l1, l2, l3, some (vI a), l5, l6, l7], [vI a, v0], S) := rn_step dX0_step_36 rfl rfl
theorem eX0_step_38 {i : Nat} {j : Int} {l0 l1 l2 l3 l4 l5 l6 l7 : Option VV} (h : kd i = 10) (h0 : 0 ≤ j) (h1 : j < alen i) {S : MM} : rn xX0_step (38, [l0, l1, l2, l3, l4, l5, l6, l7], [vI j, vR i], S) = rn xX0_step (39, [l0, l1, l2, l3, l4, l5, l6, l7], [vI (S i j.toNat)], S) := q_iald dX0_step_38 h h0 h1
theorem eX0_step_38x {j : Int} {l0 l1 l2 l3 l4 l5 l6 l7 : Option VV} {S : MM} (h0 : 0 ≤ j) (h1 : j < S 604 0) : rn xX0_step (38, [l0, l1, l2, l3, l4, l5, l6, l7], [vI j, vR 602], S) = rn xX0_step (39, [l0, l1, l2, l3, l4, l5, l6, l7], [vI (S 602 j.toNat)], S) := q_ialdX dX0_step_38 h0 h1
theorem eX0_step_38y {j : Int} {l0 l1 l2 l3 l4 l5 l6 l7 : Option VV} {S : MM} (h0 : 0 ≤ j) (h1 : j < S 604 1) : rn xX0_step (38, [l0, l1, l2, l3, l4, l5, l6, l7], [vI j, vR 603], S) = rn xX0_step (39, [l0, l1, l2, l3, l4, l5, l6, l7], [vI (S 603 j.toNat)], S) := q_ialdY dX0_step_38 h0 h1
theorem eX0_step_39 {a : Int} {w : Option Nat} {l0 l1 l2 l3 l4 l6 l7 : Option VV} {S : MM} : rn xX0_step (39, [l0, l1, l2, l3, l4, some (.inr (.inl w)), l6, l7], [vI a], S) = rn xX0_step (41, [l0, l1, l2, l3, l4, some (.inr (.inl w)), some (vI a), l7], [], S) := rn_step dX0_step_39 rfl rfl
theorem eX0_step_41 {a : Option Nat} {l0 l1 l2 l3 l4 l6 l7 : Option VV} {S : MM} : rn xX0_step (41, [l0, l1, l2, l3, l4, some (.inr (.inl a)), l6, l7], [], S) = rn xX0_step (43, [l0, l1, l2, l3, l4, some (.inr (.inl a)), l6, l7], [.inr (.inl a)], S) := rn_step dX0_step_41 rfl rfl
theorem eX0_step_43 {a : Option Nat} {l1 l2 l3 l4 l5 l6 l7 : Option VV} {v0 : VV} {S : MM} : rn xX0_step (43, [some (.inr (.inl a)), l1, l2, l3, l4, l5, l6, l7], [v0], S) = rn xX0_step (44, [some (.inr (.inl a)), l1, l2, l3, l4, l5, l6, l7], [.inr (.inl a), v0], S) := rn_step dX0_step_43 rfl rfl
theorem eX0_step_44 {i : Nat} {l0 l1 l2 l3 l4 l5 l6 l7 : Option VV} {v1 : VV} (h : kd i = 0) {S : MM} : rn xX0_step (44, [l0, l1, l2, l3, l4, l5, l6, l7], [vR i, v1], S) = rn xX0_step (47, [l0, l1, l2, l3, l4, l5, l6, l7], [vI (S i 2), v1], S) := q_getI dX0_step_44 rfl ⟨⟨by decide, by decide⟩, by decide⟩ h
theorem eX0_step_47 {a0 : Int} {i : Nat} {l0 l1 l2 l3 l4 l5 l6 l7 : Option VV} (h : kd i = 3) {S : MM} : rn xX0_step (47, [l0, l1, l2, l3, l4, l5, l6, l7], [vI a0, vR i], S) = (fX3_firstKeyFrom [vR i, vI a0] S).bind (fun q => rn xX0_step (50, [l0, l1, l2, l3, l4, l5, l6, l7], q.1.toList ++ [], q.2)) := q_callV (n := 1) (as := [vI a0]) (rest := []) dX0_step_47 rfl rfl rfl rfl h
theorem eX0_step_50 {a : Int} {w : Int} {l0 l1 l2 l3 l4 l5 l7 : Option VV} {S : MM} : rn xX0_step (50, [l0, l1, l2, l3, l4, l5, some (vI w), l7], [vI a], S) = rn xX0_step (52, [l0, l1, l2, l3, l4, l5, some (vI w), some (vI a)], [], S) := rn_step dX0_step_50 rfl rfl
theorem eX0_step_52 {a : Option Nat} {l1 l2 l3 l4 l5 l6 l7 : Option VV} {S : MM} : rn xX0_step (52, [some (.inr (.inl a)), l1, l2, l3, l4, l5, l6, l7], [], S) = rn xX0_step (53, [some (.inr (.inl a)), l1, l2, l3, l4, l5, l6, l7], [.inr (.inl a)], S) := rn_step dX0_step_52 rfl rfl
theorem eX0_step_53 {i : Nat} {l0 l1 l2 l3 l4 l5 l6 l7 : Option VV} (h : kd i = 0) {S : MM} : rn xX0_step (53, [l0, l1, l2, l3, l4, l5, l6, l7], [vR i], S) = rn xX0_step (56, [l0, l1, l2, l3, l4, l5, l6, l7], [vR (i + 4)], S) := q_getR dX0_step_53 rfl ⟨⟨by decide, by decide⟩, by decide⟩ (fun h => (fref0 h).trans (by first | rfl | omega)) h
theorem eX0_step_56 {a : Int} {l0 l1 l2 l3 l5 l6 l7 : Option VV} {v0 : VV} {S : MM} : rn xX0_step (56, [l0, l1, l2, l3, some (vI a), l5, l6, l7], [v0], S) = rn xX0_step (58, [l0, l1, l2, l3, some (vI a), l5, l6, l7], [vI a, v0], S) := rn_step dX0_step_56 rfl rfl
theorem eX0_step_58 {a : Int} {b : Option Nat} {l0 l1 l2 l3 l4 l5 l6 l7 : Option VV} {S : MM} : rn xX0_step (58, [l0, l1, l2, l3, l4, l5, l6, l7], [vI a, .inr (.inl b)], S) = rn xX0_step (59, [l0, l1, l2, l3, l4, l5, l6, l7], [vI a, .inr (.inl b), vI a, .inr (.inl b)], S) := rn_step dX0_step_58 rfl rfl
theorem eX0_step_59 {i : Nat} {j : Int} {l0 l1 l2 l3 l4 l5 l6 l7 : Option VV} {v2 v3 : VV} (h : kd i = 10) (h0 : 0 ≤ j) (h1 : j < alen i) {S : MM} : rn xX0_step (59, [l0, l1, l2, l3, l4, l5, l6, l7], [vI j, vR i, v2, v3], S) = rn xX0_step (60, [l0, l1, l2, l3, l4, l5, l6, l7], [vI (S i j.toNat), v2, v3], S) := q_iald dX0_step_59 h h0 h1
theorem eX0_step_59x {j : Int} {l0 l1 l2 l3 l4 l5 l6 l7 : Option VV} {v2 v3 : VV} {S : MM} (h0 : 0 ≤ j) (h1 : j < S 604 0) : rn xX0_step (59, [l0, l1, l2, l3, l4, l5, l6, l7], [vI j, vR 602, v2, v3], S) = rn xX0_step (60, [l0, l1, l2, l3, l4, l5, l6, l7], [vI (S 602 j.toNat), v2, v3], S) := q_ialdX dX0_step_59 h0 h1
theorem eX0_step_59y {j : Int} {l0 l1 l2 l3 l4 l5 l6 l7 : Option VV} {v2 v3 : VV} {S : MM} (h0 : 0 ≤ j) (h1 : j < S 604 1) : rn xX0_step (59, [l0, l1, l2, l3, l4, l5, l6, l7], [vI j, vR 603, v2, v3], S) = rn xX0_step (60, [l0, l1, l2, l3, l4, l5, l6, l7], [vI (S 603 j.toNat), v2, v3], S) := q_ialdY dX0_step_59 h0 h1
theorem eX0_step_60 {l0 l1 l2 l3 l4 l5 l6 l7 : Option VV} {v0 v1 v2 : VV} {S : MM} : rn xX0_step (60, [l0, l1, l2, l3, l4, l5, l6, l7], [v0, v1, v2], S) = rn xX0_step (61, [l0, l1, l2, l3, l4, l5, l6, l7], [vI 1, v0, v1, v2], S) := rn_step dX0_step_60 rfl rfl
theorem eX0_step_61 {a b : Int} {l0 l1 l2 l3 l4 l5 l6 l7 : Option VV} {v2 v3 : VV} {S : MM} : rn xX0_step (61, [l0, l1, l2, l3, l4, l5, l6, l7], [vI b, vI a, v2, v3], S) = rn xX0_step (62, [l0, l1, l2, l3, l4, l5, l6, l7], [vI (a + b), v2, v3], S) := rn_step dX0_step_61 rfl rfl
theorem eX0_step_62 {i : Nat} {j z : Int} {l0 l1 l2 l3 l4 l5 l6 l7 : Option VV} (h : kd i = 10) (h0 : 0 ≤ j) (h1 : j < alen i) {S : MM} : rn xX0_step (62, [l0, l1, l2, l3, l4, l5, l6, l7], [vI z, vI j, vR i], S) = rn xX0_step (63, [l0, l1, l2, l3, l4, l5, l6, l7], [], updM S i j.toNat z) := q_iast dX0_step_62 h h0 h1
theorem eX0_step_63 {a : Option Nat} {l1 l2 l3 l4 l5 l6 l7 : Option VV} {S : MM} : rn xX0_step (63, [some (.inr (.inl a)), l1, l2, l3, l4, l5, l6, l7], [], S) = rn xX0_step (64, [some (.inr (.inl a)), l1, l2, l3, l4, l5, l6, l7], [.inr (.inl a)], S) := rn_step dX0_step_63 rfl rfl
theorem eX0_step_64 {i : Nat} {l0 l1 l2 l3 l4 l5 l6 l7 : Option VV} (h : kd i = 0) {S : MM} : rn xX0_step (64, [l0, l1, l2, l3, l4, l5, l6, l7], [vR i], S) = rn xX0_step (67, [l0, l1, l2, l3, l4, l5, l6, l7], [vR (i + 5)], S) := q_getR dX0_step_64 rfl ⟨⟨by decide, by decide⟩, by decide⟩ (fun h => (fref0 h).trans (by first | rfl | omega)) h
theorem eX0_step_67 {a : Int} {l0 l1 l2 l3 l5 l6 l7 : Option VV} {v0 : VV} {S : MM} : rn xX0_step (67, [l0, l1, l2, l3, some (vI a), l5, l6, l7], [v0], S) = rn xX0_step (69, [l0, l1, l2, l3, some (vI a), l5, l6, l7], [vI a, v0], S) := rn_step dX0_step_67 rfl rfl
theorem eX0_step_69 {a : Int} {b : Option Nat} {l0 l1 l2 l3 l4 l5 l6 l7 : Option VV} {S : MM} : rn xX0_step (69, [l0, l1, l2, l3, l4, l5, l6, l7], [vI a, .inr (.inl b)], S) = rn xX0_step (70, [l0, l1, l2, l3, l4, l5, l6, l7], [vI a, .inr (.inl b), vI a, .inr (.inl b)], S) := rn_step dX0_step_69 rfl rfl
theorem eX0_step_70 {i : Nat} {j : Int} {l0 l1 l2 l3 l4 l5 l6 l7 : Option VV} {v2 v3 : VV} (h : kd i = 10) (h0 : 0 ≤ j) (h1 : j < alen i) {S : MM} : rn xX0_step (70, [l0, l1, l2, l3, l4, l5, l6, l7], [vI j, vR i, v2, v3], S) = rn xX0_step (71, [l0, l1, l2, l3, l4, l5, l6, l7], [vI (S i j.toNat), v2, v3], S) := q_iald dX0_step_70 h h0 h1
theorem eX0_step_70x {j : Int} {l0 l1 l2 l3 l4 l5 l6 l7 : Option VV} {v2 v3 : VV} {S : MM} (h0 : 0 ≤ j) (h1 : j < S 604 0) : rn xX0_step (70, [l0, l1, l2, l3, l4, l5, l6, l7], [vI j, vR 602, v2, v3], S) = rn xX0_step (71, [l0, l1, l2, l3, l4, l5, l6, l7], [vI (S 602 j.toNat), v2, v3], S) := q_ialdX dX0_step_70 h0 h1
theorem eX0_step_70y {j : Int} {l0 l1 l2 l3 l4 l5 l6 l7 : Option VV} {v2 v3 : VV} {S : MM} (h0 : 0 ≤ j) (h1 : j < S 604 1) : rn xX0_step (70, [l0, l1, l2, l3, l4, l5, l6, l7], [vI j, vR 603, v2, v3], S) = rn xX0_step (71, [l0, l1, l2, l3, l4, l5, l6, l7], [vI (S 603 j.toNat), v2, v3], S) := q_ialdY dX0_step_70 h0 h1
theorem eX0_step_71 {a : Option Nat} {l0 l1 l2 l3 l4 l6 l7 : Option VV} {v0 v1 v2 : VV} {S : MM} : rn xX0_step (71, [l0, l1, l2, l3, l4, some (.inr (.inl a)), l6, l7], [v0, v1, v2], S) = rn xX0_step (73, [l0, l1, l2, l3, l4, some (.inr (.inl a)), l6, l7], [.inr (.inl a), v0, v1, v2], S) := rn_step dX0_step_71 rfl rfl
theorem eX0_step_73 {a : Option Nat} {l0 l1 l3 l4 l5 l6 l7 : Option VV} {v0 v1 v2 v3 : VV} {S : MM} : rn xX0_step (73, [l0, l1, some (.inr (.inl a)), l3, l4, l5, l6, l7], [v0, v1, v2, v3], S) = rn xX0_step (74, [l0, l1, some (.inr (.inl a)), l3, l4, l5, l6, l7], [.inr (.inl a), v0, v1, v2, v3], S) := rn_step dX0_step_73 rfl rfl
theorem eX0_step_74 {l0 l1 l2 l3 l4 l5 l6 l7 : Option VV} {v0 v1 v2 v3 v4 : VV} {S : MM} : rn xX0_step (74, [l0, l1, l2, l3, l4, l5, l6, l7], [v0, v1, v2, v3, v4], S) = rn xX0_step (75, [l0, l1, l2, l3, l4, l5, l6, l7], [vI 2, v0, v1, v2, v3, v4], S) := rn_step dX0_step_74 rfl rfl
theorem eX0_step_75 {a0 : Int} {i : Nat} {l0 l1 l2 l3 l4 l5 l6 l7 : Option VV} {v2 v3 v4 v5 : VV} (h : kd i = 7) {S : MM} : rn xX0_step (75, [l0, l1, l2, l3, l4, l5, l6, l7], [vI a0, vR i, v2, v3, v4, v5], S) = (fX7_valueOf [vR i, vI a0] S).bind (fun q => rn xX0_step (78, [l0, l1, l2, l3, l4, l5, l6, l7], q.1.toList ++ [v2, v3, v4, v5], q.2)) := q_callV (n := 1) (as := [vI a0]) (rest := [v2, v3, v4, v5]) dX0_step_75 rfl rfl rfl rfl h
theorem eX0_step_78 {a : Option Nat} {l0 l1 l2 l3 l4 l6 l7 : Option VV} {v0 v1 v2 v3 v4 : VV} {S : MM} : rn xX0_step (78, [l0, l1, l2, l3, l4, some (.inr (.inl a)), l6, l7], [v0, v1, v2, v3, v4], S) = rn xX0_step (80, [l0, l1, l2, l3, l4, some (.inr (.inl a)), l6, l7], [.inr (.inl a), v0, v1, v2, v3, v4], S) := rn_step dX0_step_78 rfl rfl
theorem eX0_step_80 {a : Int} {l0 l1 l2 l3 l4 l5 l7 : Option VV} {v0 v1 v2 v3 v4 v5 : VV} {S : MM} : rn xX0_step (80, [l0, l1, l2, l3, l4, l5, some (vI a), l7], [v0, v1, v2, v3, v4, v5], S) = rn xX0_step (82, [l0, l1, l2, l3, l4, l5, some (vI a), l7], [vI a, v0, v1, v2, v3, v4, v5], S) := rn_step dX0_step_80 rfl rfl
theorem eX0_step_82 {a0 : Int} {i : Nat} {l0 l1 l2 l3 l4 l5 l6 l7 : Option VV} {v2 : Int} {v3 : Option Nat} {v4 : Int} {v5 : Int} {v6 : Option Nat} (h : kd i = 3) {S : MM} : rn xX0_step (82, [l0, l1, l2, l3, l4, l5, l6, l7], [vI a0, vR i, vI v2, .inr (.inl v3), vI v4, vI v5, .inr (.inl v6)], S) = (fX3_placeFrom [vR i, vI a0] S).bind (fun q => rn xX0_step (85, [l0, l1, l2, l3, l4, l5, l6, l7], q.1.toList ++ [vI v2, .inr (.inl v3), vI v4, vI v5, .inr (.inl v6)], q.2)) := q_callV (n := 1) (as := [vI a0]) (rest := [vI v2, .inr (.inl v3), vI v4, vI v5, .inr (.inl v6)]) dX0_step_82 rfl rfl rfl rfl h
theorem eX0_step_85 {a : Option Nat} {l1 l2 l3 l4 l5 l6 l7 : Option VV} {v0 v1 v2 v3 v4 v5 : VV} {S : MM} : rn xX0_step (85, [some (.inr (.inl a)), l1, l2, l3, l4, l5, l6, l7], [v0, v1, v2, v3, v4, v5], S) = rn xX0_step (86, [some (.inr (.inl a)), l1, l2, l3, l4, l5, l6, l7], [.inr (.inl a), v0, v1, v2, v3, v4, v5], S) := rn_step dX0_step_85 rfl rfl
theorem eX0_step_86 {i : Nat} {l0 l1 l2 l3 l4 l5 l6 l7 : Option VV} {v1 v2 v3 v4 v5 v6 : VV} (h : kd i = 0) {S : MM} : rn xX0_step (86, [l0, l1, l2, l3, l4, l5, l6, l7], [vR i, v1, v2, v3, v4, v5, v6], S) = rn xX0_step (89, [l0, l1, l2, l3, l4, l5, l6, l7], [vI (S i 2), v1, v2, v3, v4, v5, v6], S) := q_getI dX0_step_86 rfl ⟨⟨by decide, by decide⟩, by decide⟩ h
theorem eX0_step_89 {a0 : Int} {a1 : Int} {a2 : Int} {i : Nat} {l0 l1 l2 l3 l4 l5 l6 l7 : Option VV} {v4 v5 v6 : VV} (h : kd i = 3) {S : MM} : rn xX0_step (89, [l0, l1, l2, l3, l4, l5, l6, l7], [vI a2, vI a1, vI a0, vR i, v4, v5, v6], S) = (fX3_looksFor [vR i, vI a0, vI a1, vI a2] S).bind (fun q => rn xX0_step (92, [l0, l1, l2, l3, l4, l5, l6, l7], q.1.toList ++ [v4, v5, v6], q.2)) := q_callV (n := 3) (as := [vI a0, vI a1, vI a2]) (rest := [v4, v5, v6]) dX0_step_89 rfl rfl rfl rfl h
theorem eX0_step_92 {a b : Int} {l0 l1 l2 l3 l4 l5 l6 l7 : Option VV} {v2 v3 : VV} {S : MM} : rn xX0_step (92, [l0, l1, l2, l3, l4, l5, l6, l7], [vI b, vI a, v2, v3], S) = rn xX0_step (93, [l0, l1, l2, l3, l4, l5, l6, l7], [vI (a + b), v2, v3], S) := rn_step dX0_step_92 rfl rfl
theorem eX0_step_93 {i : Nat} {j z : Int} {l0 l1 l2 l3 l4 l5 l6 l7 : Option VV} (h : kd i = 10) (h0 : 0 ≤ j) (h1 : j < alen i) {S : MM} : rn xX0_step (93, [l0, l1, l2, l3, l4, l5, l6, l7], [vI z, vI j, vR i], S) = rn xX0_step (94, [l0, l1, l2, l3, l4, l5, l6, l7], [], updM S i j.toNat z) := q_iast dX0_step_93 h h0 h1
theorem eX0_step_94 {a : Int} {l0 l1 l2 l3 l4 l5 l6 : Option VV} {S : MM} : rn xX0_step (94, [l0, l1, l2, l3, l4, l5, l6, some (vI a)], [], S) = rn xX0_step (96, [l0, l1, l2, l3, l4, l5, l6, some (vI a)], [vI a], S) := rn_step dX0_step_94 rfl rfl
theorem eX0_step_96 {l0 l1 l2 l3 l4 l5 l6 l7 : Option VV} {v0 : VV} {S : MM} : rn xX0_step (96, [l0, l1, l2, l3, l4, l5, l6, l7], [v0], S) = rn xX0_step (99, [l0, l1, l2, l3, l4, l5, l6, l7], [vI 300, v0], S) := rn_step dX0_step_96 rfl rfl
theorem eX0_step_99 {a b : Int} {l0 l1 l2 l3 l4 l5 l6 l7 : Option VV} (h : -2147483648 ≤ a ∧ a ≤ 2147483647) (h1 : -2147483648 ≤ b ∧ b ≤ 2147483647) {S : MM} : rn xX0_step (99, [l0, l1, l2, l3, l4, l5, l6, l7], [vI b, vI a], S) = if a = b then rn xX0_step (124, [l0, l1, l2, l3, l4, l5, l6, l7], [], S) else rn xX0_step (102, [l0, l1, l2, l3, l4, l5, l6, l7], [], S) := q_icmp_eq dX0_step_99 (by decide) rfl h h1
theorem eX0_step_102 {a : Option Nat} {l1 l2 l3 l4 l5 l6 l7 : Option VV} {S : MM} : rn xX0_step (102, [some (.inr (.inl a)), l1, l2, l3, l4, l5, l6, l7], [], S) = rn xX0_step (103, [some (.inr (.inl a)), l1, l2, l3, l4, l5, l6, l7], [.inr (.inl a)], S) := rn_step dX0_step_102 rfl rfl
theorem eX0_step_103 {i : Nat} {l0 l1 l2 l3 l4 l5 l6 l7 : Option VV} (h : kd i = 0) {S : MM} : rn xX0_step (103, [l0, l1, l2, l3, l4, l5, l6, l7], [vR i], S) = rn xX0_step (106, [l0, l1, l2, l3, l4, l5, l6, l7], [vR (i + 7)], S) := q_getR dX0_step_103 rfl ⟨⟨by decide, by decide⟩, by decide⟩ (fun h => (fref0 h).trans (by first | rfl | omega)) h
theorem eX0_step_106 {a : Int} {l0 l1 l2 l3 l5 l6 l7 : Option VV} {v0 : VV} {S : MM} : rn xX0_step (106, [l0, l1, l2, l3, some (vI a), l5, l6, l7], [v0], S) = rn xX0_step (108, [l0, l1, l2, l3, some (vI a), l5, l6, l7], [vI a, v0], S) := rn_step dX0_step_106 rfl rfl
theorem eX0_step_108 {a : Option Nat} {l1 l2 l3 l4 l5 l6 l7 : Option VV} {v0 v1 : VV} {S : MM} : rn xX0_step (108, [some (.inr (.inl a)), l1, l2, l3, l4, l5, l6, l7], [v0, v1], S) = rn xX0_step (109, [some (.inr (.inl a)), l1, l2, l3, l4, l5, l6, l7], [.inr (.inl a), v0, v1], S) := rn_step dX0_step_108 rfl rfl
theorem eX0_step_109 {i : Nat} {l0 l1 l2 l3 l4 l5 l6 l7 : Option VV} {v1 v2 : VV} (h : kd i = 0) {S : MM} : rn xX0_step (109, [l0, l1, l2, l3, l4, l5, l6, l7], [vR i, v1, v2], S) = rn xX0_step (112, [l0, l1, l2, l3, l4, l5, l6, l7], [vR (i + 7), v1, v2], S) := q_getR dX0_step_109 rfl ⟨⟨by decide, by decide⟩, by decide⟩ (fun h => (fref0 h).trans (by first | rfl | omega)) h
theorem eX0_step_112 {a : Int} {l0 l1 l2 l3 l5 l6 l7 : Option VV} {v0 v1 v2 : VV} {S : MM} : rn xX0_step (112, [l0, l1, l2, l3, some (vI a), l5, l6, l7], [v0, v1, v2], S) = rn xX0_step (114, [l0, l1, l2, l3, some (vI a), l5, l6, l7], [vI a, v0, v1, v2], S) := rn_step dX0_step_112 rfl rfl
theorem eX0_step_114 {i : Nat} {j : Int} {l0 l1 l2 l3 l4 l5 l6 l7 : Option VV} {v2 v3 : VV} (h : kd i = 10) (h0 : 0 ≤ j) (h1 : j < alen i) {S : MM} : rn xX0_step (114, [l0, l1, l2, l3, l4, l5, l6, l7], [vI j, vR i, v2, v3], S) = rn xX0_step (115, [l0, l1, l2, l3, l4, l5, l6, l7], [vI (S i j.toNat), v2, v3], S) := q_iald dX0_step_114 h h0 h1
theorem eX0_step_114x {j : Int} {l0 l1 l2 l3 l4 l5 l6 l7 : Option VV} {v2 v3 : VV} {S : MM} (h0 : 0 ≤ j) (h1 : j < S 604 0) : rn xX0_step (114, [l0, l1, l2, l3, l4, l5, l6, l7], [vI j, vR 602, v2, v3], S) = rn xX0_step (115, [l0, l1, l2, l3, l4, l5, l6, l7], [vI (S 602 j.toNat), v2, v3], S) := q_ialdX dX0_step_114 h0 h1
theorem eX0_step_114y {j : Int} {l0 l1 l2 l3 l4 l5 l6 l7 : Option VV} {v2 v3 : VV} {S : MM} (h0 : 0 ≤ j) (h1 : j < S 604 1) : rn xX0_step (114, [l0, l1, l2, l3, l4, l5, l6, l7], [vI j, vR 603, v2, v3], S) = rn xX0_step (115, [l0, l1, l2, l3, l4, l5, l6, l7], [vI (S 603 j.toNat), v2, v3], S) := q_ialdY dX0_step_114 h0 h1
theorem eX0_step_115 {a : Int} {l0 l1 l2 l3 l4 l5 l6 : Option VV} {v0 v1 v2 : VV} {S : MM} : rn xX0_step (115, [l0, l1, l2, l3, l4, l5, l6, some (vI a)], [v0, v1, v2], S) = rn xX0_step (117, [l0, l1, l2, l3, l4, l5, l6, some (vI a)], [vI a, v0, v1, v2], S) := rn_step dX0_step_115 rfl rfl
theorem eX0_step_117 {a : Int} {l0 l1 l2 l3 l4 l5 l7 : Option VV} {v0 v1 v2 v3 : VV} {S : MM} : rn xX0_step (117, [l0, l1, l2, l3, l4, l5, some (vI a), l7], [v0, v1, v2, v3], S) = rn xX0_step (119, [l0, l1, l2, l3, l4, l5, some (vI a), l7], [vI a, v0, v1, v2, v3], S) := rn_step dX0_step_117 rfl rfl
theorem eX0_step_119 {a b : Int} {l0 l1 l2 l3 l4 l5 l6 l7 : Option VV} {v2 v3 v4 : VV} {S : MM} : rn xX0_step (119, [l0, l1, l2, l3, l4, l5, l6, l7], [vI b, vI a, v2, v3, v4], S) = rn xX0_step (120, [l0, l1, l2, l3, l4, l5, l6, l7], [vI (a - b), v2, v3, v4], S) := rn_step dX0_step_119 rfl rfl
theorem eX0_step_120 {a0 : Int} {a1 : Int} {l0 l1 l2 l3 l4 l5 l6 l7 : Option VV} {v2 v3 : VV} {S : MM} : rn xX0_step (120, [l0, l1, l2, l3, l4, l5, l6, l7], [vI a1, vI a0, v2, v3], S) = (f_max [vI a0, vI a1] S).bind (fun q => rn xX0_step (123, [l0, l1, l2, l3, l4, l5, l6, l7], q.1.toList ++ [v2, v3], q.2)) := q_callS (n := 2) (as := [vI a0, vI a1]) (rest := [v2, v3]) dX0_step_120 rfl rfl rfl rfl
theorem eX0_step_123 {i : Nat} {j z : Int} {l0 l1 l2 l3 l4 l5 l6 l7 : Option VV} (h : kd i = 10) (h0 : 0 ≤ j) (h1 : j < alen i) {S : MM} : rn xX0_step (123, [l0, l1, l2, l3, l4, l5, l6, l7], [vI z, vI j, vR i], S) = rn xX0_step (124, [l0, l1, l2, l3, l4, l5, l6, l7], [], updM S i j.toNat z) := q_iast dX0_step_123 h h0 h1
theorem eX0_step_124 {a : Option Nat} {l1 l2 l3 l4 l5 l6 l7 : Option VV} {S : MM} : rn xX0_step (124, [some (.inr (.inl a)), l1, l2, l3, l4, l5, l6, l7], [], S) = rn xX0_step (125, [some (.inr (.inl a)), l1, l2, l3, l4, l5, l6, l7], [.inr (.inl a)], S) := rn_step dX0_step_124 rfl rfl
theorem eX0_step_125 {i : Nat} {l0 l1 l2 l3 l4 l5 l6 l7 : Option VV} (h : kd i = 0) {S : MM} : rn xX0_step (125, [l0, l1, l2, l3, l4, l5, l6, l7], [vR i], S) = rn xX0_step (128, [l0, l1, l2, l3, l4, l5, l6, l7], [vR (i + 3)], S) := q_getR dX0_step_125 rfl ⟨⟨by decide, by decide⟩, by decide⟩ (fun h => (fref0 h).trans (by first | rfl | omega)) h
theorem eX0_step_128 {a : Int} {l0 l1 l2 l3 l5 l6 l7 : Option VV} {v0 : VV} {S : MM} : rn xX0_step (128, [l0, l1, l2, l3, some (vI a), l5, l6, l7], [v0], S) = rn xX0_step (130, [l0, l1, l2, l3, some (vI a), l5, l6, l7], [vI a, v0], S) := rn_step dX0_step_128 rfl rfl
theorem eX0_step_130 {a : Int} {l0 l1 l2 l3 l4 l5 l6 : Option VV} {v0 v1 : VV} {S : MM} : rn xX0_step (130, [l0, l1, l2, l3, l4, l5, l6, some (vI a)], [v0, v1], S) = rn xX0_step (132, [l0, l1, l2, l3, l4, l5, l6, some (vI a)], [vI a, v0, v1], S) := rn_step dX0_step_130 rfl rfl
theorem eX0_step_132 {i : Nat} {j z : Int} {l0 l1 l2 l3 l4 l5 l6 l7 : Option VV} (h : kd i = 10) (h0 : 0 ≤ j) (h1 : j < alen i) {S : MM} : rn xX0_step (132, [l0, l1, l2, l3, l4, l5, l6, l7], [vI z, vI j, vR i], S) = rn xX0_step (133, [l0, l1, l2, l3, l4, l5, l6, l7], [], updM S i j.toNat z) := q_iast dX0_step_132 h h0 h1
theorem eX0_step_133 {a : Option Nat} {l1 l2 l3 l4 l5 l6 l7 : Option VV} {S : MM} : rn xX0_step (133, [some (.inr (.inl a)), l1, l2, l3, l4, l5, l6, l7], [], S) = rn xX0_step (134, [some (.inr (.inl a)), l1, l2, l3, l4, l5, l6, l7], [.inr (.inl a)], S) := rn_step dX0_step_133 rfl rfl
theorem eX0_step_134 {a : Int} {l0 l1 l2 l4 l5 l6 l7 : Option VV} {v0 : VV} {S : MM} : rn xX0_step (134, [l0, l1, l2, some (vI a), l4, l5, l6, l7], [v0], S) = rn xX0_step (135, [l0, l1, l2, some (vI a), l4, l5, l6, l7], [vI a, v0], S) := rn_step dX0_step_134 rfl rfl
theorem eX0_step_135 {a : Int} {l0 l1 l2 l3 l5 l6 l7 : Option VV} {v0 v1 : VV} {S : MM} : rn xX0_step (135, [l0, l1, l2, l3, some (vI a), l5, l6, l7], [v0, v1], S) = rn xX0_step (137, [l0, l1, l2, l3, some (vI a), l5, l6, l7], [vI a, v0, v1], S) := rn_step dX0_step_135 rfl rfl
theorem eX0_step_137 {l0 l1 l2 l3 l4 l5 l6 l7 : Option VV} {v0 v1 v2 : VV} {S : MM} : rn xX0_step (137, [l0, l1, l2, l3, l4, l5, l6, l7], [v0, v1, v2], S) = rn xX0_step (138, [l0, l1, l2, l3, l4, l5, l6, l7], [vI 1, v0, v1, v2], S) := rn_step dX0_step_137 rfl rfl
theorem eX0_step_138 {a0 : Int} {a1 : Int} {a2 : Int} {l0 l1 l2 l3 l4 l5 l6 l7 : Option VV} {v3 : VV} {S : MM} : rn xX0_step (138, [l0, l1, l2, l3, l4, l5, l6, l7], [vI a2, vI a1, vI a0, v3], S) = (fX8_walkerBehind [vI a0, vI a1, vI a2] S).bind (fun q => rn xX0_step (141, [l0, l1, l2, l3, l4, l5, l6, l7], q.1.toList ++ [v3], q.2)) := q_callS (n := 3) (as := [vI a0, vI a1, vI a2]) (rest := [v3]) dX0_step_138 rfl rfl rfl rfl
theorem eX0_step_141 {z : Int} {i : Nat} {l0 l1 l2 l3 l4 l5 l6 l7 : Option VV} (h : kd i = 0) {S : MM} : rn xX0_step (141, [l0, l1, l2, l3, l4, l5, l6, l7], [vI z, vR i], S) = rn xX0_step (144, [l0, l1, l2, l3, l4, l5, l6, l7], [], updM S i 3 z) := q_put dX0_step_141 rfl ⟨by decide, by decide⟩ rfl h
theorem eX0_step_144 {a : Option Nat} {l1 l2 l3 l4 l5 l6 l7 : Option VV} {S : MM} : rn xX0_step (144, [some (.inr (.inl a)), l1, l2, l3, l4, l5, l6, l7], [], S) = rn xX0_step (145, [some (.inr (.inl a)), l1, l2, l3, l4, l5, l6, l7], [.inr (.inl a)], S) := rn_step dX0_step_144 rfl rfl
theorem eX0_step_145 {a : Option Nat} {l0 l2 l3 l4 l5 l6 l7 : Option VV} {v0 : VV} {S : MM} : rn xX0_step (145, [l0, some (.inr (.inl a)), l2, l3, l4, l5, l6, l7], [v0], S) = rn xX0_step (146, [l0, some (.inr (.inl a)), l2, l3, l4, l5, l6, l7], [.inr (.inl a), v0], S) := rn_step dX0_step_145 rfl rfl
theorem eX0_step_146 {a : Option Nat} {l0 l1 l3 l4 l5 l6 l7 : Option VV} {v0 v1 : VV} {S : MM} : rn xX0_step (146, [l0, l1, some (.inr (.inl a)), l3, l4, l5, l6, l7], [v0, v1], S) = rn xX0_step (147, [l0, l1, some (.inr (.inl a)), l3, l4, l5, l6, l7], [.inr (.inl a), v0, v1], S) := rn_step dX0_step_146 rfl rfl
theorem eX0_step_147 {l0 l1 l2 l3 l4 l5 l6 l7 : Option VV} {v0 v1 v2 : VV} {S : MM} : rn xX0_step (147, [l0, l1, l2, l3, l4, l5, l6, l7], [v0, v1, v2], S) = rn xX0_step (148, [l0, l1, l2, l3, l4, l5, l6, l7], [vI 1, v0, v1, v2], S) := rn_step dX0_step_147 rfl rfl
theorem eX0_step_148 {a0 : Int} {i : Nat} {l0 l1 l2 l3 l4 l5 l6 l7 : Option VV} {v2 v3 : VV} (h : kd i = 7) {S : MM} : rn xX0_step (148, [l0, l1, l2, l3, l4, l5, l6, l7], [vI a0, vR i, v2, v3], S) = (fX7_valueOf [vR i, vI a0] S).bind (fun q => rn xX0_step (151, [l0, l1, l2, l3, l4, l5, l6, l7], q.1.toList ++ [v2, v3], q.2)) := q_callV (n := 1) (as := [vI a0]) (rest := [v2, v3]) dX0_step_148 rfl rfl rfl rfl h
theorem eX0_step_151 {a0 : Option Nat} {a1 : Int} {i : Nat} {l0 l1 l2 l3 l4 l5 l6 l7 : Option VV} (h : kd i = 0) {S : MM} : rn xX0_step (151, [l0, l1, l2, l3, l4, l5, l6, l7], [vI a1, .inr (.inl a0), vR i], S) = (fX0_lookRound [vR i, .inr (.inl a0), vI a1] S).bind (fun q => rn xX0_step (154, [l0, l1, l2, l3, l4, l5, l6, l7], q.1.toList ++ [], q.2)) := q_callV (n := 2) (as := [.inr (.inl a0), vI a1]) (rest := []) dX0_step_151 rfl rfl rfl rfl h
theorem eX0_step_154 {a : Int} {l0 l1 l2 l3 l5 l6 l7 : Option VV} {S : MM} : rn xX0_step (154, [l0, l1, l2, l3, some (vI a), l5, l6, l7], [], S) = rn xX0_step (156, [l0, l1, l2, l3, some (vI a), l5, l6, l7], [vI a], S) := rn_step dX0_step_154 rfl rfl
theorem eX0_step_156 {z : Int} {l0 l1 l2 l3 l4 l5 l6 l7 : Option VV} {S : MM} : rn xX0_step (156, [l0, l1, l2, l3, l4, l5, l6, l7], [vI z], S) = some (some (vI z), S) := q_retI dX0_step_156 rfl
noncomputable def qlX0_finish : List CE := [(0, 105, 0, 1, fX0_goesOn), (0, 109, 0, 3, fX0_step)]
noncomputable def xX0_finish : XX := (cX0_finish, fcF fcl0, mcF qlX0_finish, 1)
noncomputable def fX0_finish : FN := fnX xX0_finish 4
set_option maxRecDepth 100000 in
theorem cwX0_finish : Cond.code yX0_finish cX0_finish 4 (some .int) ∈ lw_g := lw_gm 648 (by decide +kernel) (by decide +kernel)
set_option maxRecDepth 100000 in
theorem conX0_finish : Con yX0_finish cX0_finish 4 (some .int) { frames := 5, cells := 0, slots := 0, locals := 125 } fX0_finish := con_of (X := xX0_finish) (own := "LeapStones$Crossing") (ql := qlX0_finish) (by decide) rfl FOK0 rfl (List.forall_mem_cons.mpr ⟨call_V conX0_goesOn cwX0_goesOn (lw_gl _ [477, 478, 479, 28] (by decide +kernel) (by decide +kernel)) (by decide) rfl ⟨by decide, by decide, by decide +kernel⟩ ⟨rfl, rfl⟩ ⟨by decide, by decide⟩ ⟨Nat.le_refl _, Nat.le_refl _⟩, List.forall_mem_cons.mpr ⟨call_V conX0_step cwX0_step (lw_gl _ [649, 612, 613, 28] (by decide +kernel) (by decide +kernel)) (by decide) rfl ⟨by decide, by decide, by decide +kernel⟩ ⟨rfl, rfl⟩ ⟨by decide, by decide⟩ ⟨Nat.le_refl _, Nat.le_refl _⟩, fun _ h => absurd h List.not_mem_nil⟩⟩) (Or.inr (Or.inl ⟨rfl, rfl⟩))
theorem uX0_finish {i : Nat} {a0 : Option Nat} {a1 : Option Nat} {S : MM} : fX0_finish [vR i, .inr (.inl a0), .inr (.inl a1)] S = rn xX0_finish (0, [some (vR i), some (.inr (.inl a0)), some (.inr (.inl a1)), none], [], S) := rfl
theorem dX0_finish_0 : decode cX0_finish 0 = .ok (.iconst 0, 1) := by decide +kernel
theorem dX0_finish_1 : decode cX0_finish 1 = .ok (.istore_n 3, 1) := by decide +kernel
theorem dX0_finish_2 : decode cX0_finish 2 = .ok (.iload_n 3, 1) := by decide +kernel
theorem dX0_finish_3 : decode cX0_finish 3 = .ok (.sipush 1000, 3) := by decide +kernel
theorem dX0_finish_6 : decode cX0_finish 6 = .ok (.if_icmp .ge 23, 3) := by decide +kernel
theorem dX0_finish_9 : decode cX0_finish 9 = .ok (.aload_n 0, 1) := by decide +kernel
theorem dX0_finish_10 : decode cX0_finish 10 = .ok (.invokevirtual 105, 3) := by decide +kernel
theorem dX0_finish_13 : decode cX0_finish 13 = .ok (.ifCond .eq 16, 3) := by decide +kernel
theorem dX0_finish_16 : decode cX0_finish 16 = .ok (.aload_n 0, 1) := by decide +kernel
theorem dX0_finish_17 : decode cX0_finish 17 = .ok (.aload_n 1, 1) := by decide +kernel
theorem dX0_finish_18 : decode cX0_finish 18 = .ok (.aload_n 2, 1) := by decide +kernel
theorem dX0_finish_19 : decode cX0_finish 19 = .ok (.invokevirtual 109, 3) := by decide +kernel
theorem dX0_finish_22 : decode cX0_finish 22 = .ok (.pop, 1) := by decide +kernel
theorem dX0_finish_23 : decode cX0_finish 23 = .ok (.iinc 3 1, 3) := by decide +kernel
theorem dX0_finish_26 : decode cX0_finish 26 = .ok (.goto (-24), 3) := by decide +kernel
theorem dX0_finish_29 : decode cX0_finish 29 = .ok (.iload_n 3, 1) := by decide +kernel
theorem dX0_finish_30 : decode cX0_finish 30 = .ok (.ireturn, 1) := by decide +kernel
theorem eX0_finish_0 {l0 l1 l2 l3 : Option VV} {S : MM} : rn xX0_finish (0, [l0, l1, l2, l3], [], S) = rn xX0_finish (1, [l0, l1, l2, l3], [vI 0], S) := rn_step dX0_finish_0 rfl rfl
theorem eX0_finish_1 {a : Int} {w : Option Nat} {l0 l1 l3 : Option VV} {S : MM} : rn xX0_finish (1, [l0, l1, some (.inr (.inl w)), l3], [vI a], S) = rn xX0_finish (2, [l0, l1, some (.inr (.inl w)), some (vI a)], [], S) := rn_step dX0_finish_1 rfl rfl
theorem eX0_finish_2 {a : Int} {l0 l1 l2 : Option VV} {S : MM} : rn xX0_finish (2, [l0, l1, l2, some (vI a)], [], S) = rn xX0_finish (3, [l0, l1, l2, some (vI a)], [vI a], S) := rn_step dX0_finish_2 rfl rfl
theorem eX0_finish_3 {l0 l1 l2 l3 : Option VV} {v0 : VV} {S : MM} : rn xX0_finish (3, [l0, l1, l2, l3], [v0], S) = rn xX0_finish (6, [l0, l1, l2, l3], [vI 1000, v0], S) := rn_step dX0_finish_3 rfl rfl
theorem eX0_finish_6 {a b : Int} {l0 l1 l2 l3 : Option VV} (h : -2147483648 ≤ a ∧ a ≤ 2147483647) (h1 : -2147483648 ≤ b ∧ b ≤ 2147483647) {S : MM} : rn xX0_finish (6, [l0, l1, l2, l3], [vI b, vI a], S) = if a < b then rn xX0_finish (9, [l0, l1, l2, l3], [], S) else rn xX0_finish (29, [l0, l1, l2, l3], [], S) := q_icmp_ge dX0_finish_6 (by decide) rfl h h1
theorem eX0_finish_9 {a : Option Nat} {l1 l2 l3 : Option VV} {S : MM} : rn xX0_finish (9, [some (.inr (.inl a)), l1, l2, l3], [], S) = rn xX0_finish (10, [some (.inr (.inl a)), l1, l2, l3], [.inr (.inl a)], S) := rn_step dX0_finish_9 rfl rfl
theorem eX0_finish_10 {i : Nat} {l0 l1 l2 l3 : Option VV} (h : kd i = 0) {S : MM} : rn xX0_finish (10, [l0, l1, l2, l3], [vR i], S) = (fX0_goesOn [vR i] S).bind (fun q => rn xX0_finish (13, [l0, l1, l2, l3], q.1.toList ++ [], q.2)) := q_callV (n := 0) (as := []) (rest := []) dX0_finish_10 rfl rfl rfl rfl h
theorem eX0_finish_13 {a : Int} {l0 l1 l2 l3 : Option VV} (h : -2147483648 ≤ a ∧ a ≤ 2147483647) {S : MM} : rn xX0_finish (13, [l0, l1, l2, l3], [vI a], S) = if a = 0 then rn xX0_finish (29, [l0, l1, l2, l3], [], S) else rn xX0_finish (16, [l0, l1, l2, l3], [], S) := q_if_eq dX0_finish_13 (by decide) rfl h
theorem eX0_finish_16 {a : Option Nat} {l1 l2 l3 : Option VV} {S : MM} : rn xX0_finish (16, [some (.inr (.inl a)), l1, l2, l3], [], S) = rn xX0_finish (17, [some (.inr (.inl a)), l1, l2, l3], [.inr (.inl a)], S) := rn_step dX0_finish_16 rfl rfl
theorem eX0_finish_17 {a : Option Nat} {l0 l2 l3 : Option VV} {v0 : VV} {S : MM} : rn xX0_finish (17, [l0, some (.inr (.inl a)), l2, l3], [v0], S) = rn xX0_finish (18, [l0, some (.inr (.inl a)), l2, l3], [.inr (.inl a), v0], S) := rn_step dX0_finish_17 rfl rfl
theorem eX0_finish_18 {a : Option Nat} {l0 l1 l3 : Option VV} {v0 v1 : VV} {S : MM} : rn xX0_finish (18, [l0, l1, some (.inr (.inl a)), l3], [v0, v1], S) = rn xX0_finish (19, [l0, l1, some (.inr (.inl a)), l3], [.inr (.inl a), v0, v1], S) := rn_step dX0_finish_18 rfl rfl
theorem eX0_finish_19 {a0 : Option Nat} {a1 : Option Nat} {i : Nat} {l0 l1 l2 l3 : Option VV} (h : kd i = 0) {S : MM} : rn xX0_finish (19, [l0, l1, l2, l3], [.inr (.inl a1), .inr (.inl a0), vR i], S) = (fX0_step [vR i, .inr (.inl a0), .inr (.inl a1)] S).bind (fun q => rn xX0_finish (22, [l0, l1, l2, l3], q.1.toList ++ [], q.2)) := q_callV (n := 2) (as := [.inr (.inl a0), .inr (.inl a1)]) (rest := []) dX0_finish_19 rfl rfl rfl rfl h
theorem eX0_finish_22 {a : Int} {l0 l1 l2 l3 : Option VV} {S : MM} : rn xX0_finish (22, [l0, l1, l2, l3], [vI a], S) = rn xX0_finish (23, [l0, l1, l2, l3], [], S) := rn_step dX0_finish_22 rfl rfl
theorem eX0_finish_23 {a : Int} {w : Option Nat} {l0 l1 : Option VV} {S : MM} : rn xX0_finish (23, [l0, l1, some (.inr (.inl w)), some (vI a)], [], S) = rn xX0_finish (26, [l0, l1, some (.inr (.inl w)), some (vI (a + 1))], [], S) := rn_step dX0_finish_23 rfl rfl
theorem eX0_finish_26 {l0 l1 l2 l3 : Option VV} {S : MM} : rn xX0_finish (26, [l0, l1, l2, l3], [], S) = rn xX0_finish (2, [l0, l1, l2, l3], [], S) := rn_step dX0_finish_26 rfl rfl
theorem eX0_finish_29 {a : Int} {l0 l1 l2 : Option VV} {S : MM} : rn xX0_finish (29, [l0, l1, l2, some (vI a)], [], S) = rn xX0_finish (30, [l0, l1, l2, some (vI a)], [vI a], S) := rn_step dX0_finish_29 rfl rfl
theorem eX0_finish_30 {z : Int} {l0 l1 l2 l3 : Option VV} {S : MM} : rn xX0_finish (30, [l0, l1, l2, l3], [vI z], S) = some (some (vI z), S) := q_retI dX0_finish_30 rfl
noncomputable def qlX3_has : List CE := [(0, 29, 3, 2, fX3_repeatsOf)]
noncomputable def xX3_has : XX := (cX3_has, fcF fcl3, mcF qlX3_has, 2)
noncomputable def fX3_has : FN := fnX xX3_has 2
set_option maxRecDepth 100000 in
theorem cwX3_has : Cond.code yX3_has cX3_has 2 (some .boolean) ∈ lw_g := lw_gm 467 (by decide +kernel) (by decide +kernel)
set_option maxRecDepth 100000 in
theorem conX3_has : Con yX3_has cX3_has 2 (some .boolean) { frames := 1, cells := 0, slots := 0, locals := 22 } fX3_has := con_of (X := xX3_has) (own := "LeapStones$Path") (ql := qlX3_has) (by decide) rfl FOK3 rfl (List.forall_mem_cons.mpr ⟨call_V conX3_repeatsOf cwX3_repeatsOf (lw_gl _ [354, 355, 356, 25] (by decide +kernel) (by decide +kernel)) (by decide) rfl ⟨by decide, by decide, by decide +kernel⟩ ⟨rfl, rfl⟩ ⟨by decide, by decide⟩ ⟨Nat.le_refl _, Nat.le_refl _⟩, fun _ h => absurd h List.not_mem_nil⟩) (Or.inr (Or.inr (Or.inl ⟨rfl, rfl⟩)))
theorem uX3_has {i : Nat} {a0 : Int} {S : MM} : fX3_has [vR i, vI a0] S = rn xX3_has (0, [some (vR i), some (vI a0)], [], S) := rfl
theorem dX3_has_0 : decode cX3_has 0 = .ok (.aload_n 0, 1) := by decide +kernel
theorem dX3_has_1 : decode cX3_has 1 = .ok (.iload_n 1, 1) := by decide +kernel
theorem dX3_has_2 : decode cX3_has 2 = .ok (.invokevirtual 29, 3) := by decide +kernel
theorem dX3_has_5 : decode cX3_has 5 = .ok (.ifCond .le 7, 3) := by decide +kernel
theorem dX3_has_8 : decode cX3_has 8 = .ok (.iconst 1, 1) := by decide +kernel
theorem dX3_has_9 : decode cX3_has 9 = .ok (.goto 4, 3) := by decide +kernel
theorem dX3_has_12 : decode cX3_has 12 = .ok (.iconst 0, 1) := by decide +kernel
theorem dX3_has_13 : decode cX3_has 13 = .ok (.ireturn, 1) := by decide +kernel
theorem eX3_has_0 {a : Option Nat} {l1 : Option VV} {S : MM} : rn xX3_has (0, [some (.inr (.inl a)), l1], [], S) = rn xX3_has (1, [some (.inr (.inl a)), l1], [.inr (.inl a)], S) := rn_step dX3_has_0 rfl rfl
theorem eX3_has_1 {a : Int} {l0 : Option VV} {v0 : VV} {S : MM} : rn xX3_has (1, [l0, some (vI a)], [v0], S) = rn xX3_has (2, [l0, some (vI a)], [vI a, v0], S) := rn_step dX3_has_1 rfl rfl
theorem eX3_has_2 {a0 : Int} {i : Nat} {l0 l1 : Option VV} (h : kd i = 3) {S : MM} : rn xX3_has (2, [l0, l1], [vI a0, vR i], S) = (fX3_repeatsOf [vR i, vI a0] S).bind (fun q => rn xX3_has (5, [l0, l1], q.1.toList ++ [], q.2)) := q_callV (n := 1) (as := [vI a0]) (rest := []) dX3_has_2 rfl rfl rfl rfl h
theorem eX3_has_5 {a : Int} {l0 l1 : Option VV} (h : -2147483648 ≤ a ∧ a ≤ 2147483647) {S : MM} : rn xX3_has (5, [l0, l1], [vI a], S) = if 0 < a then rn xX3_has (8, [l0, l1], [], S) else rn xX3_has (12, [l0, l1], [], S) := q_if_le dX3_has_5 (by decide) rfl h
theorem eX3_has_8 {l0 l1 : Option VV} {S : MM} : rn xX3_has (8, [l0, l1], [], S) = rn xX3_has (9, [l0, l1], [vI 1], S) := rn_step dX3_has_8 rfl rfl
theorem eX3_has_9 {l0 l1 : Option VV} {v0 : VV} {S : MM} : rn xX3_has (9, [l0, l1], [v0], S) = rn xX3_has (13, [l0, l1], [v0], S) := rn_step dX3_has_9 rfl rfl
theorem eX3_has_12 {l0 l1 : Option VV} {S : MM} : rn xX3_has (12, [l0, l1], [], S) = rn xX3_has (13, [l0, l1], [vI 0], S) := rn_step dX3_has_12 rfl rfl
theorem eX3_has_13 {z : Int} {l0 l1 : Option VV} (hz : z = 0 ∨ z = 1) {S : MM} : rn xX3_has (13, [l0, l1], [vI z], S) = some (some (vI z), S) := q_retZ dX3_has_13 rfl hz

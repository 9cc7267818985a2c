/-! the constructors: the tables of each, its contract -/
def lkC (l : List (Nat × Nat × Nat × Nat)) : Nat → Option (Nat × Nat × Nat) := fun idx => (l.find? (fun q => q.1 == idx)).map (fun q => q.2)
def mcC (l : List (Nat × Nat × Nat × Nat × FC)) : Nat → Option (Nat × Nat × Nat × FC) := fun idx => (l.find? (fun q => q.1 == idx)).map (fun q => q.2)
theorem LOK_of {own : String} {l : List (Nat × Nat × Nat × Nat)} (h : ∀ q ∈ l, (q.2.1 = 0 → q.2.2.1 < 10 → fword own q.1 q.2.2.1 q.2.2.2 ∈ lw_g ∧ ((vwCl.getD q.2.2.1 (RX0, TX0, 12)).2.1 q.2.2.2).1 = own) ∧ (q.2.1 = 1 → q.2.2.1 < 10 → ∀ w ∈ [Cond.classLink own q.1 (cname q.2.2.1), .instantiable (cname q.2.2.1) (nfl q.2.2.1), .initialized (cname q.2.2.1)], w ∈ lw_g) ∧ (q.2.1 = 2 → ∀ idx, q.1 = idx + 1000 → q.2.2.1 = 13 ∨ q.2.2.1 = 14 → Cond.classLink own idx (if q.2.2.1 = 13 then RX5 else RX6) ∈ lw_g) ∧ (q.2.1 = 3 → ∀ w ∈ [Cond.methodLink own q.1 Lib.objectInit, .instanceMethod Lib.objectInit, .code Lib.objectInit ⟨#[0xb1]⟩ 1 none], w ∈ lw_g)) : LOK own (lkC l) := by
  have key : ∀ idx t a b : Nat, lkC l idx = some (t, a, b) → (idx, t, a, b) ∈ l := by
    intro idx t a b hq
    unfold lkC at hq
    cases hf : l.find? (fun q => q.1 == idx) with
    | none => rw [hf] at hq; cases hq
    | some z =>
      rw [hf] at hq
      have e : z.2 = (t, a, b) := Option.some.inj hq
      have h1 := List.find?_some hf
      simp only [beq_iff_eq] at h1
      have h2 := List.mem_of_find?_eq_some hf
      rw [← e, ← h1]
      exact h2
  intro idx a b
  exact ⟨fun hq => (h _ (key _ _ _ _ hq)).1 rfl, fun hq => (h _ (key _ _ _ _ hq)).2.1 rfl, fun hq => (h _ (key _ _ _ _ hq)).2.2.1 rfl idx rfl, fun hq => (h _ (key _ _ _ _ hq)).2.2.2 rfl⟩
theorem CALLS_of {own : String} {X : XC} {nL : Nat} {R : Room} {l : List (Nat × Nat × Nat × Nat × FC)} (hX : X.2.2.1 = mcC l) (h : ∀ q ∈ l, Call1C own X nL R q.1 q.2.1 q.2.2.1 q.2.2.2.1 q.2.2.2.2) : CALLS own X nL R := by
  intro idx n mc ms f hq
  rw [hX] at hq
  unfold mcC at hq
  cases hf : l.find? (fun q => q.1 == idx) with
  | none => rw [hf] at hq; cases hq
  | some z =>
    rw [hf] at hq
    have e : z.2 = (n, mc, ms, f) := Option.some.inj hq
    have h1 := List.find?_some hf
    simp only [beq_iff_eq] at h1
    have h2 := h z (List.mem_of_find?_eq_some hf)
    rw [e, h1] at h2
    exact h2
def lkX3_init : List (Nat × Nat × Nat × Nat) := [(3, 3, 0, 0), (9, 0, 3, 0), (15, 0, 3, 1)]
set_option maxRecDepth 100000 in
theorem LOKX3_init : LOK "LeapStones$Path" (lkC lkX3_init) := LOK_of (List.forall_mem_cons.mpr ⟨⟨fun h => absurd h (by decide), fun h => absurd h (by decide), fun h => absurd h (by decide), fun _ => lw_gl _ [68, 38, 39] (by decide +kernel) (by decide +kernel)⟩, List.forall_mem_cons.mpr ⟨⟨fun _ _ => ⟨lw_gm 69 (by decide +kernel) (by decide +kernel), rfl⟩, fun h => absurd h (by decide), fun h => absurd h (by decide), fun h => absurd h (by decide)⟩, List.forall_mem_cons.mpr ⟨⟨fun _ _ => ⟨lw_gm 70 (by decide +kernel) (by decide +kernel), rfl⟩, fun h => absurd h (by decide), fun h => absurd h (by decide), fun h => absurd h (by decide)⟩, fun _ h => absurd h List.not_mem_nil⟩⟩⟩)
def qcX3_init : List (Nat × Nat × Nat × Nat × FC) := []
def xcX3_init : XC := (cX3_init, lkC lkX3_init, mcC qcX3_init, true)
def rmX3_init : Room := { frames := 1, cells := 2, slots := 80, locals := 20 }
theorem callsX3_init : CALLS "LeapStones$Path" xcX3_init 1 rmX3_init := CALLS_of (l := qcX3_init) rfl (fun _ h => absurd h List.not_mem_nil)
def fcX3_init : FC := fnC xcX3_init 1 (2, 80)
set_option maxRecDepth 100000 in
theorem cdX3_init : Cond.code yX3_init cX3_init 1 none ∈ lw_g := lw_gm 67 (by decide +kernel) (by decide +kernel)
theorem conX3_init : ConC yX3_init cX3_init 1 rmX3_init fcX3_init := conC_of (X := xcX3_init) (rm := rmX3_init) (by decide +kernel) rfl rfl LOKX3_init callsX3_init ⟨by decide, by decide⟩
def lkX4_init : List (Nat × Nat × Nat × Nat) := [(1, 3, 0, 0), (7, 0, 4, 0)]
set_option maxRecDepth 100000 in
theorem LOKX4_init : LOK "LeapStones$Ring" (lkC lkX4_init) := LOK_of (List.forall_mem_cons.mpr ⟨⟨fun h => absurd h (by decide), fun h => absurd h (by decide), fun h => absurd h (by decide), fun _ => lw_gl _ [102, 38, 39] (by decide +kernel) (by decide +kernel)⟩, List.forall_mem_cons.mpr ⟨⟨fun _ _ => ⟨lw_gm 103 (by decide +kernel) (by decide +kernel), rfl⟩, fun h => absurd h (by decide), fun h => absurd h (by decide), fun h => absurd h (by decide)⟩, fun _ h => absurd h List.not_mem_nil⟩⟩)
def qcX4_init : List (Nat × Nat × Nat × Nat × FC) := []
def xcX4_init : XC := (cX4_init, lkC lkX4_init, mcC qcX4_init, true)
def rmX4_init : Room := { frames := 1, cells := 0, slots := 0, locals := 20 }
theorem callsX4_init : CALLS "LeapStones$Ring" xcX4_init 2 rmX4_init := CALLS_of (l := qcX4_init) rfl (fun _ h => absurd h List.not_mem_nil)
def fcX4_init : FC := fnC xcX4_init 2 (0, 0)
set_option maxRecDepth 100000 in
theorem cdX4_init : Cond.code yX4_init cX4_init 2 none ∈ lw_g := lw_gm 101 (by decide +kernel) (by decide +kernel)
theorem conX4_init : ConC yX4_init cX4_init 2 rmX4_init fcX4_init := conC_of (X := xcX4_init) (rm := rmX4_init) (by decide +kernel) rfl rfl LOKX4_init callsX4_init ⟨by decide, by decide⟩
def lkX7_init : List (Nat × Nat × Nat × Nat) := [(3, 3, 0, 0), (9, 0, 7, 0)]
set_option maxRecDepth 100000 in
theorem LOKX7_init : LOK "LeapStones$Settings" (lkC lkX7_init) := LOK_of (List.forall_mem_cons.mpr ⟨⟨fun h => absurd h (by decide), fun h => absurd h (by decide), fun h => absurd h (by decide), fun _ => lw_gl _ [51, 38, 39] (by decide +kernel) (by decide +kernel)⟩, List.forall_mem_cons.mpr ⟨⟨fun _ _ => ⟨lw_gm 52 (by decide +kernel) (by decide +kernel), rfl⟩, fun h => absurd h (by decide), fun h => absurd h (by decide), fun h => absurd h (by decide)⟩, fun _ h => absurd h List.not_mem_nil⟩⟩)
def qcX7_init : List (Nat × Nat × Nat × Nat × FC) := []
def xcX7_init : XC := (cX7_init, lkC lkX7_init, mcC qcX7_init, true)
def rmX7_init : Room := { frames := 1, cells := 1, slots := 4, locals := 20 }
theorem callsX7_init : CALLS "LeapStones$Settings" xcX7_init 1 rmX7_init := CALLS_of (l := qcX7_init) rfl (fun _ h => absurd h List.not_mem_nil)
def fcX7_init : FC := fnC xcX7_init 1 (1, 4)
set_option maxRecDepth 100000 in
theorem cdX7_init : Cond.code yX7_init cX7_init 1 none ∈ lw_g := lw_gm 50 (by decide +kernel) (by decide +kernel)
theorem conX7_init : ConC yX7_init cX7_init 1 rmX7_init fcX7_init := conC_of (X := xcX7_init) (rm := rmX7_init) (by decide +kernel) rfl rfl LOKX7_init callsX7_init ⟨by decide, by decide⟩
def lkX0_init : List (Nat × Nat × Nat × Nat) := [(3, 3, 0, 0), (9, 0, 0, 5), (15, 0, 0, 6), (18, 0, 0, 7), (21, 0, 0, 8), (24, 0, 0, 9), (27, 0, 0, 10), (30, 0, 0, 11)]
set_option maxRecDepth 100000 in
theorem LOKX0_init : LOK "LeapStones$Crossing" (lkC lkX0_init) := LOK_of (List.forall_mem_cons.mpr ⟨⟨fun h => absurd h (by decide), fun h => absurd h (by decide), fun h => absurd h (by decide), fun _ => lw_gl _ [126, 38, 39] (by decide +kernel) (by decide +kernel)⟩, List.forall_mem_cons.mpr ⟨⟨fun _ _ => ⟨lw_gm 132 (by decide +kernel) (by decide +kernel), rfl⟩, fun h => absurd h (by decide), fun h => absurd h (by decide), fun h => absurd h (by decide)⟩, List.forall_mem_cons.mpr ⟨⟨fun _ _ => ⟨lw_gm 133 (by decide +kernel) (by decide +kernel), rfl⟩, fun h => absurd h (by decide), fun h => absurd h (by decide), fun h => absurd h (by decide)⟩, List.forall_mem_cons.mpr ⟨⟨fun _ _ => ⟨lw_gm 134 (by decide +kernel) (by decide +kernel), rfl⟩, fun h => absurd h (by decide), fun h => absurd h (by decide), fun h => absurd h (by decide)⟩, List.forall_mem_cons.mpr ⟨⟨fun _ _ => ⟨lw_gm 135 (by decide +kernel) (by decide +kernel), rfl⟩, fun h => absurd h (by decide), fun h => absurd h (by decide), fun h => absurd h (by decide)⟩, List.forall_mem_cons.mpr ⟨⟨fun _ _ => ⟨lw_gm 136 (by decide +kernel) (by decide +kernel), rfl⟩, fun h => absurd h (by decide), fun h => absurd h (by decide), fun h => absurd h (by decide)⟩, List.forall_mem_cons.mpr ⟨⟨fun _ _ => ⟨lw_gm 137 (by decide +kernel) (by decide +kernel), rfl⟩, fun h => absurd h (by decide), fun h => absurd h (by decide), fun h => absurd h (by decide)⟩, List.forall_mem_cons.mpr ⟨⟨fun _ _ => ⟨lw_gm 138 (by decide +kernel) (by decide +kernel), rfl⟩, fun h => absurd h (by decide), fun h => absurd h (by decide), fun h => absurd h (by decide)⟩, fun _ h => absurd h List.not_mem_nil⟩⟩⟩⟩⟩⟩⟩⟩)
def qcX0_init : List (Nat × Nat × Nat × Nat × FC) := []
def xcX0_init : XC := (cX0_init, lkC lkX0_init, mcC qcX0_init, true)
def rmX0_init : Room := { frames := 1, cells := 7, slots := 615, locals := 20 }
theorem callsX0_init : CALLS "LeapStones$Crossing" xcX0_init 1 rmX0_init := CALLS_of (l := qcX0_init) rfl (fun _ h => absurd h List.not_mem_nil)
def fcX0_init : FC := fnC xcX0_init 1 (7, 615)
set_option maxRecDepth 100000 in
theorem cdX0_init : Cond.code yX0_init cX0_init 1 none ∈ lw_g := lw_gm 125 (by decide +kernel) (by decide +kernel)
theorem conX0_init : ConC yX0_init cX0_init 1 rmX0_init fcX0_init := conC_of (X := xcX0_init) (rm := rmX0_init) (by decide +kernel) rfl rfl LOKX0_init callsX0_init ⟨by decide, by decide⟩
def lkX2_init : List (Nat × Nat × Nat × Nat) := [(3, 3, 0, 0), (9, 0, 2, 0)]
set_option maxRecDepth 100000 in
theorem LOKX2_init : LOK "LeapStones$Pad" (lkC lkX2_init) := LOK_of (List.forall_mem_cons.mpr ⟨⟨fun h => absurd h (by decide), fun h => absurd h (by decide), fun h => absurd h (by decide), fun _ => lw_gl _ [189, 38, 39] (by decide +kernel) (by decide +kernel)⟩, List.forall_mem_cons.mpr ⟨⟨fun _ _ => ⟨lw_gm 190 (by decide +kernel) (by decide +kernel), rfl⟩, fun h => absurd h (by decide), fun h => absurd h (by decide), fun h => absurd h (by decide)⟩, fun _ h => absurd h List.not_mem_nil⟩⟩)
def qcX2_init : List (Nat × Nat × Nat × Nat × FC) := []
def xcX2_init : XC := (cX2_init, lkC lkX2_init, mcC qcX2_init, true)
def rmX2_init : Room := { frames := 1, cells := 1, slots := 80, locals := 20 }
theorem callsX2_init : CALLS "LeapStones$Pad" xcX2_init 1 rmX2_init := CALLS_of (l := qcX2_init) rfl (fun _ h => absurd h List.not_mem_nil)
def fcX2_init : FC := fnC xcX2_init 1 (1, 80)
set_option maxRecDepth 100000 in
theorem cdX2_init : Cond.code yX2_init cX2_init 1 none ∈ lw_g := lw_gm 188 (by decide +kernel) (by decide +kernel)
theorem conX2_init : ConC yX2_init cX2_init 1 rmX2_init fcX2_init := conC_of (X := xcX2_init) (rm := rmX2_init) (by decide +kernel) rfl rfl LOKX2_init callsX2_init ⟨by decide, by decide⟩
def lkX5_init : List (Nat × Nat × Nat × Nat) := [(3, 3, 0, 0), (9, 1, 3, 0), (12, 0, 5, 0), (18, 0, 5, 1), (21, 0, 5, 2)]
set_option maxRecDepth 100000 in
theorem LOKX5_init : LOK "LeapStones$River" (lkC lkX5_init) := LOK_of (List.forall_mem_cons.mpr ⟨⟨fun h => absurd h (by decide), fun h => absurd h (by decide), fun h => absurd h (by decide), fun _ => lw_gl _ [62, 38, 39] (by decide +kernel) (by decide +kernel)⟩, List.forall_mem_cons.mpr ⟨⟨fun h => absurd h (by decide), fun _ _ => lw_gl _ [63, 64, 25] (by decide +kernel) (by decide +kernel), fun h => absurd h (by decide), fun h => absurd h (by decide)⟩, List.forall_mem_cons.mpr ⟨⟨fun _ _ => ⟨lw_gm 79 (by decide +kernel) (by decide +kernel), rfl⟩, fun h => absurd h (by decide), fun h => absurd h (by decide), fun h => absurd h (by decide)⟩, List.forall_mem_cons.mpr ⟨⟨fun _ _ => ⟨lw_gm 80 (by decide +kernel) (by decide +kernel), rfl⟩, fun h => absurd h (by decide), fun h => absurd h (by decide), fun h => absurd h (by decide)⟩, List.forall_mem_cons.mpr ⟨⟨fun _ _ => ⟨lw_gm 81 (by decide +kernel) (by decide +kernel), rfl⟩, fun h => absurd h (by decide), fun h => absurd h (by decide), fun h => absurd h (by decide)⟩, fun _ h => absurd h List.not_mem_nil⟩⟩⟩⟩⟩)
def qcX5_init : List (Nat × Nat × Nat × Nat × FC) := [(11, 0, 2, 80, fcX3_init)]
def xcX5_init : XC := (cX5_init, lkC lkX5_init, mcC qcX5_init, true)
def rmX5_init : Room := { frames := 2, cells := 9, slots := 249, locals := 40 }
set_option maxRecDepth 100000 in
theorem clX5_init_11 : Call1C "LeapStones$River" xcX5_init 1 rmX5_init 11 0 2 80 fcX3_init := callC_N conX3_init cdX3_init (lw_gl _ [66, 25] (by decide +kernel) (by decide +kernel)) (List.mem_of_getElem? (i := 3) (by decide +kernel)) rfl ⟨by decide, by decide, by decide +kernel⟩ ⟨rfl, rfl⟩ ⟨by decide, by decide⟩
theorem callsX5_init : CALLS "LeapStones$River" xcX5_init 1 rmX5_init := CALLS_of (l := qcX5_init) rfl (List.forall_mem_cons.mpr ⟨clX5_init_11, fun _ h => absurd h List.not_mem_nil⟩)
def fcX5_init : FC := fnC xcX5_init 1 (9, 249)
set_option maxRecDepth 100000 in
theorem cdX5_init : Cond.code yX5_init cX5_init 1 none ∈ lw_g := lw_gm 61 (by decide +kernel) (by decide +kernel)
theorem conX5_init : ConC yX5_init cX5_init 1 rmX5_init fcX5_init := conC_of (X := xcX5_init) (rm := rmX5_init) (by decide +kernel) rfl rfl LOKX5_init callsX5_init ⟨by decide, by decide⟩
def lkX1_init : List (Nat × Nat × Nat × Nat) := [(3, 3, 0, 0), (1009, 2, 13, 0), (11, 0, 1, 0), (17, 1, 4, 0), (22, 0, 1, 1), (9, 1, 5, 0)]
set_option maxRecDepth 100000 in
theorem LOKX1_init : LOK "LeapStones$Floods" (lkC lkX1_init) := LOK_of (List.forall_mem_cons.mpr ⟨⟨fun h => absurd h (by decide), fun h => absurd h (by decide), fun h => absurd h (by decide), fun _ => lw_gl _ [94, 38, 39] (by decide +kernel) (by decide +kernel)⟩, List.forall_mem_cons.mpr ⟨⟨fun h => absurd h (by decide), fun h => absurd h (by decide), fun _ idx h _ => by obtain rfl : idx = 9 := (Nat.add_right_cancel (m := 1000) h).symm; exact lw_gm 95 (by decide +kernel) (by decide +kernel), fun h => absurd h (by decide)⟩, List.forall_mem_cons.mpr ⟨⟨fun _ _ => ⟨lw_gm 114 (by decide +kernel) (by decide +kernel), rfl⟩, fun h => absurd h (by decide), fun h => absurd h (by decide), fun h => absurd h (by decide)⟩, List.forall_mem_cons.mpr ⟨⟨fun h => absurd h (by decide), fun _ _ => lw_gl _ [97, 98, 27] (by decide +kernel) (by decide +kernel), fun h => absurd h (by decide), fun h => absurd h (by decide)⟩, List.forall_mem_cons.mpr ⟨⟨fun _ _ => ⟨lw_gm 115 (by decide +kernel) (by decide +kernel), rfl⟩, fun h => absurd h (by decide), fun h => absurd h (by decide), fun h => absurd h (by decide)⟩, List.forall_mem_cons.mpr ⟨⟨fun h => absurd h (by decide), fun _ _ => lw_gl _ [95, 58, 24] (by decide +kernel) (by decide +kernel), fun h => absurd h (by decide), fun h => absurd h (by decide)⟩, fun _ h => absurd h List.not_mem_nil⟩⟩⟩⟩⟩⟩)
def qcX1_init : List (Nat × Nat × Nat × Nat × FC) := [(19, 1, 0, 0, fcX4_init), (26, 0, 9, 249, fcX5_init)]
def xcX1_init : XC := (cX1_init, lkC lkX1_init, mcC qcX1_init, true)
def rmX1_init : Room := { frames := 3, cells := 42, slots := 1015, locals := 60 }
set_option maxRecDepth 100000 in
theorem clX1_init_19 : Call1C "LeapStones$Floods" xcX1_init 2 rmX1_init 19 1 0 0 fcX4_init := callC_I conX4_init cdX4_init (lw_gl _ [99, 100, 27] (by decide +kernel) (by decide +kernel)) rfl ⟨by decide, by decide, by decide +kernel⟩ ⟨rfl, rfl⟩ ⟨by decide, by decide⟩
set_option maxRecDepth 100000 in
theorem clX1_init_26 : Call1C "LeapStones$Floods" xcX1_init 2 rmX1_init 26 0 9 249 fcX5_init := callC_N conX5_init cdX5_init (lw_gl _ [60, 24] (by decide +kernel) (by decide +kernel)) (List.mem_of_getElem? (i := 4) (by decide +kernel)) rfl ⟨by decide, by decide, by decide +kernel⟩ ⟨rfl, rfl⟩ ⟨by decide, by decide⟩
theorem callsX1_init : CALLS "LeapStones$Floods" xcX1_init 2 rmX1_init := CALLS_of (l := qcX1_init) rfl (List.forall_mem_cons.mpr ⟨clX1_init_19, List.forall_mem_cons.mpr ⟨clX1_init_26, fun _ h => absurd h List.not_mem_nil⟩⟩)
def fcX1_init : FC := fnC xcX1_init 2 (42, 1015)
set_option maxRecDepth 100000 in
theorem cdX1_init : Cond.code yX1_init cX1_init 2 none ∈ lw_g := lw_gm 93 (by decide +kernel) (by decide +kernel)
theorem conX1_init : ConC yX1_init cX1_init 2 rmX1_init fcX1_init := conC_of (X := xcX1_init) (rm := rmX1_init) (by decide +kernel) rfl rfl LOKX1_init callsX1_init ⟨by decide, by decide⟩
def lkX6_init : List (Nat × Nat × Nat × Nat) := [(3, 3, 0, 0), (9, 1, 7, 0), (12, 0, 6, 0), (18, 1, 5, 0), (21, 0, 6, 1), (25, 1, 1, 0), (28, 0, 6, 2), (32, 1, 0, 0), (35, 0, 6, 3)]
set_option maxRecDepth 100000 in
theorem LOKX6_init : LOK "LeapStones$Scene" (lkC lkX6_init) := LOK_of (List.forall_mem_cons.mpr ⟨⟨fun h => absurd h (by decide), fun h => absurd h (by decide), fun h => absurd h (by decide), fun _ => lw_gl _ [45, 38, 39] (by decide +kernel) (by decide +kernel)⟩, List.forall_mem_cons.mpr ⟨⟨fun h => absurd h (by decide), fun _ _ => lw_gl _ [46, 47, 23] (by decide +kernel) (by decide +kernel), fun h => absurd h (by decide), fun h => absurd h (by decide)⟩, List.forall_mem_cons.mpr ⟨⟨fun _ _ => ⟨lw_gm 164 (by decide +kernel) (by decide +kernel), rfl⟩, fun h => absurd h (by decide), fun h => absurd h (by decide), fun h => absurd h (by decide)⟩, List.forall_mem_cons.mpr ⟨⟨fun h => absurd h (by decide), fun _ _ => lw_gl _ [57, 58, 24] (by decide +kernel) (by decide +kernel), fun h => absurd h (by decide), fun h => absurd h (by decide)⟩, List.forall_mem_cons.mpr ⟨⟨fun _ _ => ⟨lw_gm 166 (by decide +kernel) (by decide +kernel), rfl⟩, fun h => absurd h (by decide), fun h => absurd h (by decide), fun h => absurd h (by decide)⟩, List.forall_mem_cons.mpr ⟨⟨fun h => absurd h (by decide), fun _ _ => lw_gl _ [89, 90, 26] (by decide +kernel) (by decide +kernel), fun h => absurd h (by decide), fun h => absurd h (by decide)⟩, List.forall_mem_cons.mpr ⟨⟨fun _ _ => ⟨lw_gm 168 (by decide +kernel) (by decide +kernel), rfl⟩, fun h => absurd h (by decide), fun h => absurd h (by decide), fun h => absurd h (by decide)⟩, List.forall_mem_cons.mpr ⟨⟨fun h => absurd h (by decide), fun _ _ => lw_gl _ [121, 122, 28] (by decide +kernel) (by decide +kernel), fun h => absurd h (by decide), fun h => absurd h (by decide)⟩, List.forall_mem_cons.mpr ⟨⟨fun _ _ => ⟨lw_gm 170 (by decide +kernel) (by decide +kernel), rfl⟩, fun h => absurd h (by decide), fun h => absurd h (by decide), fun h => absurd h (by decide)⟩, fun _ h => absurd h List.not_mem_nil⟩⟩⟩⟩⟩⟩⟩⟩⟩)
def qcX6_init : List (Nat × Nat × Nat × Nat × FC) := [(11, 0, 1, 4, fcX7_init), (20, 0, 9, 249, fcX5_init), (27, 0, 42, 1015, fcX1_init), (34, 0, 7, 615, fcX0_init)]
def xcX6_init : XC := (cX6_init, lkC lkX6_init, mcC qcX6_init, true)
def rmX6_init : Room := { frames := 4, cells := 63, slots := 1901, locals := 81 }
set_option maxRecDepth 100000 in
theorem clX6_init_11 : Call1C "LeapStones$Scene" xcX6_init 1 rmX6_init 11 0 1 4 fcX7_init := callC_N conX7_init cdX7_init (lw_gl _ [49, 23] (by decide +kernel) (by decide +kernel)) (List.mem_of_getElem? (i := 1) (by decide +kernel)) rfl ⟨by decide, by decide, by decide +kernel⟩ ⟨rfl, rfl⟩ ⟨by decide, by decide⟩
set_option maxRecDepth 100000 in
theorem clX6_init_20 : Call1C "LeapStones$Scene" xcX6_init 1 rmX6_init 20 0 9 249 fcX5_init := callC_N conX5_init cdX5_init (lw_gl _ [60, 24] (by decide +kernel) (by decide +kernel)) (List.mem_of_getElem? (i := 2) (by decide +kernel)) rfl ⟨by decide, by decide, by decide +kernel⟩ ⟨rfl, rfl⟩ ⟨by decide, by decide⟩
set_option maxRecDepth 100000 in
theorem clX6_init_27 : Call1C "LeapStones$Scene" xcX6_init 1 rmX6_init 27 0 42 1015 fcX1_init := callC_I conX1_init cdX1_init (lw_gl _ [91, 92, 26] (by decide +kernel) (by decide +kernel)) rfl ⟨by decide, by decide, by decide +kernel⟩ ⟨rfl, rfl⟩ ⟨by decide, by decide⟩
set_option maxRecDepth 100000 in
theorem clX6_init_34 : Call1C "LeapStones$Scene" xcX6_init 1 rmX6_init 34 0 7 615 fcX0_init := callC_N conX0_init cdX0_init (lw_gl _ [124, 28] (by decide +kernel) (by decide +kernel)) (List.mem_of_getElem? (i := 5) (by decide +kernel)) rfl ⟨by decide, by decide, by decide +kernel⟩ ⟨rfl, rfl⟩ ⟨by decide, by decide⟩
theorem callsX6_init : CALLS "LeapStones$Scene" xcX6_init 1 rmX6_init := CALLS_of (l := qcX6_init) rfl (List.forall_mem_cons.mpr ⟨clX6_init_11, List.forall_mem_cons.mpr ⟨clX6_init_20, List.forall_mem_cons.mpr ⟨clX6_init_27, List.forall_mem_cons.mpr ⟨clX6_init_34, fun _ h => absurd h List.not_mem_nil⟩⟩⟩⟩)
def fcX6_init : FC := fnC xcX6_init 1 (63, 1901)
set_option maxRecDepth 100000 in
theorem cdX6_init : Cond.code yX6_init cX6_init 1 none ∈ lw_g := lw_gm 44 (by decide +kernel) (by decide +kernel)
theorem conX6_init : ConC yX6_init cX6_init 1 rmX6_init fcX6_init := conC_of (X := xcX6_init) (rm := rmX6_init) (by decide +kernel) rfl rfl LOKX6_init callsX6_init ⟨by decide, by decide⟩

/-! a cell of the script as an int -/
noncomputable def fcN : FN := fun as S => match fL_cell as S with
  | some (some (.inl z), S') => some (some (vI (Int.bmod z 4294967296)), S')
  | _ => none
theorem fcN_inv {as : List VV} {S : MM} {r : RR} (h : fcN as S = some r) : ∃ (z : Int) (S' : MM), fL_cell as S = some (some (vI z), S') ∧ r = (some (vI (Int.bmod z 4294967296)), S') := by
  unfold fcN at h
  split at h
  next z S' hq =>
    cases h
    exact ⟨z, S', hq, rfl⟩
  next => cases h
theorem fcN_of {as : List VV} {S S' : MM} {z : Int} (h : fL_cell as S = some (some (vI z), S')) : fcN as S = some (some (vI (Int.bmod z 4294967296)), S') := by
  unfold fcN
  rw [h]
theorem i32bmod (z : Int) : Int32.ofInt (Int.bmod z 4294967296) = Int32.ofInt z := by
  rw [← Int32.toInt_inj, Int32.toInt_ofInt, Int32.toInt_ofInt]
  exact Int.bmod_bmod
theorem conN_cell : Con yL_cell cL_cell 2 (some .int) { frames := 0, cells := 0, slots := 0, locals := 0 } fcN := by
  intro l G as S r hf
  obtain ⟨z, S', h1, rfl⟩ := fcN_inv hf
  have h := conL_cell l G as S _ h1
  have e : QG G (some (vI (Int.bmod z 4294967296)), S') = QG G (some (vI z), S') := by
    funext a st oc t
    have e2 : (some (vI (Int.bmod z 4294967296))).map (cv G) = (some (vI z)).map (cv G) := by
      show some (Value.int (Int32.ofInt (Int.bmod z 4294967296))) = some (Value.int (Int32.ofInt z))
      rw [i32bmod]
    show (oc = .returned ((some (vI (Int.bmod z 4294967296))).map (cv G)) ∧ _) = (oc = .returned ((some (vI z)).map (cv G)) ∧ _)
    rw [e2]
  rw [e]
  exact h

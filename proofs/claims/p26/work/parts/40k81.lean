/-! the start: its values keep the two sides apart and alike -/
def S0 (L : Nat) (xs : Nat → Int32) : MM := fun i j => if i < 593 then iv i j else if i = 602 then tv.getD j 0 else if i = 603 then (xs j).toInt else if i = 604 then (if j = 0 then 18 else if j = 1 then (L : Int) else 0) else 0
theorem A0_z {j : Nat} (h : 3 ≤ j) : A0 j = 0 := by
  unfold A0
  rw [if_neg (by omega), if_neg (by omega)]
section START
variable {L : Nat} {xs : Nat → Int32}
theorem S0_lt {i : Nat} (h : i < 593) : S0 L xs i = iv i := by
  funext j
  unfold S0
  rw [if_pos h]
set_option maxRecDepth 1000000 in
theorem zck : (List.range 593).all (fun i => (i == 3) || (i == 16) || (i < 1) || (64 < i && !(i == 66) && !(i == 68) && !(i == 69)) || (!(isS i) && ((i == 66) || !(kd i == 4)))) = true := by decide +kernel
theorem S0_z {i j : Nat} (h : (4 ≤ i ∧ i ≤ 64 ∧ i ≠ 16) ∨ i = 68 ∨ i = 69) : S0 L xs i j = 0 := by
  rw [S0_lt (by omega)]
  have h1 := List.all_eq_true.mp zck i (List.mem_range.mpr (by omega))
  have h2 : isS i = false ∧ kd i ≠ 4 := by
    have e1 : (i == 3) = false := by simp; omega
    have e2 : (i == 16) = false := by simp; omega
    have e3 : (decide (i < 1)) = false := by simp; omega
    have e6 : (i == 66) = false := by simp; omega
    rw [e1, e2, e3, e6] at h1
    by_cases q : i ≤ 64
    · have e4 : decide (64 < i) = false := by simp; omega
      rw [e4] at h1
      simpa using h1
    · rcases h with h | h | h
      · omega
      · subst h
        simpa using h1
      · subst h
        simpa using h1
  unfold iv
  rw [if_neg (by rw [h2.1]; decide), if_neg (by omega)]
set_option maxRecDepth 1000000 in
theorem iv16 (j : Nat) : iv 16 j = if j = 0 then 4 else 0 := by
  have e1 : isS 16 = false := by decide +kernel
  have e2 : kd 16 = 4 := by decide +kernel
  unfold iv
  rw [e1, e2, if_neg (by decide)]
  by_cases h : j = 0
  · rw [if_pos ⟨rfl, h⟩, if_pos h]
    rfl
  · rw [if_neg (by omega), if_neg h]
set_option maxRecDepth 1000000 in
theorem iv66 (j : Nat) : iv 66 j = if j = 0 then 6 else 0 := by
  have e1 : isS 66 = false := by decide +kernel
  have e2 : kd 66 = 4 := by decide +kernel
  unfold iv
  rw [e1, e2, if_neg (by decide)]
  by_cases h : j = 0
  · rw [if_pos ⟨rfl, h⟩, if_pos h]
    rfl
  · rw [if_neg (by omega), if_neg h]
set_option maxRecDepth 1000000 in
theorem ivR (i : Nat) (h : i < 8) : iv (96 + 64 * i) 0 = 4 := by
  have key : ∀ i : Fin 8, isS (96 + 64 * i.val) = false ∧ kd (96 + 64 * i.val) = 4 := by decide +kernel
  obtain ⟨e1, e2⟩ := key ⟨i, h⟩
  unfold iv
  rw [e1, if_neg (by decide), if_pos ⟨e2, rfl⟩, if_neg (by omega)]
set_option maxRecDepth 1000000 in
theorem ivS (j : Nat) : iv 3 j = A0 j := by
  have e1 : isS 3 = true := by decide +kernel
  unfold iv
  rw [if_pos e1]
theorem S0_river (v : Nat) (h : 4 ≤ v ∧ v + 9 ≤ 64 ∧ v + 9 < 16 ∨ 17 ≤ v ∧ v + 9 ≤ 64) {R : Nat → Nat → Int} (hR : ∀ w k, w < 3 → k < 300 → R w k = 0) : RiverIs (S0 L xs) v R :=
  ⟨(PathIs.zero (S0_z (by omega))).congr (fun k hk => hR 0 k (by omega) hk), (PathIs.zero (S0_z (by omega))).congr (fun k hk => hR 1 k (by omega) hk), (PathIs.zero (S0_z (by omega))).congr (fun k hk => hR 2 k (by omega) hk)⟩
theorem S0_scene : SceneIs (S0 L xs) 1 A0 := by
  have z := fun (i j : Nat) h => S0_z (L := L) (xs := xs) (i := i) (j := j) h
  have a0 : A0 0 = 0 := rfl
  have a1 : A0 1 = 299 := rfl
  have a2 : A0 2 = 1 := rfl
  have a := fun (j : Nat) (h : 3 ≤ j) => A0_z h
  have hM : ∀ k, k < 300 → MetA A0 k = 0 := fun k _ => a _ (by omega)
  have tri0 : ∀ i b, 4 ≤ i → i ≤ 64 → i ≠ 16 → 3 ≤ b → tri (S0 L xs) i b A0 := fun i b h1 h2 h3 h4 w hw => by rw [z i w (Or.inl ⟨h1, h2, h3⟩), a _ (by omega)]
  refine ⟨fun j hj => ?_, ?_, S0_river 4 (by omega) (fun w k _ _ => a _ (by omega)), ?_, ?_, ?_, ?_, ?_⟩
  · rw [S0_lt (by omega)]
    exact ivS j
  · have a3 := a 3 (by omega)
    exact ⟨by omega, by omega, by omega, by omega⟩
  · have a7 := a 7 (by omega)
    rw [a7]
    have e0 : S0 L xs 16 0 = 4 := by rw [S0_lt (by omega), iv16]; rfl
    have e1 : S0 L xs 16 1 = 0 := by rw [S0_lt (by omega), iv16]; rfl
    have e2 : S0 L xs 16 2 = 0 := by rw [S0_lt (by omega), iv16]; rfl
    refine ⟨e0, ?_, e2, by decide, fun k hk => ?_, fun j hj => absurd hj (by simp)⟩
    · show 0 ≤ S0 L xs 16 1 ∧ S0 L xs 16 1 < 4
      omega
    · have z1 := z (14 + 3 + 10 * k + 1) 2 (by omega)
      have z2 := z (14 + 3 + 10 * k + 4) 2 (by omega)
      have z3 := z (14 + 3 + 10 * k + 7) 2 (by omega)
      show sz40 (S0 L xs) (14 + 3 + 10 * k)
      unfold sz40
      omega
  · have a7 := a 7 (by omega)
    omega
  · have c0 := cnt_zero hM
    refine ⟨Or.inl ⟨a 4 (by omega), z 57 0 (by omega), z 57 1 (by omega)⟩, (z 57 2 (by omega)).trans (a 5 (by omega)).symm, (z 57 3 (by omega)).trans (a 6 (by omega)).symm, ⟨?_, fun k hk hp => ?_, fun k hk hp => ?_⟩, tri0 _ _ (by omega) (by omega) (by omega) (by omega), tri0 _ _ (by omega) (by omega) (by omega) (by omega), tri0 _ _ (by omega) (by omega) (by omega) (by omega), tri0 _ _ (by omega) (by omega) (by omega) (by omega), tri0 _ _ (by omega) (by omega) (by omega) (by omega)⟩
    · rw [c0]
      exact z 57 4 (by omega)
    · rw [hM k hk] at hp
      omega
    · rw [hM k hk] at hp
      omega
  · have a5 := a 5 (by omega)
    have a6 := a 6 (by omega)
    refine ⟨by omega, by omega, fun k hk => by rw [hM k hk]; omega, fun k hk hp => by rw [hM k hk] at hp; omega, fun w hw => ?_⟩
    have b1 := a (20 + w) (by omega)
    have b2 := a (8 + w) (by omega)
    have b3 := a (14 + w) (by omega)
    have b4 := a (11 + w) (by omega)
    have b5 := a (17 + w) (by omega)
    rw [b1, b2, b3, b4, b5]
    omega
  · have a4 := a 4 (by omega)
    exact ⟨by omega, fun h => by omega, fun h => by omega⟩
theorem S0_xis : XIs (S0 L xs) A0 0 (fun _ _ => 0) (fun _ => 0) (fun _ _ => 0) (fun _ => 0) 0 := by
  have z := fun (i j : Nat) h => S0_z (L := L) (xs := xs) (i := i) (j := j) h
  have e0 : S0 L xs 66 0 = 6 := by rw [S0_lt (by omega), iv66]; rfl
  have e1 : S0 L xs 66 1 = 0 := by rw [S0_lt (by omega), iv66]; rfl
  have e2 : S0 L xs 66 2 = 0 := by rw [S0_lt (by omega), iv66]; rfl
  refine ⟨S0_scene, ⟨rfl, fun j _ => rfl⟩, ⟨e0, by omega, e2, by omega, fun j hj => by omega⟩, fun i hi => ⟨z 68 i (by omega), Or.inl rfl, fun h => absurd (show (0 : Int) = 1 from h) (by decide)⟩, ⟨?_, fun i hi => ?_⟩, ⟨z 69 1 (by omega), by omega, fun k hk => by omega, fun k hk => by omega⟩⟩
  · rw [S0_lt (by omega), iv16]
    rfl
  · rw [S0_lt (by omega)]
    exact ivR i hi
end START

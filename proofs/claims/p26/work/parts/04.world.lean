/-! the world: 602 cells behind `base`, and two rows outside -/
def ad (G : GG) (i : Nat) : Nat := if i < 593 then G.2.1 + i else if i = 606 then G.2.1 + 593 + G.2.2.2 4 else G.2.2.2 (i - 602)
def cv (G : GG) : VV → Value
  | .inl z => .int (Int32.ofInt z)
  | .inr (.inl none) => .null
  | .inr (.inl (some i)) => .ref (ad G i)
  | .inr (.inr u) => .long (Int64.ofNat u)
def fent (G : GG) (S : MM) (i k : Nat) : Value := if fk (kd i) k = 8 then .ref (ad G (fref i k)) else .int (Int32.ofInt (S i k))
def ent (G : GG) (S : MM) (i : Nat) : va_E :=
  if kd i < 10 then .inr (kd i, (List.range (nfl (kd i))).map (fent G S i))
  else if kd i < 13 then .inl (G.2.2.1 (kd i), (alen i, .inl (fun j => Int32.ofInt (S i j))))
  else .inl (G.2.2.1 (kd i), (alen i, .inr (.inr (.inr (.inr (fun j => some (ad G (fref i j))))))))
/-- the row of three places that a flood of the law makes, where there is one -/
def en5 (G : GG) (S : MM) : va_E := .inl (G.2.2.1 10, (3, .inl (fun j => Int32.ofInt (S 606 j))))
def ex5 (G : GG) (S : MM) : va_W := if S 604 3 = 3 then [(G.2.1 + 593 + G.2.2.2 4, en5 G S)] else []
def wl (G : GG) (S : MM) : va_W := (List.range 593).map (fun i => (G.2.1 + i, ent G S i)) ++ ex5 G S
def tysG (G : GG) : List (ClassId × FieldType) := [(G.2.2.1 10, .int), (G.2.2.1 11, .boolean), (G.2.2.1 12, .char), (G.2.2.1 13, .object RX5), (G.2.2.1 14, .object RX6)]
def EX (G : GG) (S : MM) (U : State) (H : Heap) : Prop := va_Z "LeapStones" "TURNS" "[I" (.ref (G.2.2.2 0)) (fun q => G.2.1 ≤ q) U H ∧ ∀ i : Nat, i < 2 → 0 ≤ S 604 i ∧ S 604 i ≤ 2147483647 ∧ va_T .int (G.2.2.2 i) (S 604 i).toNat (fun j => .int (Int32.ofInt (S (602 + i) j))) (fun q => G.2.1 ≤ q) U H
def NW (U : State) : Prop := ∀ w ∈ nws, va_Nw w U
def WW (G : GG) (s : State) (S : MM) (H : Heap) (locs : List Loc) : Prop := va_K G.1 vwCl (tysG G) s ∧ va_P G.1 vwCl (wl G S) H ∧ va_S (fun q => G.2.1 ≤ q) s.heap H locs ∧ EX G S s s.heap
theorem kd_lt {i : Nat} (h : kd i ≠ 99) : i < 593 := by
  have e : kdL.length = 593 := by decide +kernel
  unfold kd at h
  rw [List.getD_eq_getElem?_getD] at h
  by_cases q : i < 593
  · exact q
  · rw [List.getElem?_eq_none (by omega)] at h
    exact absurd rfl h
theorem kd_big {i : Nat} (h : 593 ≤ i) : kd i = 99 := by
  have e : kdL.length = 593 := by decide +kernel
  unfold kd
  rw [List.getD_eq_getElem?_getD, List.getElem?_eq_none (by omega)]
  rfl
theorem alen_le (i : Nat) : alen i ≤ 28950 := by
  unfold alen
  rw [List.getD_eq_getElem?_getD]
  by_cases q : i < alL.length
  · rw [List.getElem?_eq_getElem q]
    have h : ∀ x ∈ alL, x ≤ 28950 := by decide +kernel
    exact h _ (List.getElem_mem q)
  · rw [List.getElem?_eq_none (by omega)]
    exact Nat.zero_le _
theorem wl_l (G : GG) (S : MM) : ((List.range 593).map (fun i => (G.2.1 + i, ent G S i))).length = 593 := by rw [List.length_map, List.length_range]
theorem wl_at (G : GG) (S : MM) {i : Nat} (h : i < 593) : (wl G S)[i]? = some (ad G i, ent G S i) := by
  unfold wl ad
  rw [List.getElem?_append_left (by rw [wl_l]; exact h), List.getElem?_map, List.getElem?_range h, if_pos h]
  rfl
theorem wl_at5 (G : GG) (S : MM) (h : S 604 3 = 3) : (wl G S)[593]? = some (ad G 606, en5 G S) := by
  unfold wl ad ex5
  rw [List.getElem?_append_right (by rw [wl_l]; exact Nat.le_refl _), wl_l, if_pos h, if_neg (by decide), if_pos rfl]
  rfl
theorem wl_key (G : GG) (S : MM) : ∀ (k : Nat) (q : Nat × va_E), (wl G S)[k]? = some q → q.1 = G.2.1 + k ∧ k < 593 ∨ q.1 = G.2.1 + 593 + G.2.2.2 4 ∧ k = 593 ∧ S 604 3 = 3 ∧ q.2 = en5 G S := by
  intro k q h
  unfold wl at h
  by_cases hk : k < 593
  · rw [List.getElem?_append_left (by rw [wl_l]; exact hk), List.getElem?_map, List.getElem?_range hk] at h
    cases h
    exact Or.inl ⟨rfl, hk⟩
  · rw [List.getElem?_append_right (by rw [wl_l]; omega), wl_l] at h
    unfold ex5 at h
    split at h
    next h3 =>
      by_cases hz : k - 593 = 0
      · rw [hz] at h
        cases h
        exact Or.inr ⟨rfl, by omega, h3, rfl⟩
      · rw [List.getElem?_eq_none (by show 1 ≤ k - 593; omega)] at h
        cases h
    next => cases h
theorem wl_D (G : GG) (S : MM) : va_D (fun q => G.2.1 ≤ q) (wl G S) := by
  refine ⟨fun i j a b hi hj hab => ?_, fun k q h => ?_⟩
  · have h1 := wl_key G S i a hi
    have h2 := wl_key G S j b hj
    omega
  · have h1 := wl_key G S k q h
    show G.2.1 ≤ q.1
    omega
theorem ent_row {G : GG} {S S' : MM} {j : Nat} (h : S' j = S j) : ent G S j = ent G S' j := by
  unfold ent
  have e3 : fent G S j = fent G S' j := by
    funext b
    unfold fent
    rw [h]
  rw [h, e3]
theorem wl_setA (G : GG) (S S' : MM) {i : Nat} {en : va_E} (hi : i < 593) (hne : ∀ a, a ≠ i → S' a = S a) (he : ent G S' i = en) : (wl G S).set i (ad G i, en) = wl G S' := by
  have e5 : ex5 G S' = ex5 G S := by
    unfold ex5 en5
    rw [hne 604 (by omega), hne 606 (by omega)]
  have hu : wl G S' = (List.range 593).map (fun i => (G.2.1 + i, ent G S' i)) ++ ex5 G S := by
    unfold wl
    rw [e5]
  rw [hu]
  unfold wl
  rw [List.set_append_left _ _ (by rw [wl_l]; exact hi)]
  refine congrArg (fun t => t ++ ex5 G S) ?_
  apply List.ext_getElem?
  intro j
  rw [List.getElem?_set, wl_l, List.getElem?_map, List.getElem?_map]
  by_cases hj : j < 593
  · rw [List.getElem?_range hj]
    by_cases q : i = j
    · subst q
      rw [if_pos rfl, if_pos hi]
      unfold ad
      rw [if_pos hi, ← he]
      rfl
    · rw [if_neg q]
      rw [Option.map_some, Option.map_some, ent_row (hne j (fun w => q w.symm))]
  · rw [List.getElem?_eq_none (by rw [List.length_range]; omega)]
    by_cases q : i = j
    · omega
    · rw [if_neg q]
      rfl
theorem updM_row {S : MM} {i k a : Nat} {z : Int} (h : a ≠ i) : updM S i k z a = S a := by
  funext b
  unfold updM
  rw [if_neg (fun w => h w.1)]
theorem wl_set (G : GG) (S : MM) {i k : Nat} {z : Int} {en : va_E} (hi : i < 593) (he : ent G (updM S i k z) i = en) : (wl G S).set i (ad G i, en) = wl G (updM S i k z) :=
  wl_setA G S _ hi (fun _ h => updM_row h) he
theorem wl_set5 (G : GG) (S : MM) {k : Nat} {z : Int} (h : S 604 3 = 3) : (wl G S).set 593 (ad G 606, en5 G (updM S 606 k z)) = wl G (updM S 606 k z) := by
  have h4 : updM S 606 k z 604 = S 604 := updM_row (by decide)
  have e : wl G (updM S 606 k z) = (List.range 593).map (fun i => (G.2.1 + i, ent G S i)) ++ [(G.2.1 + 593 + G.2.2.2 4, en5 G (updM S 606 k z))] := by
    have eM : (List.range 593).map (fun i => (G.2.1 + i, ent G (updM S 606 k z) i)) = (List.range 593).map (fun i => (G.2.1 + i, ent G S i)) := by
      apply List.map_congr_left
      intro j hj
      have hj := List.mem_range.mp hj
      rw [ent_row (S' := updM S 606 k z) (updM_row (by omega))]
    unfold wl ex5
    rw [eM, h4, if_pos h]
  rw [e]
  unfold wl ex5 ad
  rw [if_pos h, List.set_append_right _ _ (by rw [wl_l]; exact Nat.le_refl _), wl_l]
  rfl
theorem EX_upd {G : GG} {S : MM} {U : State} {H : Heap} {i k : Nat} {z : Int} (h : EX G S U H) (hi : i < 602 ∨ i = 606) : EX G (updM S i k z) U H := by
  have e : ∀ a, 602 ≤ a → a < 606 → updM S i k z a = S a := by
    intro a ha ha2
    funext b
    unfold updM
    rw [if_neg (fun w => by omega)]
  refine ⟨h.1, fun a ha => ?_⟩
  have h2 := h.2 a ha
  have e1 := e (602 + a) (by omega) (by omega)
  have e2 := e 604 (by omega) (by omega)
  have e3 : ∀ f : MM, f = f := fun _ => rfl
  rw [e2]
  refine ⟨h2.1, h2.2.1, ?_⟩
  have e4 : (fun j => Value.int (Int32.ofInt (updM S i k z (602 + a) j))) = (fun j => Value.int (Int32.ofInt (S (602 + a) j))) := by
    rw [e1]
  rw [e4]
  exact h2.2.2
/-! locals -/
def asL (G : GG) (L : List (Option VV)) : List (Nat × Value) := (List.range L.length).filterMap (fun i => match L[i]? with
  | some (some v) => some (i, cv G v)
  | _ => none)
theorem mem_asL {G : GG} {L : List (Option VV)} {q : Nat × Value} : q ∈ asL G L ↔ ∃ v, L[q.1]? = some (some v) ∧ q.2 = cv G v := by
  unfold asL
  rw [List.mem_filterMap]
  constructor
  · rintro ⟨i, -, h⟩
    split at h
    next v hv =>
      cases h
      exact ⟨v, hv, rfl⟩
    next => cases h
  · rintro ⟨v, h1, h2⟩
    refine ⟨q.1, List.mem_range.mpr (List.getElem?_eq_some_iff.mp h1).1, ?_⟩
    rw [h1]
    show some (q.1, cv G v) = some q
    rw [← h2]
def LV (G : GG) (ls : Array Slot) (nL : Nat) (L : List (Option VV)) : Prop := lv_has ls nL (asL G L) ∧ L.length ≤ nL
theorem LV.get {G : GG} {ls : Array Slot} {nL : Nat} {L : List (Option VV)} (h : LV G ls nL L) {i : Nat} {v : VV} (hi : L[i]? = some (some v)) : ls[i]? = some (.val (cv G v)) := h.1.2.2 (i, cv G v) (mem_asL.mpr ⟨v, hi, rfl⟩)
theorem cv_cat (G : GG) (v : VV) : (cv G v).category = if isJ v = true then 2 else 1 := by
  rcases v with z | (_ | r) | u <;> rfl
theorem noJ_spec {L : List (Option VV)} {i j : Nat} (h : noJ L i = true) (hj : j + 1 = i) {v : VV} (hv : L[j]? = some (some v)) : isJ v = false := by
  subst hj
  unfold noJ at h
  rcases v with z | r | u
  · rfl
  · rfl
  · dsimp only at h
    rw [hv] at h
    cases h
theorem LV.set1 {G : GG} {ls' : Array Slot} {nL i : Nat} {L : List (Option VV)} {v : VV} (hn : noJ L i = true) (hL : L.length ≤ nL) (h : lv_has ls' nL ((i, cv G v) :: (asL G L).filter (fun q => !(q.1 == i) && !(q.1 + 1 == i && q.2.category == 2)))) : LV G ls' nL (L.set i (some v)) := by
  refine ⟨⟨h.1, h.2.1, fun q hq => ?_⟩, by rw [List.length_set]; exact hL⟩
  obtain ⟨w, h1, h2⟩ := mem_asL.mp hq
  rw [List.getElem?_set] at h1
  by_cases e : i = q.1
  · rw [if_pos e] at h1
    split at h1
    · cases h1
      exact h.2.2 q (List.mem_cons.mpr (Or.inl (Prod.ext e.symm h2)))
    · cases h1
  · rw [if_neg e] at h1
    refine h.2.2 q (List.mem_cons.mpr (Or.inr (List.mem_filter.mpr ⟨mem_asL.mpr ⟨w, h1, h2⟩, ?_⟩)))
    have e2 : (q.1 == i) = false := by simp; exact fun z => e z.symm
    rw [e2]
    by_cases e3 : q.1 + 1 = i
    · have := noJ_spec hn e3 h1
      rw [h2, cv_cat, this]
      simp
    · simp [e3]
theorem LV.set2 {G : GG} {ls' : Array Slot} {nL i : Nat} {L : List (Option VV)} {v : VV} (hn : noJ L i = true) (hL : L.length ≤ nL) (h : lv_has ls' nL ((i, cv G v) :: (asL G L).filter (fun q => !(q.1 == i) && (!(q.1 == i + 1) && !(q.1 + 1 == i && q.2.category == 2))))) : LV G ls' nL ((L.set i (some v)).set (i + 1) none) := by
  refine ⟨⟨h.1, h.2.1, fun q hq => ?_⟩, by rw [List.length_set, List.length_set]; exact hL⟩
  obtain ⟨w, h1, h2⟩ := mem_asL.mp hq
  rw [List.getElem?_set] at h1
  by_cases e0 : i + 1 = q.1
  · rw [if_pos e0] at h1
    split at h1 <;> cases h1
  rw [if_neg e0, List.getElem?_set] at h1
  by_cases e : i = q.1
  · rw [if_pos e] at h1
    split at h1
    · cases h1
      exact h.2.2 q (List.mem_cons.mpr (Or.inl (Prod.ext e.symm h2)))
    · cases h1
  · rw [if_neg e] at h1
    refine h.2.2 q (List.mem_cons.mpr (Or.inr (List.mem_filter.mpr ⟨mem_asL.mpr ⟨w, h1, h2⟩, ?_⟩)))
    have e2 : (q.1 == i) = false := by simp; exact fun z => e z.symm
    have e4 : (q.1 == i + 1) = false := by simp; exact fun z => e0 z.symm
    rw [e2, e4]
    by_cases e3 : q.1 + 1 = i
    · have := noJ_spec hn e3 h1
      rw [h2, cv_cat, this]
      simp
    · simp [e3]

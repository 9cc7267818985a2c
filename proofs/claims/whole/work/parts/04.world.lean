/-! the world: 602 cells behind `base`, and two rows outside -/
def ad (G : GG) (i : Nat) : Nat := if i < 602 then G.2.1 + i else G.2.2.2 (i - 602)
def cv (G : GG) : VV → Value
  | .inl z => .int (Int32.ofInt z)
  | .inr (.inl none) => .null
  | .inr (.inl (some i)) => .ref (ad G i)
  | .inr (.inr u) => .long (Int64.ofNat u)
def fent (G : GG) (S : MM) (i k : Nat) : Value := if fk (kd i) k = 8 then .ref (ad G (fref i k)) else .int (Int32.ofInt (S i k))
def ent (G : GG) (S : MM) (i : Nat) : va_E :=
  if kd i < 10 then .inr (kd i, (List.range (nfl (kd i))).map (fent G S i))
  else if kd i < 13 then .inl (G.2.2.1 (kd i), (alen i, .inl (fun j => Int32.ofInt (S i j))))
  else .inl (G.2.2.1 (kd i), (alen i, .inr (.inr (.inr (.inr (fun j => some (ad G (fref i j))))))))
def wl (G : GG) (S : MM) : va_W := (List.range 602).map (fun i => (G.2.1 + i, ent G S i))
def tysG (G : GG) : List (ClassId × FieldType) := [(G.2.2.1 10, .int), (G.2.2.1 11, .boolean), (G.2.2.1 12, .char), (G.2.2.1 13, .object RX5), (G.2.2.1 14, .object RX6)]
def EX (G : GG) (S : MM) (U : State) (H : Heap) : Prop := va_Z "LeapStones" "TURNS" "[I" (.ref (G.2.2.2 0)) (fun q => G.2.1 ≤ q) U H ∧ ∀ i : Nat, i < 2 → 0 ≤ S 604 i ∧ S 604 i ≤ 2147483647 ∧ va_T .int (G.2.2.2 i) (S 604 i).toNat (fun j => .int (Int32.ofInt (S (602 + i) j))) (fun q => G.2.1 ≤ q) U H
def NW (U : State) : Prop := ∀ w ∈ nws, va_Nw w U
def WW (G : GG) (s : State) (S : MM) (H : Heap) (locs : List Loc) : Prop := va_K G.1 vwCl (tysG G) s ∧ va_P G.1 vwCl (wl G S) H ∧ va_S (fun q => G.2.1 ≤ q) s.heap H locs ∧ EX G S s s.heap
theorem kd_lt {i : Nat} (h : kd i ≠ 99) : i < 602 := by
  have e : kdL.length = 602 := by decide +kernel
  unfold kd at h
  rw [List.getD_eq_getElem?_getD] at h
  by_cases q : i < 602
  · exact q
  · rw [List.getElem?_eq_none (by omega)] at h
    exact absurd rfl h
theorem kd_big {i : Nat} (h : 602 ≤ i) : kd i = 99 := by
  have e : kdL.length = 602 := by decide +kernel
  unfold kd
  rw [List.getD_eq_getElem?_getD, List.getElem?_eq_none (by omega)]
  rfl
theorem alen_le (i : Nat) : alen i ≤ 28950 := by
  unfold alen
  rw [List.getD_eq_getElem?_getD]
  by_cases q : i < alL.length
  · rw [List.getElem?_eq_getElem q]
    have h : ∀ x ∈ alL, x ≤ 28950 := by decide +kernel
    exact h _ (List.getElem_mem q)
  · rw [List.getElem?_eq_none (by omega)]
    exact Nat.zero_le _
theorem wl_at (G : GG) (S : MM) {i : Nat} (h : i < 602) : (wl G S)[i]? = some (ad G i, ent G S i) := by
  unfold wl ad
  rw [List.getElem?_map, List.getElem?_range h, if_pos h]
  rfl
theorem wl_D (G : GG) (S : MM) : va_D (fun q => G.2.1 ≤ q) (wl G S) := by
  have key : ∀ (k : Nat) (q : Nat × va_E), (wl G S)[k]? = some q → k < 602 ∧ q.1 = G.2.1 + k := by
    intro k q h
    unfold wl at h
    rw [List.getElem?_map] at h
    by_cases hk : k < 602
    · rw [List.getElem?_range hk] at h
      cases h
      exact ⟨hk, rfl⟩
    · rw [List.getElem?_eq_none (by simp; omega)] at h
      cases h
  refine ⟨fun i j a b hi hj hab => ?_, fun k q h => ?_⟩
  · have h1 := (key i a hi).2
    have h2 := (key j b hj).2
    omega
  · have h1 := (key k q h).2
    show G.2.1 ≤ q.1
    omega
theorem wl_set (G : GG) (S : MM) {i k : Nat} {z : Int} {en : va_E} (hi : i < 602) (he : ent G (updM S i k z) i = en) : (wl G S).set i (ad G i, en) = wl G (updM S i k z) := by
  apply List.ext_getElem?
  intro j
  rw [List.getElem?_set]
  by_cases hj : j < 602
  · rw [wl_at G S hj, wl_at G (updM S i k z) hj]
    by_cases q : i = j
    · subst q
      have hl : i < (wl G S).length := by unfold wl; simp; exact hi
      rw [if_pos rfl, if_pos hl, he]
    · rw [if_neg q]
      have e : ent G S j = ent G (updM S i k z) j := by
        have e2 : updM S i k z j = S j := by
          funext b
          unfold updM
          rw [if_neg (fun w => q w.1.symm)]
        unfold ent
        have e3 : fent G S j = fent G (updM S i k z) j := by
          funext b
          unfold fent
          rw [e2]
        rw [e2, e3]
      rw [e]
  · have l1 : (wl G S).length = 602 := by unfold wl; simp
    have l2 : (wl G (updM S i k z)).length = 602 := by unfold wl; simp
    rw [List.getElem?_eq_none (by omega : (wl G S).length ≤ j), List.getElem?_eq_none (by omega : (wl G (updM S i k z)).length ≤ j)]
    by_cases q : i = j
    · omega
    · rw [if_neg q]
theorem EX_upd {G : GG} {S : MM} {U : State} {H : Heap} {i k : Nat} {z : Int} (h : EX G S U H) (hi : i < 602) : EX G (updM S i k z) U H := by
  have e : ∀ a, 602 ≤ a → updM S i k z a = S a := by
    intro a ha
    funext b
    unfold updM
    rw [if_neg (fun w => by omega)]
  refine ⟨h.1, fun a ha => ?_⟩
  have h2 := h.2 a ha
  have e1 := e (602 + a) (by omega)
  have e2 := e 604 (by omega)
  have e3 : ∀ f : MM, f = f := fun _ => rfl
  rw [e2]
  refine ⟨h2.1, h2.2.1, ?_⟩
  have e4 : (fun j => Value.int (Int32.ofInt (updM S i k z (602 + a) j))) = (fun j => Value.int (Int32.ofInt (S (602 + a) j))) := by
    rw [e1]
  rw [e4]
  exact h2.2.2
/-! locals -/
def asL (G : GG) (L : List (Option VV)) : List (Nat × Value) := (List.range L.length).filterMap (fun i => match L[i]? with
  | some (some v) => some (i, cv G v)
  | _ => none)
theorem mem_asL {G : GG} {L : List (Option VV)} {q : Nat × Value} : q ∈ asL G L ↔ ∃ v, L[q.1]? = some (some v) ∧ q.2 = cv G v := by
  unfold asL
  rw [List.mem_filterMap]
  constructor
  · rintro ⟨i, -, h⟩
    split at h
    next v hv =>
      cases h
      exact ⟨v, hv, rfl⟩
    next => cases h
  · rintro ⟨v, h1, h2⟩
    refine ⟨q.1, List.mem_range.mpr (List.getElem?_eq_some_iff.mp h1).1, ?_⟩
    rw [h1]
    show some (q.1, cv G v) = some q
    rw [← h2]
def LV (G : GG) (ls : Array Slot) (nL : Nat) (L : List (Option VV)) : Prop := lv_has ls nL (asL G L) ∧ L.length ≤ nL
theorem LV.get {G : GG} {ls : Array Slot} {nL : Nat} {L : List (Option VV)} (h : LV G ls nL L) {i : Nat} {v : VV} (hi : L[i]? = some (some v)) : ls[i]? = some (.val (cv G v)) := h.1.2.2 (i, cv G v) (mem_asL.mpr ⟨v, hi, rfl⟩)
theorem cv_cat (G : GG) (v : VV) : (cv G v).category = if isJ v = true then 2 else 1 := by
  rcases v with z | (_ | r) | u <;> rfl
theorem noJ_spec {L : List (Option VV)} {i j : Nat} (h : noJ L i = true) (hj : j + 1 = i) {v : VV} (hv : L[j]? = some (some v)) : isJ v = false := by
  subst hj
  unfold noJ at h
  rcases v with z | r | u
  · rfl
  · rfl
  · dsimp only at h
    rw [hv] at h
    cases h
theorem LV.set1 {G : GG} {ls' : Array Slot} {nL i : Nat} {L : List (Option VV)} {v : VV} (hn : noJ L i = true) (hL : L.length ≤ nL) (h : lv_has ls' nL ((i, cv G v) :: (asL G L).filter (fun q => !(q.1 == i) && !(q.1 + 1 == i && q.2.category == 2)))) : LV G ls' nL (L.set i (some v)) := by
  refine ⟨⟨h.1, h.2.1, fun q hq => ?_⟩, by rw [List.length_set]; exact hL⟩
  obtain ⟨w, h1, h2⟩ := mem_asL.mp hq
  rw [List.getElem?_set] at h1
  by_cases e : i = q.1
  · rw [if_pos e] at h1
    split at h1
    · cases h1
      exact h.2.2 q (List.mem_cons.mpr (Or.inl (Prod.ext e.symm h2)))
    · cases h1
  · rw [if_neg e] at h1
    refine h.2.2 q (List.mem_cons.mpr (Or.inr (List.mem_filter.mpr ⟨mem_asL.mpr ⟨w, h1, h2⟩, ?_⟩)))
    have e2 : (q.1 == i) = false := by simp; exact fun z => e z.symm
    rw [e2]
    by_cases e3 : q.1 + 1 = i
    · have := noJ_spec hn e3 h1
      rw [h2, cv_cat, this]
      simp
    · simp [e3]
theorem LV.set2 {G : GG} {ls' : Array Slot} {nL i : Nat} {L : List (Option VV)} {v : VV} (hn : noJ L i = true) (hL : L.length ≤ nL) (h : lv_has ls' nL ((i, cv G v) :: (asL G L).filter (fun q => !(q.1 == i) && (!(q.1 == i + 1) && !(q.1 + 1 == i && q.2.category == 2))))) : LV G ls' nL ((L.set i (some v)).set (i + 1) none) := by
  refine ⟨⟨h.1, h.2.1, fun q hq => ?_⟩, by rw [List.length_set, List.length_set]; exact hL⟩
  obtain ⟨w, h1, h2⟩ := mem_asL.mp hq
  rw [List.getElem?_set] at h1
  by_cases e0 : i + 1 = q.1
  · rw [if_pos e0] at h1
    split at h1 <;> cases h1
  rw [if_neg e0, List.getElem?_set] at h1
  by_cases e : i = q.1
  · rw [if_pos e] at h1
    split at h1
    · cases h1
      exact h.2.2 q (List.mem_cons.mpr (Or.inl (Prod.ext e.symm h2)))
    · cases h1
  · rw [if_neg e] at h1
    refine h.2.2 q (List.mem_cons.mpr (Or.inr (List.mem_filter.mpr ⟨mem_asL.mpr ⟨w, h1, h2⟩, ?_⟩)))
    have e2 : (q.1 == i) = false := by simp; exact fun z => e z.symm
    have e4 : (q.1 == i + 1) = false := by simp; exact fun z => e0 z.symm
    rw [e2, e4]
    by_cases e3 : q.1 + 1 = i
    · have := noJ_spec hn e3 h1
      rw [h2, cv_cat, this]
      simp
    · simp [e3]

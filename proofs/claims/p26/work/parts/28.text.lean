/-! the text: floods, orders, faults -/
section TX2
variable (P : Nat → Int) (n : Nat)
def Fl (p : Nat) : Bool × Nat × Int × Int × Int :=
  if nx P n p = 42 ∨ (48 ≤ nx P n p ∧ nx P n p ≤ 50) then
    (if nx P n (p + 1) = 58 then
      (if (ky P n (p + 2)).1 = -6 then (false, p + 2, 0, 0, 0)
       else if nx P n (ky P n (p + 2)).2 = 45 then
         (if (ky P n ((ky P n (p + 2)).2 + 1)).1 = -6 then (false, (ky P n (p + 2)).2 + 1, 0, 0, 0)
          else if (ky P n ((ky P n (p + 2)).2 + 1)).1 ≠ 0 ∧ 48 ≤ nx P n (ky P n ((ky P n (p + 2)).2 + 1)).2 ∧ nx P n (ky P n ((ky P n (p + 2)).2 + 1)).2 ≤ 57 then (false, (ky P n ((ky P n (p + 2)).2 + 1)).2, 0, 0, 0)
          else (true, (ky P n ((ky P n (p + 2)).2 + 1)).2, (if nx P n p = 42 then -6 else nx P n p - 48), (ky P n (p + 2)).1, (ky P n ((ky P n (p + 2)).2 + 1)).1))
       else (false, (ky P n (p + 2)).2, 0, 0, 0))
     else (false, p + 1, 0, 0, 0))
  else (false, p, 0, 0, 0)
def Lst : Nat → Nat → Bool × Nat × List (Int × Int × Int)
  | 0, p => (false, p, [])
  | f + 1, p => if (St P n p).1 = true then (if nx P n (St P n p).2.1 = 44 then ((Lst f ((St P n p).2.1 + 1)).1, (Lst f ((St P n p).2.1 + 1)).2.1, (St P n p).2.2 :: (Lst f ((St P n p).2.1 + 1)).2.2) else (true, (St P n p).2.1, [(St P n p).2.2])) else (false, (St P n p).2.1, [])
/-- an order: whole, where the reading stops, kind, walker, stretches -/
def Od (p : Nat) : Bool × Nat × Int × Int × List (Int × Int × Int) :=
  if nx P n p = 100 ∨ nx P n p = 103 ∨ nx P n p = 108 then (true, p + 1, nx P n p, 0, [])
  else if nx P n p = 102 then ((Fl P n (p + 1)).1, (Fl P n (p + 1)).2.1, 102, (Fl P n (p + 1)).2.2.1, [((Fl P n (p + 1)).2.2.2.1, (Fl P n (p + 1)).2.2.2.2, 0)])
  else if 48 ≤ nx P n p ∧ nx P n p ≤ 50 then (if nx P n (p + 1) = 58 then ((Lst P n 80 (p + 2)).1, (Lst P n 80 (p + 2)).2.1, 115, nx P n p - 48, (Lst P n 80 (p + 2)).2.2) else (false, p + 1, 0, 0, []))
  else (false, p, 0, 0, [])
def Tx : Nat → Nat → Bool × Nat × List (Int × Int × List (Int × Int × Int))
  | 0, p => (false, p, [])
  | f + 1, p => if (Od P n p).1 = true then (if (Od P n p).2.1 < n then (if nx P n (Od P n p).2.1 = 59 then ((Tx f ((Od P n p).2.1 + 1)).1, (Tx f ((Od P n p).2.1 + 1)).2.1, (Od P n p).2.2 :: (Tx f ((Od P n p).2.1 + 1)).2.2) else (false, (Od P n p).2.1, [])) else (true, (Od P n p).2.1, [(Od P n p).2.2])) else (false, (Od P n p).2.1, [])
end TX2
section RD3
variable {P : Nat → Int} {n : Nat} {S : MM}
theorem nx_in2 {p : Nat} {z : Int} (h : nx P n p = z) (hz : z ≠ 0) : p < n := nx_in (P := P) (by rw [h]; exact hz)
theorem stR_b {a b : Int} {p : Nat} (hp : p ≤ n) : p ≤ (stR P n a b p).2.1 ∧ (stR P n a b p).2.1 ≤ n ∧ ((stR P n a b p).1 = true → (stR P n a b p).2.2.1 = a ∧ (stR P n a b p).2.2.2.1 = b ∧ 1 ≤ (stR P n a b p).2.2.2.2 ∧ (stR P n a b p).2.2.2.2 ≤ 9) := by
  unfold stR
  by_cases c : nx P n p = 42
  · rw [if_pos c]
    have := nx_in2 c (by omega)
    by_cases d : 49 ≤ nx P n (p + 1) ∧ nx P n (p + 1) ≤ 57
    · rw [if_pos d]
      have := nx_in (P := P) (n := n) (p := p + 1) (by omega)
      exact ⟨by show p ≤ p + 2; omega, by show p + 2 ≤ n; omega, fun _ => ⟨rfl, rfl, by show 1 ≤ nx P n (p + 1) - 48; omega, by show nx P n (p + 1) - 48 ≤ 9; omega⟩⟩
    · rw [if_neg d]
      exact ⟨by show p ≤ p + 1; omega, by show p + 1 ≤ n; omega, fun q => ft q⟩
  · rw [if_neg c]
    exact ⟨Nat.le_refl _, hp, fun _ => ⟨rfl, rfl, by show (1 : Int) ≤ 1; omega, by show (1 : Int) ≤ 9; omega⟩⟩
theorem St_b {p : Nat} (hp : p ≤ n) : p ≤ (St P n p).2.1 ∧ (St P n p).2.1 ≤ n ∧ ((St P n p).1 = true → p < (St P n p).2.1 ∧ p < n ∧ (0 ≤ (St P n p).2.2.1 ∧ (St P n p).2.2.1 ≤ 299) ∧ (0 ≤ (St P n p).2.2.2.1 ∧ (St P n p).2.2.2.1 ≤ 299) ∧ 1 ≤ (St P n p).2.2.2.2 ∧ (St P n p).2.2.2.2 ≤ 9) := by
  have hb := ky_b (P := P) (n := n) (p := p)
  have hb2 := ky_b (P := P) (n := n) (p := (ky P n p).2 + 1)
  unfold St
  generalize (ky P n ((ky P n p).2 + 1)).1 = w at *
  generalize (ky P n ((ky P n p).2 + 1)).2 = q at *
  generalize (ky P n p).1 = v at *
  generalize (ky P n p).2 = p1 at *
  by_cases c : v = -6
  · rw [if_pos c]
    exact ⟨Nat.le_refl _, hp, fun q => ft q⟩
  · rw [if_neg c]
    have hv : 0 ≤ v ∧ v ≤ 299 ∧ p + 1 ≤ p1 ∧ p1 ≤ n ∧ p < n := by
      rcases hb with y | y
      · exact absurd y.1 c
      · exact y
    by_cases bad : v ≠ 0 ∧ 48 ≤ nx P n p1 ∧ nx P n p1 ≤ 57
    · rw [if_pos bad]
      exact ⟨by show p ≤ p1; omega, by show p1 ≤ n; omega, fun q => ft q⟩
    · rw [if_neg bad]
      by_cases d : nx P n p1 = 45
      · rw [if_pos d]
        have := nx_in2 d (by omega)
        by_cases c2 : w = -6
        · rw [if_pos c2]
          exact ⟨by show p ≤ p1 + 1; omega, by show p1 + 1 ≤ n; omega, fun q => ft q⟩
        · rw [if_neg c2]
          have hw : 0 ≤ w ∧ w ≤ 299 ∧ p1 + 1 + 1 ≤ q ∧ q ≤ n ∧ p1 + 1 < n := by
            rcases hb2 with y | y
            · exact absurd y.1 c2
            · exact y
          by_cases bad2 : w ≠ 0 ∧ 48 ≤ nx P n q ∧ nx P n q ≤ 57
          · rw [if_pos bad2]
            exact ⟨by show p ≤ q; omega, by show q ≤ n; omega, fun q => ft q⟩
          · rw [if_neg bad2]
            obtain ⟨h1, h2, h3⟩ := stR_b (P := P) (a := v) (b := w) hw.2.2.2.1
            exact ⟨by omega, h2, fun y => by obtain ⟨z1, z2, z3, z4⟩ := h3 y; omega⟩
      · rw [if_neg d]
        obtain ⟨h1, h2, h3⟩ := stR_b (P := P) (a := v) (b := v) hv.2.2.2.1
        exact ⟨by omega, h2, fun y => by obtain ⟨z1, z2, z3, z4⟩ := h3 y; omega⟩
theorem Lst_b : ∀ {f p : Nat}, p ≤ n → p ≤ (Lst P n f p).2.1 ∧ (Lst P n f p).2.1 ≤ n ∧ ((Lst P n f p).1 = true → p < (Lst P n f p).2.1) := by
  intro f
  induction f with
  | zero => intro p hp; exact ⟨Nat.le_refl _, hp, fun q => ft q⟩
  | succ f ih =>
    intro p hp
    obtain ⟨h1, h2, h3⟩ := St_b (P := P) hp
    rw [Lst]
    by_cases c : (St P n p).1 = true
    · rw [if_pos c]
      by_cases d : nx P n (St P n p).2.1 = 44
      · rw [if_pos d]
        have := nx_in2 d (by omega)
        obtain ⟨g1, g2, g3⟩ := ih (p := (St P n p).2.1 + 1) (by omega)
        exact ⟨by show p ≤ (Lst P n f ((St P n p).2.1 + 1)).2.1; omega, g2, fun _ => by show p < (Lst P n f ((St P n p).2.1 + 1)).2.1; omega⟩
      · rw [if_neg d]
        exact ⟨h1, h2, fun _ => (h3 c).1⟩
    · rw [if_neg c]
      exact ⟨h1, h2, fun q => ft q⟩
theorem Fl_b {p : Nat} (hp : p ≤ n) : p ≤ (Fl P n p).2.1 ∧ (Fl P n p).2.1 ≤ n ∧ ((Fl P n p).1 = true → ((Fl P n p).2.2.1 = -6 ∨ (0 ≤ (Fl P n p).2.2.1 ∧ (Fl P n p).2.2.1 ≤ 2)) ∧ (0 ≤ (Fl P n p).2.2.2.1 ∧ (Fl P n p).2.2.2.1 ≤ 299) ∧ 0 ≤ (Fl P n p).2.2.2.2 ∧ (Fl P n p).2.2.2.2 ≤ 299) := by
  have hb := ky_b (P := P) (n := n) (p := p + 2)
  have hb2 := ky_b (P := P) (n := n) (p := (ky P n (p + 2)).2 + 1)
  unfold Fl
  generalize (ky P n ((ky P n (p + 2)).2 + 1)).1 = w at *
  generalize (ky P n ((ky P n (p + 2)).2 + 1)).2 = q at *
  generalize (ky P n (p + 2)).1 = v at *
  generalize (ky P n (p + 2)).2 = p1 at *
  by_cases a : nx P n p = 42 ∨ (48 ≤ nx P n p ∧ nx P n p ≤ 50)
  · rw [if_pos a]
    have h0 := nx_in (P := P) (n := n) (p := p) (by omega)
    by_cases e : nx P n (p + 1) = 58
    · rw [if_pos e]
      have h1 := nx_in2 e (by omega)
      by_cases c : v = -6
      · rw [if_pos c]
        exact ⟨by show p ≤ p + 2; omega, by show p + 2 ≤ n; omega, fun q => ft q⟩
      · rw [if_neg c]
        have hv : 0 ≤ v ∧ v ≤ 299 ∧ p + 2 + 1 ≤ p1 ∧ p1 ≤ n ∧ p + 2 < n := by
          rcases hb with y | y
          · exact absurd y.1 c
          · exact y
        by_cases d : nx P n p1 = 45
        · rw [if_pos d]
          have h2 := nx_in2 d (by omega)
          by_cases c2 : w = -6
          · rw [if_pos c2]
            exact ⟨by show p ≤ p1 + 1; omega, by show p1 + 1 ≤ n; omega, fun q => ft q⟩
          · rw [if_neg c2]
            have hw : 0 ≤ w ∧ w ≤ 299 ∧ p1 + 1 + 1 ≤ q ∧ q ≤ n ∧ p1 + 1 < n := by
              rcases hb2 with y | y
              · exact absurd y.1 c2
              · exact y
            by_cases bad2 : w ≠ 0 ∧ 48 ≤ nx P n q ∧ nx P n q ≤ 57
            · rw [if_pos bad2]
              exact ⟨by show p ≤ q; omega, by show q ≤ n; omega, fun q => ft q⟩
            · rw [if_neg bad2]
              refine ⟨by show p ≤ q; omega, by show q ≤ n; omega, fun _ => ⟨?_, ⟨hv.1, hv.2.1⟩, hw.1, hw.2.1⟩⟩
              show (if nx P n p = 42 then (-6 : Int) else nx P n p - 48) = -6 ∨ (0 ≤ (if nx P n p = 42 then (-6 : Int) else nx P n p - 48) ∧ (if nx P n p = 42 then (-6 : Int) else nx P n p - 48) ≤ 2)
              split <;> omega
        · rw [if_neg d]
          exact ⟨by show p ≤ p1; omega, by show p1 ≤ n; omega, fun q => ft q⟩
    · rw [if_neg e]
      exact ⟨by show p ≤ p + 1; omega, by show p + 1 ≤ n; omega, fun q => ft q⟩
  · rw [if_neg a]
    exact ⟨Nat.le_refl _, hp, fun q => ft q⟩
theorem Od_b {p : Nat} (hp : p ≤ n) : p ≤ (Od P n p).2.1 ∧ (Od P n p).2.1 ≤ n ∧ ((Od P n p).1 = true → p < (Od P n p).2.1) := by
  unfold Od
  by_cases a : nx P n p = 100 ∨ nx P n p = 103 ∨ nx P n p = 108
  · rw [if_pos a]
    have h0 := nx_in (P := P) (n := n) (p := p) (by omega)
    exact ⟨by show p ≤ p + 1; omega, by show p + 1 ≤ n; omega, fun _ => by show p < p + 1; omega⟩
  · rw [if_neg a]
    by_cases b : nx P n p = 102
    · rw [if_pos b]
      have h0 := nx_in2 b (by omega)
      obtain ⟨g1, g2, g3⟩ := Fl_b (P := P) (n := n) (p := p + 1) (by omega)
      exact ⟨by show p ≤ (Fl P n (p + 1)).2.1; omega, g2, fun _ => by show p < (Fl P n (p + 1)).2.1; omega⟩
    · rw [if_neg b]
      by_cases c : 48 ≤ nx P n p ∧ nx P n p ≤ 50
      · rw [if_pos c]
        have h0 := nx_in (P := P) (n := n) (p := p) (by omega)
        by_cases d : nx P n (p + 1) = 58
        · rw [if_pos d]
          have h1 := nx_in2 d (by omega)
          obtain ⟨g1, g2, g3⟩ := Lst_b (P := P) (n := n) (f := 80) (p := p + 2) (by omega)
          exact ⟨by show p ≤ (Lst P n 80 (p + 2)).2.1; omega, g2, fun _ => by show p < (Lst P n 80 (p + 2)).2.1; omega⟩
        · rw [if_neg d]
          exact ⟨by show p ≤ p + 1; omega, by show p + 1 ≤ n; omega, fun q => ft q⟩
      · rw [if_neg c]
        exact ⟨Nat.le_refl _, hp, fun q => ft q⟩
end RD3

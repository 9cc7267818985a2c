/-! the whole of the class: what it keeps -/
def Hs (S : MM) (m : Nat) (H : Nat → Nat → Int) : Prop := S 66 0 = 6 ∧ (0 ≤ S 66 1 ∧ S 66 1 < 6) ∧ S 66 2 = (m : Int) ∧ m ≤ 6 ∧ ∀ j : Nat, j < m → SceneIs S (81 + 64 * (((S 66 1).toNat + 6 - m + j) % 6)) (H j)
def Sl (S : MM) (K : Nat → Int) (V : Nat → Nat → Int) : Prop := ∀ i : Nat, i < 2 → S 68 i = K i ∧ (K i = 0 ∨ K i = 1) ∧ (K i = 1 → SceneIs S (465 + 64 * i) (V i))
def R4 (S : MM) : Prop := S 16 0 = 4 ∧ ∀ i : Nat, i < 8 → S (96 + 64 * i) 0 = 4
def XIs (S : MM) (A : Nat → Int) (m : Nat) (H : Nat → Nat → Int) (K : Nat → Int) (V : Nat → Nat → Int) (P : Nat → Int) (n : Nat) : Prop := SceneIs S 1 A ∧ TNS S ∧ Hs S m H ∧ Sl S K V ∧ R4 S ∧ TX S P n
set_option maxRecDepth 100000 in
theorem rk : kd 65 = 14 ∧ alen 65 = 6 ∧ kd 66 = 4 ∧ kd 67 = 14 ∧ alen 67 = 2 ∧ kd 68 = 11 ∧ alen 68 = 2 := by decide +kernel
set_option maxRecDepth 100000 in
theorem rf65 : ∀ q : Nat, q < 6 → fref 65 q = 81 + 64 * q := by decide +kernel
set_option maxRecDepth 100000 in
theorem rf67 : ∀ q : Nat, q < 2 → fref 67 q = 465 + 64 * q := by decide +kernel
theorem scn0 : scnF 1 := scn_all 0 (by omega)
theorem scnp {q : Nat} (h : q < 8) : scnF (81 + 64 * q) := by
  have e := scn_all (q + 1) (by omega)
  unfold scB at e
  rw [if_neg (by omega), show 17 + 64 * (q + 1) = 81 + 64 * q by omega] at e
  exact e
theorem scns {i : Nat} (h : i < 2) : scnF (465 + 64 * i) := by
  have e := scnp (q := i + 6) (by omega)
  rw [show 81 + 64 * (i + 6) = 465 + 64 * i by omega] at e
  exact e
theorem TNS.keep {S S' : MM} (h : TNS S) (h2 : S' 602 = S 602) (h4 : S' 604 = S 604) : TNS S' := by
  unfold TNS at h ⊢
  rw [h2, h4]
  exact h
section ROOT
variable {S S' : MM} {A A' : Nat → Int} {m : Nat} {H : Nat → Nat → Int} {K : Nat → Int} {V : Nat → Nat → Int} {P : Nat → Int} {n : Nat}
theorem Hs.rows (h : Hs S m H) (he : ∀ a, 66 ≤ a → a < 465 → a ≠ 69 → a ≠ 70 → S' a = S a) : Hs S' m H := by
  obtain ⟨h1, h2, h3, h4, h5⟩ := h
  have e := he 66 (by omega) (by omega) (by omega) (by omega)
  refine ⟨by rw [e]; exact h1, by rw [e]; exact h2, by rw [e]; exact h3, h4, fun j hj => ?_⟩
  rw [e]
  have hlt : ((S 66 1).toNat + 6 - m + j) % 6 < 6 := Nat.mod_lt _ (by omega)
  exact (h5 j hj).rows (fun a q1 q2 => he a (by omega) (by omega) (by omega) (by omega))
theorem Sl.rows (h : Sl S K V) (h8 : S' 68 = S 68) (he : ∀ a, 465 ≤ a → a < 593 → S' a = S a) : Sl S' K V := fun i hi => by
  obtain ⟨g1, g2, g3⟩ := h i hi
  exact ⟨by rw [h8]; exact g1, g2, fun q => (g3 q).rows (fun a q1 q2 => he a (by omega) (by omega))⟩
/-- the same whole with another scene now -/
theorem XIs.now (h : XIs S A m H K V P n) (hN : SceneIs S' 1 A') (he : ∀ a, a < 1 ∨ 65 ≤ a → S' a = S a) : XIs S' A' m H K V P n := by
  obtain ⟨h1, h2, h3, h4, h5, h6⟩ := h
  exact ⟨hN, h2.keep (he _ (by omega)) (he _ (by omega)), h3.rows (fun a _ _ _ _ => he a (by omega)), h4.rows (he _ (by omega)) (fun a _ _ => he a (by omega)), ⟨hN.2.2.2.1.1, fun i hi => by rw [he _ (by omega)]; exact h5.2 i hi⟩, h6.row (by rw [he 69 (by omega)]) (he 70 (by omega))⟩
/-- the whole elsewhere -/
theorem XIs.rows (h : XIs S A m H K V P n) (he : ∀ a, 1 ≤ a → a < 593 → (a < 71 ∨ 81 ≤ a) → S' a = S a) (h2' : S' 602 = S 602) (h4' : S' 604 = S 604) : XIs S' A m H K V P n := by
  obtain ⟨h1, h2, h3, h4, h5, h6⟩ := h
  refine ⟨h1.rows (fun a _ _ => he a (by omega) (by omega) (by omega)), h2.keep h2' h4', ?_, h4.rows (he 68 (by omega) (by omega) (by omega)) (fun a _ _ => he a (by omega) (by omega) (by omega)), ⟨by rw [he 16 (by omega) (by omega) (by omega)]; exact h5.1, fun i hi => by rw [he _ (by omega) (by omega) (by omega)]; exact h5.2 i hi⟩, h6.row (by rw [he 69 (by omega) (by omega) (by omega)]) (he 70 (by omega) (by omega) (by omega))⟩
  obtain ⟨g1, g2, g3, g4, g5⟩ := h3
  have e := he 66 (by omega) (by omega) (by omega)
  refine ⟨by rw [e]; exact g1, by rw [e]; exact g2, by rw [e]; exact g3, g4, fun j hj => ?_⟩
  rw [e]
  have hlt : ((S 66 1).toNat + 6 - m + j) % 6 < 6 := Nat.mod_lt _ (by omega)
  exact (g5 j hj).rows (fun a q1 q2 => he a (by omega) (by omega) (by omega))
def mH (m : Nat) (H : Nat → Nat → Int) (A : Nat → Int) : Nat → Nat → Int := fun j => if m < 6 then (if j < m then H j else A) else (if j < 5 then H (j + 1) else A)
def mM (m : Nat) : Nat := if m < 6 then m + 1 else 6
theorem s_remember (h : XIs S A m H K V P n) : ∃ S', fX8_remember [vR 0] S = some (none, S') ∧ XIs S' A (mM m) (mH m H A) K V P n ∧ (∀ a, 593 ≤ a → S' a = S a) := by
  obtain ⟨h1, h2, ⟨g1, g2, g3, g4, g5⟩, h4, h5, h6⟩ := h
  obtain ⟨k65, a65, k66, -⟩ := rk
  obtain ⟨T1, e1, t1, t2, t3, t4⟩ := s_ringAdd (S := S) k66 (by omega) (by omega) (by omega)
  rw [g1] at t1 t2 t3
  obtain ⟨q, hq⟩ : ∃ q : Nat, S 66 1 = (q : Int) := ⟨(S 66 1).toNat, by omega⟩
  have hq6 : q < 6 := by omega
  have hs := scnp (q := q) (by omega)
  obtain ⟨kq, -⟩ := id hs
  have r4 : T1 (81 + 64 * q + 15) 0 = 4 := by
    rw [t4 _ (by omega), show 81 + 64 * q + 15 = 96 + 64 * q by omega]
    exact h5.2 q (by omega)
  have hN1 : SceneIs T1 1 A := h1.rows (fun a _ _ => t4 a (by omega))
  obtain ⟨T2, e2, u1, u2⟩ := s_sceneCopy hs scn0 (by omega) r4 hN1
  have e3 := s_isBetween (S := T1) (a := (q : Int)) (b := 0) (c := 5) ⟨by omega, by omega⟩ ⟨by omega, by omega⟩ ⟨by omega, by omega⟩
  rw [if_pos (by omega)] at e3
  have e4 : ((alen 65 : Nat) : Int) - 1 = 5 := by rw [a65]; rfl
  have e5 := rf65 q hq6
  rw [hq] at e1
  have hT66 : T2 66 = T1 66 := u2 66 (by omega)
  have hoth : ∀ k : Nat, k < 8 → k ≠ q → ∀ a, 81 + 64 * k ≤ a → a < 81 + 64 * k + 64 → T2 a = S a := fun k hk hne a y1 y2 => by rw [u2 a (by omega), t4 a (by omega)]
  refine ⟨T2, ?_, ⟨hN1.rows (fun a _ _ => u2 a (by omega)), h2.keep (by rw [u2 602 (by omega), t4 602 (by omega)]) (by rw [u2 604 (by omega), t4 604 (by omega)]), ⟨by rw [hT66]; exact t1, ?_, ?_, ?_, fun j hj => ?_⟩, h4.rows (by rw [u2 68 (by omega), t4 68 (by omega)]) (fun a _ _ => by rw [u2 a (by omega), t4 a (by omega)]), ⟨by rw [u2 16 (by omega), t4 16 (by omega)]; exact h5.1, fun i hi => ?_⟩, h6.row (by rw [u2 69 (by omega), t4 69 (by omega)]) (by rw [u2 70 (by omega), t4 70 (by omega)])⟩, fun a ha => by rw [u2 a (by omega), t4 a (by omega)]⟩
  · rw [uX8_remember]
    simp (disch := omega) only [eX8_remember_0, eX8_remember_1, eX8_remember_4, eX8_remember_7, eX8_remember_8, eX8_remember_9, eX8_remember_10, eX8_remember_11, eX8_remember_14, eX8_remember_14x, eX8_remember_14y, eX8_remember_15, eX8_remember_16, eX8_remember_17, eX8_remember_20, eX8_remember_23, eX8_remember_24, eX8_remember_27, eX8_remember_28, eX8_remember_29, eX8_remember_32, eX8_remember_33, eX8_remember_34, eX8_remember_35n, eX8_remember_35r, eX8_remember_38, eX8_remember_39, eX8_remember_40, eX8_remember_43, eX8_remember_46, if_pos, if_neg, if_true, if_false, Option.bind_some, Option.toList_some, Option.toList_none, List.cons_append, List.nil_append, e1, e4, e3, Int.toNat_natCast, e5, e2]
  · rw [hT66, t2]
    split <;> omega
  · rw [hT66, t3, g3]
    unfold mM
    split <;> split <;> omega
  · unfold mM
    split <;> omega
  · have hn : (T2 66 1).toNat = (q + 1) % 6 := by
      rw [hT66, t2, hq]
      split <;> omega
    rw [hn]
    unfold mM at hj ⊢
    unfold mH
    by_cases c : m < 6
    · rw [if_pos c] at hj ⊢
      have hp : ((q + 1) % 6 + 6 - (m + 1) + j) % 6 = (q + 6 - m + j) % 6 := by omega
      rw [hp]
      simp only [if_pos c]
      by_cases c2 : j < m
      · rw [if_pos c2]
        have h7 := g5 j c2
        rw [hq, Int.toNat_natCast] at h7
        exact h7.rows (hoth _ (by omega) (by omega))
      · rw [if_neg c2]
        have : (q + 6 - m + j) % 6 = q := by omega
        rw [this]
        exact u1
    · rw [if_neg c] at hj ⊢
      simp only [if_neg c]
      by_cases c2 : j < 5
      · rw [if_pos c2]
        have h7 := g5 (j + 1) (by omega)
        rw [hq, Int.toNat_natCast] at h7
        have hp : ((q + 1) % 6 + 6 - 6 + j) % 6 = (q + 6 - m + (j + 1)) % 6 := by omega
        rw [hp]
        exact h7.rows (hoth _ (by omega) (by omega))
      · rw [if_neg c2]
        have : ((q + 1) % 6 + 6 - 6 + j) % 6 = q := by omega
        rw [this]
        exact u1
  · by_cases c : i = q
    · rw [c]
      have := u1.2.2.2.1.1
      rw [show 81 + 64 * q + 13 + 2 = 96 + 64 * q by omega] at this
      exact this
    · rw [hoth i hi c _ (by omega) (by omega)]
      exact h5.2 i hi
theorem s_undo (h : XIs S A m H K V P n) (hm : 0 < m) : ∃ S', fX8_undo [vR 0] S = some (some (vI ((m : Int) - 1)), S') ∧ XIs S' (H (m - 1)) (m - 1) H K V P n ∧ (∀ a, 593 ≤ a → S' a = S a) := by
  obtain ⟨h1, h2, ⟨g1, g2, g3, g4, g5⟩, h4, h5, h6⟩ := h
  obtain ⟨k65, a65, k66, -⟩ := rk
  have e1 := s_ringKept (S := S) k66
  rw [g3] at e1
  have e2 := s_ringLatest (S := S) k66 (by omega)
  obtain ⟨q, hq⟩ : ∃ q : Nat, (if 0 < S 66 1 then S 66 1 - 1 else S 66 0 - 1) = (q : Int) := ⟨(if 0 < S 66 1 then S 66 1 - 1 else S 66 0 - 1).toNat, by split <;> omega⟩
  have hq6 : q < 6 := by
    split at hq <;> omega
  have hqm : ((S 66 1).toNat + 6 - m + (m - 1)) % 6 = q := by
    split at hq <;> omega
  rw [hq] at e2
  have hs := scnp (q := q) (by omega)
  have hl := g5 (m - 1) (by omega)
  rw [hqm] at hl
  obtain ⟨k1, -⟩ := scn0
  obtain ⟨T1, e3, t1, t2⟩ := s_sceneCopy scn0 hs (by omega) h5.1 hl
  have e4 := s_isBetween (S := S) (a := (q : Int)) (b := 0) (c := 5) ⟨by omega, by omega⟩ ⟨by omega, by omega⟩ ⟨by omega, by omega⟩
  rw [if_pos (by omega)] at e4
  have e5 : ((alen 65 : Nat) : Int) - 1 = 5 := by rw [a65]; rfl
  have e6 := rf65 q hq6
  have f66 : T1 66 = S 66 := t2 66 (by omega)
  obtain ⟨T2, e7, u1, u2, u3, u4⟩ := s_ringDrop (S := T1) k66 (by rw [f66]; omega) (by rw [f66]; omega)
  rw [f66] at u1 u2 u3
  have e8 := s_ringKept (S := T2) k66
  rw [u3, g3] at e8
  have hu2 : T2 66 1 = (q : Int) := by rw [u2]; exact hq
  have fr : ∀ a, a ≠ 66 → (a < 1 ∨ 65 ≤ a) → T2 a = S a := fun a y1 y2 => by rw [u4 a y1, t2 a (by omega)]
  have m0 : (m : Int) ≠ 0 := by omega
  refine ⟨T2, ?_, ⟨t1.rows (fun a _ _ => u4 a (by omega)), h2.keep (fr 602 (by omega) (by omega)) (fr 604 (by omega) (by omega)), ⟨by rw [u1]; exact g1, by rw [hu2]; omega, by rw [u3, g3]; omega, by omega, fun j hj => ?_⟩, h4.rows (fr 68 (by omega) (by omega)) (fun a _ _ => fr a (by omega) (by omega)), ⟨?_, fun i hi => by rw [fr _ (by omega) (by omega)]; exact h5.2 i hi⟩, h6.row (by rw [fr 69 (by omega) (by omega)]) (fr 70 (by omega) (by omega))⟩, fun a ha => fr a (by omega) (by omega)⟩
  · rw [uX8_undo]
    simp (disch := omega) only [eX8_undo_0, eX8_undo_1, eX8_undo_4, eX8_undo_7, eX8_undo_10, eX8_undo_12, eX8_undo_13, eX8_undo_14, eX8_undo_17, eX8_undo_20, eX8_undo_21, eX8_undo_22, eX8_undo_23, eX8_undo_24, eX8_undo_27, eX8_undo_27x, eX8_undo_27y, eX8_undo_28, eX8_undo_29, eX8_undo_30, eX8_undo_33, eX8_undo_36, eX8_undo_37, eX8_undo_40, eX8_undo_41, eX8_undo_44, eX8_undo_45, eX8_undo_46, eX8_undo_49, eX8_undo_50, eX8_undo_53, eX8_undo_56, eX8_undo_57, eX8_undo_60, eX8_undo_63, if_pos, if_neg, if_true, if_false, Option.bind_some, Option.toList_some, Option.toList_none, List.cons_append, List.nil_append, e1, e2, e5, e4, Int.toNat_natCast, e6, e3, e7, e8]
  · rw [hu2, Int.toNat_natCast]
    have hp : (q + 6 - (m - 1) + j) % 6 = ((S 66 1).toNat + 6 - m + j) % 6 := by
      split at hq <;> omega
    rw [hp]
    have hlt : ((S 66 1).toNat + 6 - m + j) % 6 < 6 := Nat.mod_lt _ (by omega)
    exact (g5 j (by omega)).rows (fun a q1 q2 => fr a (by omega) (by omega))
  · rw [u4 16 (by omega)]
    exact t1.2.2.2.1.1
theorem s_undo0 (h : XIs S A 0 H K V P n) : fX8_undo [vR 0] S = some (some (vI (-5)), S) := by
  obtain ⟨h1, h2, ⟨g1, g2, g3, g4, g5⟩, h4, h5, h6⟩ := h
  obtain ⟨k65, a65, k66, -⟩ := rk
  have e1 := s_ringKept (S := S) k66
  rw [g3] at e1
  rw [uX8_undo]
  simp (disch := omega) only [eX8_undo_0, eX8_undo_1, eX8_undo_4, eX8_undo_7, eX8_undo_10, eX8_undo_12, eX8_undo_13, eX8_undo_14, eX8_undo_17, eX8_undo_20, eX8_undo_21, eX8_undo_22, eX8_undo_23, eX8_undo_24, eX8_undo_27, eX8_undo_27x, eX8_undo_27y, eX8_undo_28, eX8_undo_29, eX8_undo_30, eX8_undo_33, eX8_undo_36, eX8_undo_37, eX8_undo_40, eX8_undo_41, eX8_undo_44, eX8_undo_45, eX8_undo_46, eX8_undo_49, eX8_undo_50, eX8_undo_53, eX8_undo_56, eX8_undo_57, eX8_undo_60, eX8_undo_63, if_pos, if_neg, if_true, if_false, Option.bind_some, Option.toList_some, Option.toList_none, List.cons_append, List.nil_append, e1]
end ROOT

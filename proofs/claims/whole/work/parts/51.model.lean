/-! the reference: stone -/
section MO13
variable {S : MM}
theorem z_stone {w key t : Int} {pf pm : Nat} (h2 : S 593 2 = (pf : Int)) (h3 : S 593 3 = (pm : Int)) (hf : pf < 6) (hm : pm ≤ 6) (hw : rng w) (hk : rng key) (ht : rng t) (hR : RB (RA (S 594))) (h40 : ∀ u : Nat, u < 3 → cnt (RA (S 594) u) 300 ≤ 40) (he : errLay (S 594) w key t = 0) : ∃ S', fX9_stone [vR 593, vI w, vI key, vI t] S = some (some (vI (RA (S 594) w.toNat key.toNat)), S') ∧ S' 594 = mLay (S 594) w key t ∧ Kept S S' pf pm ∧ (∀ a, a ≠ 594 → a ≠ 595 → a ≠ 593 → S' a = S a) := by
  have e1 := z_tryStone (S := S) hw hk ht hR h40
  rw [if_pos he] at e1
  obtain ⟨q1, q2, q3, q4⟩ : (0 ≤ w ∧ w ≤ 2) ∧ (0 ≤ key ∧ key ≤ 299) ∧ (1 ≤ t ∧ t ≤ 9) ∧ (cnt (RA (S 594) w.toNat) 300 < 40 ∨ 0 < RA (S 594) w.toNat key.toNat) := by
    rcases errLay_v (A := S 594) (w := w) (key := key) (t := t) with y | y
    · exact y.2
    · omega
  obtain ⟨u, hu⟩ : ∃ u : Nat, w = (u : Int) := ⟨w.toNat, by omega⟩
  obtain ⟨k, hkk⟩ : ∃ k : Nat, key = (k : Int) := ⟨key.toNat, by omega⟩
  subst hu
  subst hkk
  have hb := hR u k (by omega) (by omega)
  obtain ⟨S1, e3, g1, g2, g3, g4, g5⟩ := z_keep h2 h3 hf hm
  have h594 : S1 594 = S 594 := g5 594 (by omega) (by omega)
  have hK : Kept S S1 pf pm := ⟨g1, g2, g3, g4⟩
  have e4 := z_lay (S := S1) (w := u) (k := k) (t := t) (by omega) (by omega)
  rw [Int.toNat_natCast, Int.toNat_natCast] at e1 ⊢
  refine ⟨updM S1 594 (25 + 300 * u + k) t, ?_, ?_, hK.on (updM_ne (by omega)) (updM_ne (by omega)), fun a a1 a2 a3 => by rw [updM_ne a1, g5 a a2 a3]⟩
  · rw [uX9_stone]
    simp (disch := omega) only [eX9_stone_0, eX9_stone_1, eX9_stone_2, eX9_stone_3, eX9_stone_4, eX9_stone_7, eX9_stone_9, eX9_stone_11, eX9_stone_14, eX9_stone_16, eX9_stone_17, eX9_stone_18, eX9_stone_21, eX9_stone_22, eX9_stone_23, eX9_stone_24, eX9_stone_25, eX9_stone_28, eX9_stone_30, if_pos, if_neg, if_true, if_false, Option.bind_some, Option.toList_some, Option.toList_none, List.cons_append, List.nil_append, e1, e3, e4]
  · rw [updM_eq, h594]
    unfold mLay
    rw [Int.toNat_natCast, Int.toNat_natCast]
theorem z_stoneX {w key t : Int} (hw : rng w) (hk : rng key) (ht : rng t) (hR : RB (RA (S 594))) (h40 : ∀ u : Nat, u < 3 → cnt (RA (S 594) u) 300 ≤ 40) (he : errLay (S 594) w key t < 0) : fX9_stone [vR 593, vI w, vI key, vI t] S = some (some (vI (errLay (S 594) w key t)), S) := by
  have e1 := z_tryStone (S := S) hw hk ht hR h40
  rw [if_neg (by omega)] at e1
  have hb : -4 ≤ errLay (S 594) w key t := by
    rcases errLay_v (A := S 594) (w := w) (key := key) (t := t) with y | y
    · omega
    · exact y.2
  rw [uX9_stone]
  simp (disch := omega) only [eX9_stone_0, eX9_stone_1, eX9_stone_2, eX9_stone_3, eX9_stone_4, eX9_stone_7, eX9_stone_9, eX9_stone_11, eX9_stone_14, eX9_stone_16, eX9_stone_17, eX9_stone_18, eX9_stone_21, eX9_stone_22, eX9_stone_23, eX9_stone_24, eX9_stone_25, eX9_stone_28, eX9_stone_30, if_pos, if_neg, if_true, if_false, Option.bind_some, Option.toList_some, Option.toList_none, List.cons_append, List.nil_append, e1]
end MO13

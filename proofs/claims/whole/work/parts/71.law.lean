/-! the law: all its calls -/
section LAWA
variable {S S' S1 S2 : MM}
theorem t64 (z : Int) : (z % 18446744073709551616).toNat < 18446744073709551616 := by omega
theorem m64 (a b : Nat) : a * b % 18446744073709551616 < 18446744073709551616 := Nat.mod_lt _ (by decide)
theorem law_step {i : Nat} (h : (i : Int) + 4 ≤ S 604 1) (hL : 0 ≤ S 604 1 ∧ S 604 1 ≤ 2048) (hx : ∀ j : Nat, (j : Int) < S 604 1 → rng (S 603 j)) (hR : Rel S) : ∃ S2, rn xL_law (18, [some (vR 603), some (vR 0), some (vR 593), some (vI (i : Int))], [], S) = rn xL_law (18, [some (vR 603), some (vR 0), some (vR 593), some (vI ((i + 4 : Nat) : Int))], [], S2) ∧ Rel S2 ∧ S2 602 = S 602 ∧ S2 603 = S 603 ∧ S2 604 = S 604 := by
  have h1 := hx (i + 1) (by omega)
  have h2 := hx (i + 2) (by omega)
  have h3 := hx (i + 3) (by omega)
  obtain ⟨c, hc⟩ : ∃ c : Int, S 603 i % 32 = c := ⟨_, rfl⟩
  by_cases hn : c < 23
  · rcases (show c = 0 ∨ c = 1 ∨ c = 2 ∨ c = 3 ∨ c = 4 ∨ c = 5 ∨ c = 6 ∨ c = 7 ∨ c = 8 ∨ c = 9 ∨ c = 10 ∨ c = 11 ∨ c = 12 ∨ c = 13 ∨ c = 14 ∨ c = 15 ∨ c = 16 ∨ c = 17 ∨ c = 18 ∨ c = 19 ∨ c = 20 ∨ c = 21 ∨ c = 22 by omega) with rfl | rfl | rfl | rfl | rfl | rfl | rfl | rfl | rfl | rfl | rfl | rfl | rfl | rfl | rfl | rfl | rfl | rfl | rfl | rfl | rfl | rfl | rfl
    · exact law_set hc h hL hx (p_set h1 h2 hR)
    · exact law_stone hc h hL hx (p_stone h1 h2 h3 hR)
    · exact law_flood hc h hL hx (p_flood h1 h2 h3 hR)
    · exact law_dry hc h hL hx (p_dry  hR)
    · exact law_begin hc h hL hx (p_begin  hR)
    · exact law_leap hc h hL hx (p_leap  hR)
    · exact law_run hc h hL hx (p_run  hR)
    · exact law_ofWalker hc h hL hx (p_ofWalker h1 h2 hR)
    · exact law_ofStone hc h hL hx (p_ofStone h1 h2 h3 hR)
    · exact law_ofRun hc h hL hx (p_ofRun h1 hR)
    · exact law_meeting hc h hL hx (p_meeting h1 h2 hR)
    · exact law_count hc h hL hx (p_count h1 hR)
    · exact law_walking hc h hL hx (p_walking h1 hR)
    · exact law_runWith hc h hL hx (p_runWith h1 h2 h3 hR)
    · exact law_cheapest hc h hL hx (p_cheapest h1 hR)
    · exact law_lostBy hc h hL hx (p_lostBy h1 h2 hR)
    · obtain ⟨a, ha⟩ : ∃ a, (S 603 (i + 1) % 18446744073709551616).toNat = a := ⟨_, rfl⟩
      obtain ⟨b, hb⟩ : ∃ b, (S 603 (i + 2) % 18446744073709551616).toNat = b := ⟨_, rfl⟩
      have b1 : a < 18446744073709551616 := by rw [← ha]; exact t64 _
      have b2 : b < 18446744073709551616 := by rw [← hb]; exact t64 _
      obtain ⟨v, hv⟩ : ∃ v, a * 2 ^ (32 : Int).toNat % 18446744073709551616 = v := ⟨_, rfl⟩
      have b3 : v < 18446744073709551616 := by rw [← hv]; exact m64 _ _
      obtain ⟨w, hw⟩ : ∃ w, b &&& 4294967295 = w := ⟨_, rfl⟩
      have b4 : w < 18446744073709551616 := by rw [← hw]; exact Nat.lt_of_le_of_lt Nat.and_le_left b2
      obtain ⟨u, hu⟩ : ∃ u, v ||| w = u := ⟨_, rfl⟩
      have b5 : u < 18446744073709551616 := by rw [← hu]; exact Nat.or_lt_two_pow (n := 64) b3 b4
      exact law_put hc h hL h1 h2 (p_put b5 hR) ha hb hv hw hu b1 b2 b3 b4
    · exact law_wipe hc h hL hx (p_wipe  hR)
    · exact law_fault hc h hL hx (p_fault  hR)
    · exact law_carryOut hc h hL hx (p_carryOut  hR)
    · exact law_undo hc h hL hx (p_undo  hR)
    · exact law_save hc h hL hx (p_save h1 hR)
    · exact law_restore hc h hL hx (p_restore h1 hR)
  · exact ⟨S, law_none (by omega) h hL, hR, rfl, rfl, rfl⟩
theorem law_all {L : Nat} (hL : L ≤ 2048) : ∀ (f i : Nat) (S : MM), L ≤ i + f → i ≤ 2100 → S 604 1 = (L : Int) → (∀ j : Nat, j < L → rng (S 603 j)) → Rel S → ∃ S', rn xL_law (18, [some (vR 603), some (vR 0), some (vR 593), some (vI (i : Int))], [], S) = some (some (vI 1), S') := by
  intro f
  induction f with
  | zero =>
    intro i S hf hi h4 hx hR
    exact ⟨S, lawEnd (by omega) (by omega) (by omega)⟩
  | succ f ih =>
    intro i S hf hi h4 hx hR
    by_cases c : L < i + 4
    · exact ⟨S, lawEnd (by omega) (by omega) (by omega)⟩
    · obtain ⟨S2, e, r2, e1, e2, e3⟩ := law_step (S := S) (i := i) (by omega) (by omega) (fun j hj => hx j (by omega)) hR
      obtain ⟨S', e'⟩ := ih (i + 4) S2 (by omega) (by omega) (by rw [e3]; exact h4) (fun j hj => by rw [e2]; exact hx j hj) r2
      exact ⟨S', e.trans e'⟩
end LAWA

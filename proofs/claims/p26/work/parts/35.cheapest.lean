/-! the cheapest -/
section CH
variable {S S' : MM} {A A' : Nat → Int} {m : Nat} {H : Nat → Nat → Int} {K : Nat → Int} {V : Nat → Nat → Int} {P : Nat → Int} {n : Nat}
theorem trF_inv {s o : Int} (hA : StgR A) (hR : RB (RA A)) (hs : 0 ≤ s ∧ s ≤ 2) (ho : 0 ≤ o ∧ o ≤ 5) : RunR (trF A s o) := by
  have hBR : StgR (trB A s o) := by
    obtain ⟨y0, y1, y2, y3⟩ := hA
    unfold StgR trB
    rw [up_ne (by omega), up_ne (by omega), up_ne (by omega), up_ne (by omega), up_ne (j := 2) (by omega), up_eq, up_eq]
    exact ⟨y0, y1, hs, ho⟩
  have hb1 : mBeg (trB A s o) (RA A) 1 = trB A s o 1 := rfl
  have hk : ∀ k, k < 4 → mLook (mBeg (trB A s o) (RA A)) (RA A) k = trB A s o k := fun k hk => by
    rw [mLook_ne (by omega) (by omega) (by omega) (Or.inr (Or.inr (by rw [hb1]; exact hBR.2.1.2))), mBeg_k (by omega)]
  have hMR : StgR (mLook (mBeg (trB A s o) (RA A)) (RA A)) := by
    unfold StgR
    rw [hk 0 (by omega), hk 1 (by omega), hk 2 (by omega), hk 3 (by omega)]
    exact hBR
  have hr := RunR_look (R := RA A) (RunR_beg hBR) (by rw [hb1]; exact hBR.2.1) hR
  have hs' := RunS_look (R := RA A) (RunR_beg hBR) (by rw [hb1]; exact hBR.2.1) (by show 0 ≤ (1 : Int) ∧ (1 : Int) ≤ 2; omega) (fun _ => onS_beg hBR)
  have hp := pot_b hr
  exact (runF_inv hR 1000 _ hMR hr hs' (by omega)).1.1
def lkF (A : Nat → Int) (k : Nat) : Int := trF A ((k / 6 : Nat) : Int) ((k % 6 : Nat) : Int) 11 + trF A ((k / 6 : Nat) : Int) ((k % 6 : Nat) : Int) 12 + trF A ((k / 6 : Nat) : Int) ((k % 6 : Nat) : Int) 13
def bK (f : Nat → Int) : Nat → Nat
  | 0 => 0
  | k + 1 => if k = 0 ∨ f k < f (bK f k) then k else bK f k
def few (f : Nat → Int) (k : Nat) : Int := if k = 0 then -6 else f (bK f k)
theorem bK_lt {f : Nat → Int} : ∀ {k : Nat}, 0 < k → bK f k < k := by
  intro k
  induction k with
  | zero => intro h; omega
  | succ k ih =>
    intro _
    rw [bK]
    by_cases c : k = 0 ∨ f k < f (bK f k)
    · rw [if_pos c]
      omega
    · rw [if_neg c]
      have := ih (by omega)
      omega
theorem lkF_b (hA : StgR A) (hR : RB (RA A)) {k : Nat} (hk : k < 18) : 0 ≤ lkF A k ∧ lkF A k ≤ 72000 := by
  have h := (trF_inv (s := ((k / 6 : Nat) : Int)) (o := ((k % 6 : Nat) : Int)) hA hR (by omega) (by omega)).2.2.2.2
  have h0 := h 0 (by omega)
  have h1 := h 1 (by omega)
  have h2 := h 2 (by omega)
  unfold lkF
  simp only [Nat.add_zero, Nat.reduceAdd] at h0 h1 h2
  omega
theorem few_b (hA : StgR A) (hR : RB (RA A)) {k : Nat} (hk : k ≤ 18) : (k = 0 ∧ few (lkF A) k = -6) ∨ (0 < k ∧ few (lkF A) k = lkF A (bK (lkF A) k) ∧ 0 ≤ few (lkF A) k ∧ few (lkF A) k ≤ 72000) := by
  unfold few
  by_cases c : k = 0
  · rw [if_pos c]
    exact Or.inl ⟨c, rfl⟩
  · rw [if_neg c]
    have h1 := bK_lt (f := lkF A) (k := k) (by omega)
    have h2 := lkF_b hA hR (k := bK (lkF A) k) (by omega)
    exact Or.inr ⟨by omega, rfl, h2.1, h2.2⟩
theorem l_chS {what : Int} {s o : Nat} (h : XIs S A m H K V P n) (hs : s < 3) (ho : o < 6) : ∃ S', rn xX8_cheapest (32, [some (vR 0), some (vI what), some (vI ((bK (lkF A) (6 * s + o) / 6 : Nat) : Int)), some (vI ((bK (lkF A) (6 * s + o) % 6 : Nat) : Int)), some (vI (few (lkF A) (6 * s + o))), some (vI s), some (vI o)], [], S) = rn xX8_cheapest (32, [some (vR 0), some (vI what), some (vI ((bK (lkF A) (6 * s + o + 1) / 6 : Nat) : Int)), some (vI ((bK (lkF A) (6 * s + o + 1) % 6 : Nat) : Int)), some (vI (few (lkF A) (6 * s + o + 1))), some (vI s), some (vI ((o + 1 : Nat) : Int))], [], S') ∧ XIs S' A m H K V P n ∧ (∀ a, 593 ≤ a → S' a = S a) := by
  have hA := h.1.2.1
  have hR := h.1.2.2.1.rb
  obtain ⟨S1, e1, g1, g2, g3⟩ := s_tryOut (s := (s : Int)) (o := (o : Int)) h (by omega) (by omega)
  have k1 := k71
  obtain ⟨⟨k4, -⟩, -⟩ := id k1
  have e2 := s_crLooks k1 g2
  have hlk : trF A (s : Int) (o : Int) 11 + trF A (s : Int) (o : Int) 12 + trF A (s : Int) (o : Int) 13 = lkF A (6 * s + o) := by
    unfold lkF
    rw [show (6 * s + o) / 6 = s by omega, show (6 * s + o) % 6 = o by omega]
  rw [hlk] at e2
  have hb := lkF_b hA hR (k := 6 * s + o) (by omega)
  have hf := few_b hA hR (k := 6 * s + o) (by omega)
  have c1 : ((o : Int) + 1) = ((o + 1 : Nat) : Int) := by omega
  refine ⟨S1, ?_, g1, g3⟩
  rw [eX8_cheapest_32, bK]
  have hfe : few (lkF A) (6 * s + o + 1) = lkF A (bK (lkF A) (6 * s + o + 1)) := by
    unfold few
    rw [if_neg (by omega)]
  rw [hfe, bK]
  by_cases z : 6 * s + o = 0
  · rw [if_pos (Or.inl z)]
    have hf0 : few (lkF A) (6 * s + o) = -6 := by omega
    rw [hf0]
    simp (disch := omega) only [eX8_cheapest_0, eX8_cheapest_1, eX8_cheapest_2, eX8_cheapest_3, eX8_cheapest_6, eX8_cheapest_9, eX8_cheapest_11, eX8_cheapest_12, eX8_cheapest_13, eX8_cheapest_14, eX8_cheapest_15, eX8_cheapest_16, eX8_cheapest_18, eX8_cheapest_20, eX8_cheapest_21, eX8_cheapest_25, eX8_cheapest_26, eX8_cheapest_29, eX8_cheapest_30, eX8_cheapest_34, eX8_cheapest_35, eX8_cheapest_38, eX8_cheapest_39, eX8_cheapest_41, eX8_cheapest_43, eX8_cheapest_46, eX8_cheapest_48, eX8_cheapest_50, eX8_cheapest_53, eX8_cheapest_54, eX8_cheapest_57, eX8_cheapest_60, eX8_cheapest_62, eX8_cheapest_65, eX8_cheapest_66, eX8_cheapest_69, eX8_cheapest_72, eX8_cheapest_74, eX8_cheapest_76, eX8_cheapest_77, eX8_cheapest_79, eX8_cheapest_80, eX8_cheapest_83, eX8_cheapest_86, eX8_cheapest_89, eX8_cheapest_92, eX8_cheapest_93, eX8_cheapest_96, eX8_cheapest_97, eX8_cheapest_100, eX8_cheapest_101, eX8_cheapest_102, eX8_cheapest_105, eX8_cheapest_106, eX8_cheapest_109, eX8_cheapest_111, if_pos, if_neg, if_true, if_false, Option.bind_some, Option.toList_some, Option.toList_none, List.cons_append, List.nil_append, e1, e2, c1]
    rw [show (6 * s + o) / 6 = s by omega, show (6 * s + o) % 6 = o by omega]
  · have hf1 : few (lkF A) (6 * s + o) = lkF A (bK (lkF A) (6 * s + o)) ∧ 0 ≤ few (lkF A) (6 * s + o) ∧ few (lkF A) (6 * s + o) ≤ 72000 := by
      rcases hf with y | y
      · exact absurd y.1 z
      · exact y.2
    rw [hf1.1]
    obtain ⟨u1, u2, u3⟩ := hf1
    rw [u1] at u2 u3
    by_cases lt : lkF A (6 * s + o) < lkF A (bK (lkF A) (6 * s + o))
    · rw [if_pos (Or.inr lt)]
      simp (disch := omega) only [eX8_cheapest_0, eX8_cheapest_1, eX8_cheapest_2, eX8_cheapest_3, eX8_cheapest_6, eX8_cheapest_9, eX8_cheapest_11, eX8_cheapest_12, eX8_cheapest_13, eX8_cheapest_14, eX8_cheapest_15, eX8_cheapest_16, eX8_cheapest_18, eX8_cheapest_20, eX8_cheapest_21, eX8_cheapest_25, eX8_cheapest_26, eX8_cheapest_29, eX8_cheapest_30, eX8_cheapest_34, eX8_cheapest_35, eX8_cheapest_38, eX8_cheapest_39, eX8_cheapest_41, eX8_cheapest_43, eX8_cheapest_46, eX8_cheapest_48, eX8_cheapest_50, eX8_cheapest_53, eX8_cheapest_54, eX8_cheapest_57, eX8_cheapest_60, eX8_cheapest_62, eX8_cheapest_65, eX8_cheapest_66, eX8_cheapest_69, eX8_cheapest_72, eX8_cheapest_74, eX8_cheapest_76, eX8_cheapest_77, eX8_cheapest_79, eX8_cheapest_80, eX8_cheapest_83, eX8_cheapest_86, eX8_cheapest_89, eX8_cheapest_92, eX8_cheapest_93, eX8_cheapest_96, eX8_cheapest_97, eX8_cheapest_100, eX8_cheapest_101, eX8_cheapest_102, eX8_cheapest_105, eX8_cheapest_106, eX8_cheapest_109, eX8_cheapest_111, if_pos, if_neg, if_true, if_false, Option.bind_some, Option.toList_some, Option.toList_none, List.cons_append, List.nil_append, e1, e2, c1]
      rw [show (6 * s + o) / 6 = s by omega, show (6 * s + o) % 6 = o by omega]
    · rw [if_neg (fun y => y.elim z lt)]
      simp (disch := omega) only [eX8_cheapest_0, eX8_cheapest_1, eX8_cheapest_2, eX8_cheapest_3, eX8_cheapest_6, eX8_cheapest_9, eX8_cheapest_11, eX8_cheapest_12, eX8_cheapest_13, eX8_cheapest_14, eX8_cheapest_15, eX8_cheapest_16, eX8_cheapest_18, eX8_cheapest_20, eX8_cheapest_21, eX8_cheapest_25, eX8_cheapest_26, eX8_cheapest_29, eX8_cheapest_30, eX8_cheapest_34, eX8_cheapest_35, eX8_cheapest_38, eX8_cheapest_39, eX8_cheapest_41, eX8_cheapest_43, eX8_cheapest_46, eX8_cheapest_48, eX8_cheapest_50, eX8_cheapest_53, eX8_cheapest_54, eX8_cheapest_57, eX8_cheapest_60, eX8_cheapest_62, eX8_cheapest_65, eX8_cheapest_66, eX8_cheapest_69, eX8_cheapest_72, eX8_cheapest_74, eX8_cheapest_76, eX8_cheapest_77, eX8_cheapest_79, eX8_cheapest_80, eX8_cheapest_83, eX8_cheapest_86, eX8_cheapest_89, eX8_cheapest_92, eX8_cheapest_93, eX8_cheapest_96, eX8_cheapest_97, eX8_cheapest_100, eX8_cheapest_101, eX8_cheapest_102, eX8_cheapest_105, eX8_cheapest_106, eX8_cheapest_109, eX8_cheapest_111, if_pos, if_neg, if_true, if_false, Option.bind_some, Option.toList_some, Option.toList_none, List.cons_append, List.nil_append, e1, e2, c1]
theorem l_chI {what : Int} {s : Nat} (hs : s < 3) : ∀ (f o : Nat) (S : MM), o + f = 6 → XIs S A m H K V P n → ∃ S', rn xX8_cheapest (32, [some (vR 0), some (vI what), some (vI ((bK (lkF A) (6 * s + o) / 6 : Nat) : Int)), some (vI ((bK (lkF A) (6 * s + o) % 6 : Nat) : Int)), some (vI (few (lkF A) (6 * s + o))), some (vI s), some (vI o)], [], S) = rn xX8_cheapest (23, [some (vR 0), some (vI what), some (vI ((bK (lkF A) (6 * (s + 1)) / 6 : Nat) : Int)), some (vI ((bK (lkF A) (6 * (s + 1)) % 6 : Nat) : Int)), some (vI (few (lkF A) (6 * (s + 1)))), some (vI ((s + 1 : Nat) : Int)), some (vI 6)], [], S') ∧ XIs S' A m H K V P n ∧ (∀ a, 593 ≤ a → S' a = S a) := by
  intro f
  induction f with
  | zero =>
    intro o S hf h
    have e : o = 6 := by omega
    subst e
    refine ⟨S, ?_, h, fun _ _ => rfl⟩
    rw [eX8_cheapest_32, show 6 * s + 6 = 6 * (s + 1) by omega]
    simp (disch := omega) only [eX8_cheapest_0, eX8_cheapest_1, eX8_cheapest_2, eX8_cheapest_3, eX8_cheapest_6, eX8_cheapest_9, eX8_cheapest_11, eX8_cheapest_12, eX8_cheapest_13, eX8_cheapest_14, eX8_cheapest_15, eX8_cheapest_16, eX8_cheapest_18, eX8_cheapest_20, eX8_cheapest_21, eX8_cheapest_25, eX8_cheapest_26, eX8_cheapest_29, eX8_cheapest_30, eX8_cheapest_34, eX8_cheapest_35, eX8_cheapest_38, eX8_cheapest_39, eX8_cheapest_41, eX8_cheapest_43, eX8_cheapest_46, eX8_cheapest_48, eX8_cheapest_50, eX8_cheapest_53, eX8_cheapest_54, eX8_cheapest_57, eX8_cheapest_60, eX8_cheapest_62, eX8_cheapest_65, eX8_cheapest_66, eX8_cheapest_69, eX8_cheapest_72, eX8_cheapest_74, eX8_cheapest_76, eX8_cheapest_77, eX8_cheapest_79, eX8_cheapest_80, eX8_cheapest_83, eX8_cheapest_86, eX8_cheapest_89, eX8_cheapest_92, eX8_cheapest_93, eX8_cheapest_96, eX8_cheapest_97, eX8_cheapest_100, eX8_cheapest_101, eX8_cheapest_102, eX8_cheapest_105, eX8_cheapest_106, eX8_cheapest_109, eX8_cheapest_111, if_pos, if_neg, if_true, if_false, Option.bind_some, Option.toList_some, Option.toList_none, List.cons_append, List.nil_append]
    rw [show ((s : Int) + 1) = ((s + 1 : Nat) : Int) by omega]
    rfl
  | succ f ih =>
    intro o S hf h
    obtain ⟨S1, e1, g1, g2⟩ := l_chS (what := what) h hs (show o < 6 by omega)
    obtain ⟨S2, e2, g3, g4⟩ := ih (o + 1) S1 (by omega) g1
    rw [show 6 * s + (o + 1) = 6 * s + o + 1 by omega] at e2
    exact ⟨S2, e1.trans e2, g3, fun a ha => by rw [g4 a ha, g2 a ha]⟩
def chF (A : Nat → Int) (what : Int) : Int := if 0 ≤ what ∧ what ≤ 2 then (if what = 0 then ((bK (lkF A) 18 / 6 : Nat) : Int) else if what = 1 then ((bK (lkF A) 18 % 6 : Nat) : Int) else lkF A (bK (lkF A) 18)) else -2
theorem s_cheapest {what : Int} (h : XIs S A m H K V P n) (hx : rng what) : ∃ S', fX8_cheapest [vR 0, vI what] S = some (some (vI (chF A what)), S') ∧ XIs S' A m H K V P n ∧ (∀ a, 593 ≤ a → S' a = S a) := by
  have e1 := s_isBetween (S := S) (a := what) (b := 0) (c := 2) hx ⟨by omega, by omega⟩ ⟨by omega, by omega⟩
  obtain ⟨x1, x2⟩ := id hx
  unfold chF
  rw [uX8_cheapest]
  by_cases c : 0 ≤ what ∧ what ≤ 2
  · rw [if_pos c] at e1 ⊢
    obtain ⟨S1, w1, g1, g2⟩ := l_chI (what := what) (s := 0) (by omega) 6 0 S rfl h
    obtain ⟨S2, w2, g3, g4⟩ := l_chI (what := what) (s := 1) (by omega) 6 0 S1 rfl g1
    obtain ⟨S3, w3', g5, g6⟩ := l_chI (what := what) (s := 2) (by omega) 6 0 S2 rfl g3
    refine ⟨S3, ?_, g5, fun a ha => by rw [g6 a ha, g4 a ha, g2 a ha]⟩
    have i1 : rn xX8_cheapest (0, [some (vR 0), some (vI what), none, none, none, none, none], [], S) = rn xX8_cheapest (32, [some (vR 0), some (vI what), some (vI ((bK (lkF A) (6 * 0 + 0) / 6 : Nat) : Int)), some (vI ((bK (lkF A) (6 * 0 + 0) % 6 : Nat) : Int)), some (vI (few (lkF A) (6 * 0 + 0))), some (vI ((0 : Nat) : Int)), some (vI ((0 : Nat) : Int))], [], S) := by
      have b0 : bK (lkF A) (6 * 0 + 0) = 0 := by
        rw [show 6 * 0 + 0 = 0 from rfl, bK]
      have b1 : few (lkF A) (6 * 0 + 0) = -6 := by
        unfold few
        rw [if_pos rfl]
      rw [b0, b1]
      simp (disch := omega) only [eX8_cheapest_0, eX8_cheapest_1, eX8_cheapest_2, eX8_cheapest_3, eX8_cheapest_6, eX8_cheapest_9, eX8_cheapest_11, eX8_cheapest_12, eX8_cheapest_13, eX8_cheapest_14, eX8_cheapest_15, eX8_cheapest_16, eX8_cheapest_18, eX8_cheapest_20, eX8_cheapest_21, eX8_cheapest_25, eX8_cheapest_26, eX8_cheapest_29, eX8_cheapest_30, eX8_cheapest_34, eX8_cheapest_35, eX8_cheapest_38, eX8_cheapest_39, eX8_cheapest_41, eX8_cheapest_43, eX8_cheapest_46, eX8_cheapest_48, eX8_cheapest_50, eX8_cheapest_53, eX8_cheapest_54, eX8_cheapest_57, eX8_cheapest_60, eX8_cheapest_62, eX8_cheapest_65, eX8_cheapest_66, eX8_cheapest_69, eX8_cheapest_72, eX8_cheapest_74, eX8_cheapest_76, eX8_cheapest_77, eX8_cheapest_79, eX8_cheapest_80, eX8_cheapest_83, eX8_cheapest_86, eX8_cheapest_89, eX8_cheapest_92, eX8_cheapest_93, eX8_cheapest_96, eX8_cheapest_97, eX8_cheapest_100, eX8_cheapest_101, eX8_cheapest_102, eX8_cheapest_105, eX8_cheapest_106, eX8_cheapest_109, eX8_cheapest_111, if_pos, if_neg, if_true, if_false, Option.bind_some, Option.toList_some, Option.toList_none, List.cons_append, List.nil_append, e1]
      rw [eX8_cheapest_23]
      simp (disch := omega) only [eX8_cheapest_0, eX8_cheapest_1, eX8_cheapest_2, eX8_cheapest_3, eX8_cheapest_6, eX8_cheapest_9, eX8_cheapest_11, eX8_cheapest_12, eX8_cheapest_13, eX8_cheapest_14, eX8_cheapest_15, eX8_cheapest_16, eX8_cheapest_18, eX8_cheapest_20, eX8_cheapest_21, eX8_cheapest_25, eX8_cheapest_26, eX8_cheapest_29, eX8_cheapest_30, eX8_cheapest_34, eX8_cheapest_35, eX8_cheapest_38, eX8_cheapest_39, eX8_cheapest_41, eX8_cheapest_43, eX8_cheapest_46, eX8_cheapest_48, eX8_cheapest_50, eX8_cheapest_53, eX8_cheapest_54, eX8_cheapest_57, eX8_cheapest_60, eX8_cheapest_62, eX8_cheapest_65, eX8_cheapest_66, eX8_cheapest_69, eX8_cheapest_72, eX8_cheapest_74, eX8_cheapest_76, eX8_cheapest_77, eX8_cheapest_79, eX8_cheapest_80, eX8_cheapest_83, eX8_cheapest_86, eX8_cheapest_89, eX8_cheapest_92, eX8_cheapest_93, eX8_cheapest_96, eX8_cheapest_97, eX8_cheapest_100, eX8_cheapest_101, eX8_cheapest_102, eX8_cheapest_105, eX8_cheapest_106, eX8_cheapest_109, eX8_cheapest_111, if_pos, if_neg, if_true, if_false, Option.bind_some, Option.toList_some, Option.toList_none, List.cons_append, List.nil_append]
      rfl
    have i2 : ∀ (s : Nat) (T : MM), s < 3 → rn xX8_cheapest (23, [some (vR 0), some (vI what), some (vI ((bK (lkF A) (6 * s) / 6 : Nat) : Int)), some (vI ((bK (lkF A) (6 * s) % 6 : Nat) : Int)), some (vI (few (lkF A) (6 * s))), some (vI (s : Int)), some (vI 6)], [], T) = rn xX8_cheapest (32, [some (vR 0), some (vI what), some (vI ((bK (lkF A) (6 * s + 0) / 6 : Nat) : Int)), some (vI ((bK (lkF A) (6 * s + 0) % 6 : Nat) : Int)), some (vI (few (lkF A) (6 * s + 0))), some (vI (s : Int)), some (vI ((0 : Nat) : Int))], [], T) := by
      intro s T hs
      rw [eX8_cheapest_23]
      simp (disch := omega) only [eX8_cheapest_0, eX8_cheapest_1, eX8_cheapest_2, eX8_cheapest_3, eX8_cheapest_6, eX8_cheapest_9, eX8_cheapest_11, eX8_cheapest_12, eX8_cheapest_13, eX8_cheapest_14, eX8_cheapest_15, eX8_cheapest_16, eX8_cheapest_18, eX8_cheapest_20, eX8_cheapest_21, eX8_cheapest_25, eX8_cheapest_26, eX8_cheapest_29, eX8_cheapest_30, eX8_cheapest_34, eX8_cheapest_35, eX8_cheapest_38, eX8_cheapest_39, eX8_cheapest_41, eX8_cheapest_43, eX8_cheapest_46, eX8_cheapest_48, eX8_cheapest_50, eX8_cheapest_53, eX8_cheapest_54, eX8_cheapest_57, eX8_cheapest_60, eX8_cheapest_62, eX8_cheapest_65, eX8_cheapest_66, eX8_cheapest_69, eX8_cheapest_72, eX8_cheapest_74, eX8_cheapest_76, eX8_cheapest_77, eX8_cheapest_79, eX8_cheapest_80, eX8_cheapest_83, eX8_cheapest_86, eX8_cheapest_89, eX8_cheapest_92, eX8_cheapest_93, eX8_cheapest_96, eX8_cheapest_97, eX8_cheapest_100, eX8_cheapest_101, eX8_cheapest_102, eX8_cheapest_105, eX8_cheapest_106, eX8_cheapest_109, eX8_cheapest_111, if_pos, if_neg, if_true, if_false, Option.bind_some, Option.toList_some, Option.toList_none, List.cons_append, List.nil_append]
      rfl
    have w := i1.trans (w1.trans ((i2 1 S1 (by omega)).trans (w2.trans ((i2 2 S2 (by omega)).trans w3'))))
    rw [w, eX8_cheapest_23]
    have f18 : few (lkF A) (6 * (2 + 1)) = lkF A (bK (lkF A) 18) := by
      unfold few
      rw [if_neg (by omega)]
    by_cases d : what = 0
    · rw [if_pos d]
      simp (disch := omega) only [eX8_cheapest_0, eX8_cheapest_1, eX8_cheapest_2, eX8_cheapest_3, eX8_cheapest_6, eX8_cheapest_9, eX8_cheapest_11, eX8_cheapest_12, eX8_cheapest_13, eX8_cheapest_14, eX8_cheapest_15, eX8_cheapest_16, eX8_cheapest_18, eX8_cheapest_20, eX8_cheapest_21, eX8_cheapest_25, eX8_cheapest_26, eX8_cheapest_29, eX8_cheapest_30, eX8_cheapest_34, eX8_cheapest_35, eX8_cheapest_38, eX8_cheapest_39, eX8_cheapest_41, eX8_cheapest_43, eX8_cheapest_46, eX8_cheapest_48, eX8_cheapest_50, eX8_cheapest_53, eX8_cheapest_54, eX8_cheapest_57, eX8_cheapest_60, eX8_cheapest_62, eX8_cheapest_65, eX8_cheapest_66, eX8_cheapest_69, eX8_cheapest_72, eX8_cheapest_74, eX8_cheapest_76, eX8_cheapest_77, eX8_cheapest_79, eX8_cheapest_80, eX8_cheapest_83, eX8_cheapest_86, eX8_cheapest_89, eX8_cheapest_92, eX8_cheapest_93, eX8_cheapest_96, eX8_cheapest_97, eX8_cheapest_100, eX8_cheapest_101, eX8_cheapest_102, eX8_cheapest_105, eX8_cheapest_106, eX8_cheapest_109, eX8_cheapest_111, if_pos, if_neg, if_true, if_false, Option.bind_some, Option.toList_some, Option.toList_none, List.cons_append, List.nil_append]
    · rw [if_neg d]
      by_cases d1 : what = 1
      · rw [if_pos d1]
        simp (disch := omega) only [eX8_cheapest_0, eX8_cheapest_1, eX8_cheapest_2, eX8_cheapest_3, eX8_cheapest_6, eX8_cheapest_9, eX8_cheapest_11, eX8_cheapest_12, eX8_cheapest_13, eX8_cheapest_14, eX8_cheapest_15, eX8_cheapest_16, eX8_cheapest_18, eX8_cheapest_20, eX8_cheapest_21, eX8_cheapest_25, eX8_cheapest_26, eX8_cheapest_29, eX8_cheapest_30, eX8_cheapest_34, eX8_cheapest_35, eX8_cheapest_38, eX8_cheapest_39, eX8_cheapest_41, eX8_cheapest_43, eX8_cheapest_46, eX8_cheapest_48, eX8_cheapest_50, eX8_cheapest_53, eX8_cheapest_54, eX8_cheapest_57, eX8_cheapest_60, eX8_cheapest_62, eX8_cheapest_65, eX8_cheapest_66, eX8_cheapest_69, eX8_cheapest_72, eX8_cheapest_74, eX8_cheapest_76, eX8_cheapest_77, eX8_cheapest_79, eX8_cheapest_80, eX8_cheapest_83, eX8_cheapest_86, eX8_cheapest_89, eX8_cheapest_92, eX8_cheapest_93, eX8_cheapest_96, eX8_cheapest_97, eX8_cheapest_100, eX8_cheapest_101, eX8_cheapest_102, eX8_cheapest_105, eX8_cheapest_106, eX8_cheapest_109, eX8_cheapest_111, if_pos, if_neg, if_true, if_false, Option.bind_some, Option.toList_some, Option.toList_none, List.cons_append, List.nil_append]
      · rw [if_neg d1, f18]
        simp (disch := omega) only [eX8_cheapest_0, eX8_cheapest_1, eX8_cheapest_2, eX8_cheapest_3, eX8_cheapest_6, eX8_cheapest_9, eX8_cheapest_11, eX8_cheapest_12, eX8_cheapest_13, eX8_cheapest_14, eX8_cheapest_15, eX8_cheapest_16, eX8_cheapest_18, eX8_cheapest_20, eX8_cheapest_21, eX8_cheapest_25, eX8_cheapest_26, eX8_cheapest_29, eX8_cheapest_30, eX8_cheapest_34, eX8_cheapest_35, eX8_cheapest_38, eX8_cheapest_39, eX8_cheapest_41, eX8_cheapest_43, eX8_cheapest_46, eX8_cheapest_48, eX8_cheapest_50, eX8_cheapest_53, eX8_cheapest_54, eX8_cheapest_57, eX8_cheapest_60, eX8_cheapest_62, eX8_cheapest_65, eX8_cheapest_66, eX8_cheapest_69, eX8_cheapest_72, eX8_cheapest_74, eX8_cheapest_76, eX8_cheapest_77, eX8_cheapest_79, eX8_cheapest_80, eX8_cheapest_83, eX8_cheapest_86, eX8_cheapest_89, eX8_cheapest_92, eX8_cheapest_93, eX8_cheapest_96, eX8_cheapest_97, eX8_cheapest_100, eX8_cheapest_101, eX8_cheapest_102, eX8_cheapest_105, eX8_cheapest_106, eX8_cheapest_109, eX8_cheapest_111, if_pos, if_neg, if_true, if_false, Option.bind_some, Option.toList_some, Option.toList_none, List.cons_append, List.nil_append]
  · rw [if_neg c] at e1 ⊢
    refine ⟨S, ?_, h, fun _ _ => rfl⟩
    simp (disch := omega) only [eX8_cheapest_0, eX8_cheapest_1, eX8_cheapest_2, eX8_cheapest_3, eX8_cheapest_6, eX8_cheapest_9, eX8_cheapest_11, eX8_cheapest_12, eX8_cheapest_13, eX8_cheapest_14, eX8_cheapest_15, eX8_cheapest_16, eX8_cheapest_18, eX8_cheapest_20, eX8_cheapest_21, eX8_cheapest_25, eX8_cheapest_26, eX8_cheapest_29, eX8_cheapest_30, eX8_cheapest_34, eX8_cheapest_35, eX8_cheapest_38, eX8_cheapest_39, eX8_cheapest_41, eX8_cheapest_43, eX8_cheapest_46, eX8_cheapest_48, eX8_cheapest_50, eX8_cheapest_53, eX8_cheapest_54, eX8_cheapest_57, eX8_cheapest_60, eX8_cheapest_62, eX8_cheapest_65, eX8_cheapest_66, eX8_cheapest_69, eX8_cheapest_72, eX8_cheapest_74, eX8_cheapest_76, eX8_cheapest_77, eX8_cheapest_79, eX8_cheapest_80, eX8_cheapest_83, eX8_cheapest_86, eX8_cheapest_89, eX8_cheapest_92, eX8_cheapest_93, eX8_cheapest_96, eX8_cheapest_97, eX8_cheapest_100, eX8_cheapest_101, eX8_cheapest_102, eX8_cheapest_105, eX8_cheapest_106, eX8_cheapest_109, eX8_cheapest_111, if_pos, if_neg, if_true, if_false, Option.bind_some, Option.toList_some, Option.toList_none, List.cons_append, List.nil_append, e1]
end CH

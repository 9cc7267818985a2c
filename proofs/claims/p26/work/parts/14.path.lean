/-! stones moved, given back; looks -/
theorem cnt_sub {r r' : Nat → Int} : ∀ {m : Nat}, (∀ k, k < m → 0 < r k → 0 < r' k) → cnt r m ≤ cnt r' m
  | 0, _ => Nat.le_refl _
  | m + 1, h => by
    have := cnt_sub (m := m) (fun k hk => h k (by omega))
    have h2 := h m (by omega)
    rw [cnt_s, cnt_s]
    by_cases c : 0 < r m
    · rw [if_pos c, if_pos (h2 c)]
      omega
    · rw [if_neg c]
      omega
theorem cnt_sub_lt {r r' : Nat → Int} {a : Nat} : ∀ {m : Nat}, (∀ k, k < m → 0 < r k → 0 < r' k) → a < m → 0 < r' a → ¬ 0 < r a → cnt r m < cnt r' m
  | 0, _, h, _, _ => absurd h (Nat.not_lt_zero _)
  | m + 1, h, ha, h1, h2 => by
    have h3 := h m (by omega)
    rw [cnt_s, cnt_s]
    by_cases d : a = m
    · subst d
      have := cnt_sub (r := r) (r' := r') (m := a) (fun k hk => h k (by omega))
      rw [if_neg h2, if_pos h1]
      omega
    · have := cnt_sub_lt (m := m) (fun k hk => h k (by omega)) (by omega) h1 h2
      by_cases c : 0 < r m
      · rw [if_pos c, if_pos (h3 c)]
        omega
      · rw [if_neg c]
        omega
theorem cnt_next {r : Nat → Int} {b i : Nat} (hb : cnt r b = i) (hi : i < cnt r 300) : ∃ k, k < 300 ∧ 0 < r k ∧ cnt r k = i ∧ b ≤ k ∧ (∀ j, b ≤ j → j < k → ¬ 0 < r j) ∧ cnt r (k + 1) = i + 1 := by
  obtain ⟨k, h1, h2, h3⟩ := cnt_ex hi
  refine ⟨k, h1, h2, h3, ?_, ?_, by rw [cnt_s1 h2, h3]⟩
  · by_cases c : k < b
    · have := cnt_lt c h2
      omega
    · omega
  · intro j g1 g2 g3
    have e1 := cnt_mono r g1
    have e2 := cnt_lt g2 g3
    omega
theorem PathIs.zero {S : MM} {p : Nat} (h : S p 2 = 0) : PathIs S p (fun _ => 0) := by
  have e : ∀ m, cnt (fun _ => (0 : Int)) m = 0 := by
    intro m
    induction m with
    | zero => rfl
    | succ m ih =>
      rw [cnt_s0 (by omega), ih]
  exact ⟨by rw [e]; exact h, by rw [e]; omega, fun k _ hp => absurd hp (Int.lt_irrefl 0), fun k _ hp => absurd hp (Int.lt_irrefl 0), fun k _ => ⟨Int.le_refl 0, Int.le_of_lt_add_one (show (0 : Int) < 9 + 1 by decide)⟩⟩
def mIn (r : Nat → Int) (a b : Int) : Nat → Int := fun k => if a ≤ (k : Int) ∧ (k : Int) ≤ b then r k else 0
def mOut (r : Nat → Int) (a b : Int) : Nat → Int := fun k => if a ≤ (k : Int) ∧ (k : Int) ≤ b then 0 else r k
theorem l_moveTo {S : MM} {p o : Nat} {r : Nat → Int} {from_ to_ : Int} (hp : pth p) (ho : pth o) (hpo : o + 2 < p ∨ p + 2 < o) (h : PathIs S p r) (hf : 0 ≤ from_ ∧ from_ ≤ 299) (ht : 0 ≤ to_ ∧ to_ ≤ 299) : ∀ (f i b : Nat) (T : MM), i + f = cnt r 300 → cnt r b = i → T p = S p →
    (∀ k, k < b → k < 300 → 0 < mOut r from_ to_ k → T (p + 1) (cnt (mOut r from_ to_) k) = (k : Int) ∧ T (p + 2) (cnt (mOut r from_ to_) k) = r k) → (∀ j, i ≤ j → T (p + 1) j = S (p + 1) j ∧ T (p + 2) j = S (p + 2) j) →
    PathIs T o (fun k => if k < b then mIn r from_ to_ k else 0) → (∀ a, a ≠ p → a ≠ p + 1 → a ≠ p + 2 → a ≠ o → a ≠ o + 1 → a ≠ o + 2 → T a = S a) →
    ∃ S', rn xX3_moveTo (6, [some (vR p), some (vR o), some (vI from_), some (vI to_), some (vI (cnt (mOut r from_ to_) b)), some (vI i)], [], T) = some (none, S') ∧ PathIs S' p (mOut r from_ to_) ∧ PathIs S' o (mIn r from_ to_) ∧ (∀ a, a ≠ p → a ≠ p + 1 → a ≠ p + 2 → a ≠ o → a ≠ o + 1 → a ≠ o + 2 → S' a = S a) := by
  obtain ⟨k0, k1, k2, a1, a2⟩ := id hp
  obtain ⟨k0o, -⟩ := id ho
  obtain ⟨h0, h40, hE, hV, hr⟩ := id h
  intro f
  induction f with
  | zero =>
    intro i b T g1 g2 gp g3 g4 g5 g6
    have hnone : ∀ k, b ≤ k → k < 300 → ¬ 0 < r k := by
      intro k q1 q2 q3
      have e1 := cnt_mono r q1
      have e2 := cnt_lt q2 q3
      omega
    have hn : T p 2 = (cnt r 300 : Int) := by rw [gp]; exact h0
    have hout : cnt (mOut r from_ to_) b ≤ cnt r b := cnt_sub (fun k _ hk => by
      unfold mOut at hk
      split at hk
      · omega
      · exact hk)
    have hc : cnt (mOut r from_ to_) 300 = cnt (mOut r from_ to_) b := by
      by_cases c : b ≤ 300
      · refine cnt_skip c (fun j q1 q2 q3 => ?_)
        unfold mOut at q3
        split at q3
        · omega
        · exact hnone j q1 q2 q3
      · refine (cnt_skip (show 300 ≤ b by omega) (fun j q1 q2 q3 => ?_)).symm
        have hq : 0 < r j := by
          unfold mOut at q3
          split at q3
          · omega
          · exact q3
        have e1 := cnt_mono r q1
        have e2 := cnt_lt q2 hq
        omega
    refine ⟨updM T p 2 (cnt (mOut r from_ to_) b), ?_, ⟨by rw [updM_eq, up_eq, hc], by omega, fun k q1 q2 => ?_, fun k q1 q2 => ?_, fun k q1 => ?_⟩, ?_, fun a q1 q2 q3 q4 q5 q6 => by rw [updM_ne q1]; exact g6 a q1 q2 q3 q4 q5 q6⟩
    · rw [eX3_moveTo_6]
      simp (disch := omega) only [eX3_moveTo_0, eX3_moveTo_1, eX3_moveTo_3, eX3_moveTo_4, eX3_moveTo_8, eX3_moveTo_9, eX3_moveTo_12, eX3_moveTo_15, eX3_moveTo_16, eX3_moveTo_19, eX3_moveTo_21, eX3_moveTo_21x, eX3_moveTo_21y, eX3_moveTo_22, eX3_moveTo_23, eX3_moveTo_24, eX3_moveTo_27, eX3_moveTo_30, eX3_moveTo_31, eX3_moveTo_32, eX3_moveTo_35, eX3_moveTo_37, eX3_moveTo_37x, eX3_moveTo_37y, eX3_moveTo_38, eX3_moveTo_39, eX3_moveTo_42, eX3_moveTo_44, eX3_moveTo_44x, eX3_moveTo_44y, eX3_moveTo_45, eX3_moveTo_48, eX3_moveTo_51, eX3_moveTo_52, eX3_moveTo_55, eX3_moveTo_57, eX3_moveTo_58, eX3_moveTo_61, eX3_moveTo_63, eX3_moveTo_63x, eX3_moveTo_63y, eX3_moveTo_64, eX3_moveTo_65, eX3_moveTo_66, eX3_moveTo_69, eX3_moveTo_71, eX3_moveTo_72, eX3_moveTo_75, eX3_moveTo_77, eX3_moveTo_77x, eX3_moveTo_77y, eX3_moveTo_78, eX3_moveTo_79, eX3_moveTo_82, eX3_moveTo_85, eX3_moveTo_88, eX3_moveTo_89, eX3_moveTo_91, eX3_moveTo_94, if_pos, if_neg, if_true, if_false, Option.bind_some, Option.toList_some, Option.toList_none, List.cons_append, List.nil_append]
    · rw [updM_ne (by omega)]
      by_cases c : k < b
      · exact (g3 k c q1 q2).1
      · exfalso
        unfold mOut at q2
        split at q2
        · omega
        · exact hnone k (by omega) q1 q2
    · rw [updM_ne (by omega)]
      by_cases c : k < b
      · have := (g3 k c q1 q2).2
        rw [this]
        unfold mOut at q2 ⊢
        split at q2
        · omega
        · next hq => rw [if_neg hq]
      · exfalso
        unfold mOut at q2
        split at q2
        · omega
        · exact hnone k (by omega) q1 q2
    · unfold mOut
      split
      · omega
      · exact hr k q1
    · refine (g5.rows (S' := updM T p 2 (cnt (mOut r from_ to_) b)) (by rw [updM_ne (by omega)]) (updM_ne (by omega)) (updM_ne (by omega))).congr (fun k hk => ?_)
      by_cases c : k < b
      · rw [if_pos c]
      · rw [if_neg c]
        unfold mIn
        split
        · have e1 := hr k hk
          have e2 := hnone k (by omega) hk
          omega
        · rfl
  | succ f ih =>
    intro i b T g1 g2 gp g3 g4 g5 g6
    obtain ⟨k, q1, q2, q3, q4, q5, q6⟩ := cnt_next g2 (by omega)
    have hn : T p 2 = (cnt r 300 : Int) := by rw [gp]; exact h0
    obtain ⟨gi1, gi2⟩ := g4 i (Nat.le_refl _)
    have eK : T (p + 1) i = (k : Int) := by rw [gi1, ← q3]; exact hE k q1 q2
    have eV : T (p + 2) i = r k := by rw [gi2, ← q3]; exact hV k q1 q2
    have hout : cnt (mOut r from_ to_) b ≤ cnt r b := cnt_sub (fun k _ hk => by
      unfold mOut at hk
      split at hk
      · omega
      · exact hk)
    have hrk := hr k q1
    have hs : cnt (mOut r from_ to_) k = cnt (mOut r from_ to_) b := cnt_skip q4 (fun j w1 w2 w3 => by
      unfold mOut at w3
      split at w3
      · omega
      · exact q5 j w1 w2 w3)
    have ei : ((i : Int) + 1) = ((i + 1 : Nat) : Int) := by omega
    rw [eX3_moveTo_6]
    by_cases c : from_ ≤ (k : Int) ∧ (k : Int) ≤ to_
    · have hroom : cnt (fun k => if k < b then mIn r from_ to_ k else 0) 300 < 40 := by
        have h1 : cnt (fun k => if k < b then mIn r from_ to_ k else 0) 300 = cnt (fun k => if k < b then mIn r from_ to_ k else 0) b := by
          refine cnt_skip (by omega) (fun j w1 w2 w3 => ?_)
          rw [if_neg (by omega)] at w3
          omega
        have h2 : cnt (fun k => if k < b then mIn r from_ to_ k else 0) b ≤ cnt r b := cnt_sub (fun j hj w => by
          rw [if_pos hj] at w
          unfold mIn at w
          split at w
          · exact w
          · omega)
        omega
      obtain ⟨T', e1, e2, e3⟩ := s_pathLay ho g5 (key := (k : Int)) (times := r k) (by omega) (by omega) (Or.inr hroom)
      have hm1 : cnt (mOut r from_ to_) (k + 1) = cnt (mOut r from_ to_) b := by
        rw [cnt_s0 (by unfold mOut; rw [if_pos c]; omega), hs]
      have step := ih (i + 1) (k + 1) T' (by omega) q6 (by rw [e3 p (by omega) (by omega) (by omega)]; exact gp)
      obtain ⟨S', w1, w2⟩ := step (by
          intro j w1 w2 w3
          rw [e3 _ (by omega) (by omega) (by omega), e3 _ (by omega) (by omega) (by omega)]
          by_cases d : j < b
          · exact g3 j d w2 w3
          · exfalso
            unfold mOut at w3
            split at w3
            · omega
            · next hq =>
              by_cases d2 : j = k
              · rw [d2] at hq; exact hq c
              · exact q5 j (by omega) (by omega) w3) (by
          intro j w1
          rw [e3 _ (by omega) (by omega) (by omega), e3 _ (by omega) (by omega) (by omega)]
          exact g4 j (by omega)) (by
          refine e2.congr (fun j hj => ?_)
          unfold up
          rw [Int.toNat_natCast]
          by_cases d : j = k
          · rw [if_pos d, if_pos (by omega), d]
            unfold mIn
            rw [if_pos c]
          · rw [if_neg d]
            show _ = (if j < b then mIn r from_ to_ j else 0)
            by_cases d2 : j < b
            · rw [if_pos d2, if_pos (by omega)]
            · rw [if_neg d2]
              by_cases d3 : j < k + 1
              · rw [if_pos d3]
                unfold mIn
                split
                · have y1 := hr j hj
                  have y2 := q5 j (by omega) (by omega)
                  omega
                · rfl
              · rw [if_neg d3]) (by
          intro a w1 w2 w3 w4 w5 w6
          rw [e3 a w4 w5 w6]
          exact g6 a w1 w2 w3 w4 w5 w6)
      refine ⟨S', ?_, w2⟩
      rw [hm1] at w1
      simp (disch := omega) only [eX3_moveTo_0, eX3_moveTo_1, eX3_moveTo_3, eX3_moveTo_4, eX3_moveTo_8, eX3_moveTo_9, eX3_moveTo_12, eX3_moveTo_15, eX3_moveTo_16, eX3_moveTo_19, eX3_moveTo_21, eX3_moveTo_21x, eX3_moveTo_21y, eX3_moveTo_22, eX3_moveTo_23, eX3_moveTo_24, eX3_moveTo_27, eX3_moveTo_30, eX3_moveTo_31, eX3_moveTo_32, eX3_moveTo_35, eX3_moveTo_37, eX3_moveTo_37x, eX3_moveTo_37y, eX3_moveTo_38, eX3_moveTo_39, eX3_moveTo_42, eX3_moveTo_44, eX3_moveTo_44x, eX3_moveTo_44y, eX3_moveTo_45, eX3_moveTo_48, eX3_moveTo_51, eX3_moveTo_52, eX3_moveTo_55, eX3_moveTo_57, eX3_moveTo_58, eX3_moveTo_61, eX3_moveTo_63, eX3_moveTo_63x, eX3_moveTo_63y, eX3_moveTo_64, eX3_moveTo_65, eX3_moveTo_66, eX3_moveTo_69, eX3_moveTo_71, eX3_moveTo_72, eX3_moveTo_75, eX3_moveTo_77, eX3_moveTo_77x, eX3_moveTo_77y, eX3_moveTo_78, eX3_moveTo_79, eX3_moveTo_82, eX3_moveTo_85, eX3_moveTo_88, eX3_moveTo_89, eX3_moveTo_91, eX3_moveTo_94, if_pos, if_neg, if_true, if_false, Option.bind_some, Option.toList_some, Option.toList_none, List.cons_append, List.nil_append, Int.toNat_natCast, s_isBetween]
      rw [eK, eV, e1]
      simp (disch := omega) only [eX3_moveTo_0, eX3_moveTo_1, eX3_moveTo_3, eX3_moveTo_4, eX3_moveTo_8, eX3_moveTo_9, eX3_moveTo_12, eX3_moveTo_15, eX3_moveTo_16, eX3_moveTo_19, eX3_moveTo_21, eX3_moveTo_21x, eX3_moveTo_21y, eX3_moveTo_22, eX3_moveTo_23, eX3_moveTo_24, eX3_moveTo_27, eX3_moveTo_30, eX3_moveTo_31, eX3_moveTo_32, eX3_moveTo_35, eX3_moveTo_37, eX3_moveTo_37x, eX3_moveTo_37y, eX3_moveTo_38, eX3_moveTo_39, eX3_moveTo_42, eX3_moveTo_44, eX3_moveTo_44x, eX3_moveTo_44y, eX3_moveTo_45, eX3_moveTo_48, eX3_moveTo_51, eX3_moveTo_52, eX3_moveTo_55, eX3_moveTo_57, eX3_moveTo_58, eX3_moveTo_61, eX3_moveTo_63, eX3_moveTo_63x, eX3_moveTo_63y, eX3_moveTo_64, eX3_moveTo_65, eX3_moveTo_66, eX3_moveTo_69, eX3_moveTo_71, eX3_moveTo_72, eX3_moveTo_75, eX3_moveTo_77, eX3_moveTo_77x, eX3_moveTo_77y, eX3_moveTo_78, eX3_moveTo_79, eX3_moveTo_82, eX3_moveTo_85, eX3_moveTo_88, eX3_moveTo_89, eX3_moveTo_91, eX3_moveTo_94, if_pos, if_neg, if_true, if_false, Option.bind_some, Option.toList_some, Option.toList_none, List.cons_append, List.nil_append]
      rw [ei]
      exact w1
    · have hm1 : cnt (mOut r from_ to_) (k + 1) = cnt (mOut r from_ to_) b + 1 := by
        rw [cnt_s1 (by unfold mOut; rw [if_neg c]; exact q2), hs]
      have hle : cnt (mOut r from_ to_) b ≤ i := by omega
      have step := ih (i + 1) (k + 1) (updM (updM T (p + 1) (cnt (mOut r from_ to_) b) (k : Int)) (p + 2) (cnt (mOut r from_ to_) b) (r k)) (by omega) q6 (by rw [updM_ne (by omega), updM_ne (by omega)]; exact gp)
      obtain ⟨S', w1, w2⟩ := step (by
          intro j w1 w2 w3
          rw [updM_ne (show p + 1 ≠ p + 2 by omega), updM_eq, updM_eq, updM_ne (show p + 2 ≠ p + 1 by omega)]
          by_cases d : j = k
          · subst d
            rw [hs, up_eq, up_eq]
            exact ⟨rfl, rfl⟩
          · have d2 : j < b := by
              by_cases d2 : j < b
              · exact d2
              · exfalso
                unfold mOut at w3
                split at w3
                · omega
                · exact q5 j (by omega) (by omega) w3
            have := cnt_lt d2 w3
            rw [up_ne (by omega), up_ne (by omega)]
            exact g3 j d2 w2 w3) (by
          intro j w1
          rw [updM_ne (show p + 1 ≠ p + 2 by omega), updM_eq, updM_eq, updM_ne (show p + 2 ≠ p + 1 by omega), up_ne (by omega), up_ne (by omega)]
          exact g4 j (by omega)) (by
          refine (g5.rows (by rw [updM_ne (by omega), updM_ne (by omega)]) (by rw [updM_ne (by omega), updM_ne (by omega)]) (by rw [updM_ne (by omega), updM_ne (by omega)])).congr (fun j hj => ?_)
          by_cases d2 : j < b
          · rw [if_pos d2, if_pos (by omega)]
          · rw [if_neg d2]
            by_cases d3 : j < k + 1
            · rw [if_pos d3]
              unfold mIn
              split
              · next hq =>
                by_cases d4 : j = k
                · rw [d4] at hq; exact absurd hq c
                · have y1 := hr j hj
                  have y2 := q5 j (by omega) (by omega)
                  omega
              · rfl
            · rw [if_neg d3]) (by
          intro a w1 w2 w3 w4 w5 w6
          rw [updM_ne w3, updM_ne w2]
          exact g6 a w1 w2 w3 w4 w5 w6)
      refine ⟨S', ?_, w2⟩
      rw [hm1] at w1
      simp (disch := omega) only [eX3_moveTo_0, eX3_moveTo_1, eX3_moveTo_3, eX3_moveTo_4, eX3_moveTo_8, eX3_moveTo_9, eX3_moveTo_12, eX3_moveTo_15, eX3_moveTo_16, eX3_moveTo_19, eX3_moveTo_21, eX3_moveTo_21x, eX3_moveTo_21y, eX3_moveTo_22, eX3_moveTo_23, eX3_moveTo_24, eX3_moveTo_27, eX3_moveTo_30, eX3_moveTo_31, eX3_moveTo_32, eX3_moveTo_35, eX3_moveTo_37, eX3_moveTo_37x, eX3_moveTo_37y, eX3_moveTo_38, eX3_moveTo_39, eX3_moveTo_42, eX3_moveTo_44, eX3_moveTo_44x, eX3_moveTo_44y, eX3_moveTo_45, eX3_moveTo_48, eX3_moveTo_51, eX3_moveTo_52, eX3_moveTo_55, eX3_moveTo_57, eX3_moveTo_58, eX3_moveTo_61, eX3_moveTo_63, eX3_moveTo_63x, eX3_moveTo_63y, eX3_moveTo_64, eX3_moveTo_65, eX3_moveTo_66, eX3_moveTo_69, eX3_moveTo_71, eX3_moveTo_72, eX3_moveTo_75, eX3_moveTo_77, eX3_moveTo_77x, eX3_moveTo_77y, eX3_moveTo_78, eX3_moveTo_79, eX3_moveTo_82, eX3_moveTo_85, eX3_moveTo_88, eX3_moveTo_89, eX3_moveTo_91, eX3_moveTo_94, if_pos, if_neg, if_true, if_false, Option.bind_some, Option.toList_some, Option.toList_none, List.cons_append, List.nil_append, Int.toNat_natCast, s_isBetween]
      rw [eK, show updM T (p + 1) (cnt (mOut r from_ to_) b) (k : Int) (p + 2) i = r k by rw [updM_ne (by omega)]; exact eV]
      rw [ei, show ((cnt (mOut r from_ to_) b : Int) + 1) = ((cnt (mOut r from_ to_) b + 1 : Nat) : Int) by omega]
      exact w1
theorem s_moveTo {S : MM} {p o : Nat} {r : Nat → Int} {from_ to_ : Int} (hp : pth p) (ho : pth o) (hpo : o + 2 < p ∨ p + 2 < o) (h : PathIs S p r) (h0 : S o 2 = 0) (hf : 0 ≤ from_ ∧ from_ ≤ 299) (ht : 0 ≤ to_ ∧ to_ ≤ 299) :
    ∃ S', fX3_moveTo [vR p, vR o, vI from_, vI to_] S = some (none, S') ∧ PathIs S' p (mOut r from_ to_) ∧ PathIs S' o (mIn r from_ to_) ∧ (∀ a, a ≠ p → a ≠ p + 1 → a ≠ p + 2 → a ≠ o → a ≠ o + 1 → a ≠ o + 2 → S' a = S a) := by
  obtain ⟨S', h1, h2⟩ := l_moveTo hp ho hpo h hf ht (cnt r 300) 0 0 S (by omega) rfl rfl (fun k hk => by omega) (fun _ _ => ⟨rfl, rfl⟩) ((PathIs.zero h0).congr (fun k _ => by rw [if_neg (by omega)])) (fun _ _ _ _ _ _ _ => rfl)
  refine ⟨S', ?_, h2⟩
  rw [← h1, uX3_moveTo]
  simp (disch := omega) only [eX3_moveTo_0, eX3_moveTo_1, eX3_moveTo_3, eX3_moveTo_4, eX3_moveTo_8, eX3_moveTo_9, eX3_moveTo_12, eX3_moveTo_15, eX3_moveTo_16, eX3_moveTo_19, eX3_moveTo_21, eX3_moveTo_21x, eX3_moveTo_21y, eX3_moveTo_22, eX3_moveTo_23, eX3_moveTo_24, eX3_moveTo_27, eX3_moveTo_30, eX3_moveTo_31, eX3_moveTo_32, eX3_moveTo_35, eX3_moveTo_37, eX3_moveTo_37x, eX3_moveTo_37y, eX3_moveTo_38, eX3_moveTo_39, eX3_moveTo_42, eX3_moveTo_44, eX3_moveTo_44x, eX3_moveTo_44y, eX3_moveTo_45, eX3_moveTo_48, eX3_moveTo_51, eX3_moveTo_52, eX3_moveTo_55, eX3_moveTo_57, eX3_moveTo_58, eX3_moveTo_61, eX3_moveTo_63, eX3_moveTo_63x, eX3_moveTo_63y, eX3_moveTo_64, eX3_moveTo_65, eX3_moveTo_66, eX3_moveTo_69, eX3_moveTo_71, eX3_moveTo_72, eX3_moveTo_75, eX3_moveTo_77, eX3_moveTo_77x, eX3_moveTo_77y, eX3_moveTo_78, eX3_moveTo_79, eX3_moveTo_82, eX3_moveTo_85, eX3_moveTo_88, eX3_moveTo_89, eX3_moveTo_91, eX3_moveTo_94, if_pos, if_neg, if_true, if_false, Option.bind_some, Option.toList_some, Option.toList_none, List.cons_append, List.nil_append]
  rfl

/-! the reference: flood, dry -/
section MO19
variable {S : MM} {A : Nat → Int} {m n : Nat} {H : Nat → Nat → Int} {K P : Nat → Int} {V : Nat → Nat → Int}
theorem zz_flood {w a b : Int} (h : MIs S A m H K V P n) (ok : AOk A) (hw : rng w) (he : errFl w a b = 0) : ∃ S', fX9_flood [vR 593, vI w, vI a, vI b] S = some (some (vI ((cnt (nT A w a b 0) 300 : Int) + cnt (nT A w a b 1) 300 + cnt (nT A w a b 2) 300)), S') ∧ MIs S' (mTake A w a b) (mM m) (mH m H A) K V P n ∧ FR S S' := by
  obtain ⟨S1, e0, m1, f1, f2⟩ := z_keepIf h
  obtain ⟨S', e, g1, g2⟩ := z_tryFlood e0 m1.1 ok hw he
  have q0 := cnt_le (nT A w a b 0) 300
  have q1 := cnt_le (nT A w a b 1) 300
  have q2 := cnt_le (nT A w a b 2) 300
  have g9 := g2 593 (by omega)
  refine ⟨S', ?_, m1.to g1 (by rw [g9]) (by rw [g9]) (by rw [g9]) (g2 _ (by omega)) (g2 _ (by omega)) (g2 _ (by omega)) (g2 _ (by omega)), FR.of (fun a a3 a4 a5 _ _ _ _ _ _ => by rw [g2 a a4, f2 a a5 a3])⟩
  rw [uX9_flood]
  simp (disch := omega) only [eX9_flood_0, eX9_flood_1, eX9_flood_2, eX9_flood_3, eX9_flood_4, eX9_flood_5, eX9_flood_8, if_pos, if_neg, if_true, if_false, Option.bind_some, Option.toList_some, Option.toList_none, List.cons_append, List.nil_append, e]
theorem zz_floodX {w a b : Int} (hw : rng w) (ha : rng a) (hb : rng b) (he : errFl w a b < 0) : fX9_flood [vR 593, vI w, vI a, vI b] S = some (some (vI (errFl w a b)), S) := by
  have e := z_tryFloodX (S := S) (x := 1) hw ha hb he
  have hv : -2 ≤ errFl w a b := by
    rcases errFl_v (w := w) (a := a) (b := b) with y | y
    · omega
    · exact y.2
  rw [uX9_flood]
  simp (disch := omega) only [eX9_flood_0, eX9_flood_1, eX9_flood_2, eX9_flood_3, eX9_flood_4, eX9_flood_5, eX9_flood_8, if_pos, if_neg, if_true, if_false, Option.bind_some, Option.toList_some, Option.toList_none, List.cons_append, List.nil_append, e]
theorem z_flood0 {w a b : Int} (h : MIs S A m H K V P n) (ok : AOk A) (hw : rng w) (he : errFl w a b = 0) : ∃ S', fX9_tryFlood [vR 593, vI w, vI a, vI b, vI 0] S = some (some (vI ((cnt (nT A w a b 0) 300 : Int) + cnt (nT A w a b 1) 300 + cnt (nT A w a b 2) 300)), S') ∧ MIs S' (mTake A w a b) m H K V P n ∧ (∀ c, c ≠ 594 → S' c = S c) := by
  obtain ⟨S', e, g1, g2⟩ := z_tryFlood (x := 0) z_keepIf0 h.1 ok hw he
  have g9 := g2 593 (by omega)
  exact ⟨S', e, h.to g1 (by rw [g9]) (by rw [g9]) (by rw [g9]) (g2 _ (by omega)) (g2 _ (by omega)) (g2 _ (by omega)) (g2 _ (by omega)), g2⟩
/-! drying -/
theorem z_taken {w k : Nat} (hw : w < 3) (hk : k < 300) (h7 : 1 ≤ S 594 7 ∧ S 594 7 ≤ 4) : fX9_taken [vR 593, vI (w : Int), vI (k : Int)] S = some (some (vI (tk (S 594) w k)), S) := by
  obtain ⟨k0, a0, -⟩ := mk
  have n7 : (7 : Int).toNat = 7 := rfl
  have ej : ((1225 : Int) + 900 * (S 594 7 - 1) + 300 * (w : Int) + (k : Int)).toNat = 1225 + 900 * ((S 594 7).toNat - 1) + 300 * w + k := by omega
  rw [uX9_taken]
  simp (disch := omega) only [eX9_taken_0, eX9_taken_1, eX9_taken_4, eX9_taken_7, eX9_taken_10, eX9_taken_11, eX9_taken_14, eX9_taken_16, eX9_taken_16x, eX9_taken_16y, eX9_taken_17, eX9_taken_18, eX9_taken_19, eX9_taken_20, eX9_taken_21, eX9_taken_24, eX9_taken_25, eX9_taken_26, eX9_taken_27, eX9_taken_28, eX9_taken_29, eX9_taken_29x, eX9_taken_29y, eX9_taken_30, if_pos, if_neg, if_true, if_false, Option.bind_some, Option.toList_some, Option.toList_none, List.cons_append, List.nil_append, n7, ej]
  rfl
theorem adds_1 {r ro : Nat → Int} {k : Nat} : (0 < adds r ro k) ↔ (0 < ro k ∧ ¬ 0 < r k) := by
  unfold adds
  split
  · next h => exact ⟨fun _ => h, fun _ => by omega⟩
  · next h => exact ⟨fun y => absurd y (by omega), fun y => absurd y h⟩
theorem l_wbt {w : Nat} {r ro : Nat → Int} (hw : w < 3) (h7 : 1 ≤ S 594 7 ∧ S 594 7 ≤ 4) (hr : RA (S 594) w = r) (hro : tk (S 594) w = ro) (hb : ∀ k, k < 300 → 0 ≤ r k ∧ r k ≤ 9) (hbo : ∀ k, k < 300 → 0 ≤ ro k ∧ ro k ≤ 9) : ∀ (f k : Nat), k + f = 300 → rn xX9_wouldBeTooMany (8, [some (vR 593), some (vI (w : Int)), some (vI ((cnt r 300 : Int) + (cnt (adds r ro) k : Int))), some (vI (k : Int))], [], S) = some (some (vI (if cnt r 300 + cnt (adds r ro) 300 ≤ 40 then 0 else 1)), S) := by
  intro f
  have hc := cnt_le r 300
  induction f with
  | zero =>
    intro k hk
    have e : k = 300 := by omega
    subst e
    have hc2 := cnt_le (adds r ro) 300
    rw [eX9_wouldBeTooMany_8]
    by_cases c : cnt r 300 + cnt (adds r ro) 300 ≤ 40
    · rw [if_pos c]
      simp (disch := omega) only [eX9_wouldBeTooMany_0, eX9_wouldBeTooMany_1, eX9_wouldBeTooMany_2, eX9_wouldBeTooMany_5, eX9_wouldBeTooMany_6, eX9_wouldBeTooMany_7, eX9_wouldBeTooMany_9, eX9_wouldBeTooMany_12, eX9_wouldBeTooMany_15, eX9_wouldBeTooMany_16, eX9_wouldBeTooMany_17, eX9_wouldBeTooMany_18, eX9_wouldBeTooMany_19, eX9_wouldBeTooMany_22, eX9_wouldBeTooMany_25, eX9_wouldBeTooMany_26, eX9_wouldBeTooMany_27, eX9_wouldBeTooMany_28, eX9_wouldBeTooMany_31, eX9_wouldBeTooMany_34, eX9_wouldBeTooMany_35, eX9_wouldBeTooMany_38, eX9_wouldBeTooMany_39, eX9_wouldBeTooMany_40, eX9_wouldBeTooMany_41, eX9_wouldBeTooMany_44, eX9_wouldBeTooMany_47, eX9_wouldBeTooMany_48, eX9_wouldBeTooMany_50, eX9_wouldBeTooMany_53, eX9_wouldBeTooMany_54, eX9_wouldBeTooMany_57, eX9_wouldBeTooMany_58, if_pos, if_neg, if_true, if_false, Option.bind_some, Option.toList_some, Option.toList_none, List.cons_append, List.nil_append]
    · rw [if_neg c]
      simp (disch := omega) only [eX9_wouldBeTooMany_0, eX9_wouldBeTooMany_1, eX9_wouldBeTooMany_2, eX9_wouldBeTooMany_5, eX9_wouldBeTooMany_6, eX9_wouldBeTooMany_7, eX9_wouldBeTooMany_9, eX9_wouldBeTooMany_12, eX9_wouldBeTooMany_15, eX9_wouldBeTooMany_16, eX9_wouldBeTooMany_17, eX9_wouldBeTooMany_18, eX9_wouldBeTooMany_19, eX9_wouldBeTooMany_22, eX9_wouldBeTooMany_25, eX9_wouldBeTooMany_26, eX9_wouldBeTooMany_27, eX9_wouldBeTooMany_28, eX9_wouldBeTooMany_31, eX9_wouldBeTooMany_34, eX9_wouldBeTooMany_35, eX9_wouldBeTooMany_38, eX9_wouldBeTooMany_39, eX9_wouldBeTooMany_40, eX9_wouldBeTooMany_41, eX9_wouldBeTooMany_44, eX9_wouldBeTooMany_47, eX9_wouldBeTooMany_48, eX9_wouldBeTooMany_50, eX9_wouldBeTooMany_53, eX9_wouldBeTooMany_54, eX9_wouldBeTooMany_57, eX9_wouldBeTooMany_58, if_pos, if_neg, if_true, if_false, Option.bind_some, Option.toList_some, Option.toList_none, List.cons_append, List.nil_append]
  | succ f ih =>
    intro k hk
    have e1 := z_taken (S := S) (w := w) (k := k) hw (by omega) h7
    have e2 := z_repeats (S := S) (w := w) (k := k) hw (by omega)
    rw [hro] at e1
    rw [hr] at e2
    have hb1 := hb k (by omega)
    have hb2 := hbo k (by omega)
    have hc2 := cnt_le (adds r ro) k
    rw [← ih (k + 1) (by omega), eX9_wouldBeTooMany_8]
    by_cases c : 0 < ro k
    · by_cases d : 0 < r k
      · rw [cnt_s0 (fun y => (adds_1.mp y).2 d)]
        simp (disch := omega) only [eX9_wouldBeTooMany_0, eX9_wouldBeTooMany_1, eX9_wouldBeTooMany_2, eX9_wouldBeTooMany_5, eX9_wouldBeTooMany_6, eX9_wouldBeTooMany_7, eX9_wouldBeTooMany_9, eX9_wouldBeTooMany_12, eX9_wouldBeTooMany_15, eX9_wouldBeTooMany_16, eX9_wouldBeTooMany_17, eX9_wouldBeTooMany_18, eX9_wouldBeTooMany_19, eX9_wouldBeTooMany_22, eX9_wouldBeTooMany_25, eX9_wouldBeTooMany_26, eX9_wouldBeTooMany_27, eX9_wouldBeTooMany_28, eX9_wouldBeTooMany_31, eX9_wouldBeTooMany_34, eX9_wouldBeTooMany_35, eX9_wouldBeTooMany_38, eX9_wouldBeTooMany_39, eX9_wouldBeTooMany_40, eX9_wouldBeTooMany_41, eX9_wouldBeTooMany_44, eX9_wouldBeTooMany_47, eX9_wouldBeTooMany_48, eX9_wouldBeTooMany_50, eX9_wouldBeTooMany_53, eX9_wouldBeTooMany_54, eX9_wouldBeTooMany_57, eX9_wouldBeTooMany_58, if_pos, if_neg, if_true, if_false, Option.bind_some, Option.toList_some, Option.toList_none, List.cons_append, List.nil_append, e1, e2]
        rw [show ((k : Int) + 1) = ((k + 1 : Nat) : Int) by omega, Int.add_zero]
      · rw [cnt_s1 (adds_1.mpr ⟨c, d⟩)]
        simp (disch := omega) only [eX9_wouldBeTooMany_0, eX9_wouldBeTooMany_1, eX9_wouldBeTooMany_2, eX9_wouldBeTooMany_5, eX9_wouldBeTooMany_6, eX9_wouldBeTooMany_7, eX9_wouldBeTooMany_9, eX9_wouldBeTooMany_12, eX9_wouldBeTooMany_15, eX9_wouldBeTooMany_16, eX9_wouldBeTooMany_17, eX9_wouldBeTooMany_18, eX9_wouldBeTooMany_19, eX9_wouldBeTooMany_22, eX9_wouldBeTooMany_25, eX9_wouldBeTooMany_26, eX9_wouldBeTooMany_27, eX9_wouldBeTooMany_28, eX9_wouldBeTooMany_31, eX9_wouldBeTooMany_34, eX9_wouldBeTooMany_35, eX9_wouldBeTooMany_38, eX9_wouldBeTooMany_39, eX9_wouldBeTooMany_40, eX9_wouldBeTooMany_41, eX9_wouldBeTooMany_44, eX9_wouldBeTooMany_47, eX9_wouldBeTooMany_48, eX9_wouldBeTooMany_50, eX9_wouldBeTooMany_53, eX9_wouldBeTooMany_54, eX9_wouldBeTooMany_57, eX9_wouldBeTooMany_58, if_pos, if_neg, if_true, if_false, Option.bind_some, Option.toList_some, Option.toList_none, List.cons_append, List.nil_append, e1, e2]
        rw [show ((k : Int) + 1) = ((k + 1 : Nat) : Int) by omega, show (cnt r 300 : Int) + (cnt (adds r ro) k : Int) + 1 = (cnt r 300 : Int) + ((cnt (adds r ro) k + 1 : Nat) : Int) by omega]
    · rw [cnt_s0 (fun y => c (adds_1.mp y).1)]
      simp (disch := omega) only [eX9_wouldBeTooMany_0, eX9_wouldBeTooMany_1, eX9_wouldBeTooMany_2, eX9_wouldBeTooMany_5, eX9_wouldBeTooMany_6, eX9_wouldBeTooMany_7, eX9_wouldBeTooMany_9, eX9_wouldBeTooMany_12, eX9_wouldBeTooMany_15, eX9_wouldBeTooMany_16, eX9_wouldBeTooMany_17, eX9_wouldBeTooMany_18, eX9_wouldBeTooMany_19, eX9_wouldBeTooMany_22, eX9_wouldBeTooMany_25, eX9_wouldBeTooMany_26, eX9_wouldBeTooMany_27, eX9_wouldBeTooMany_28, eX9_wouldBeTooMany_31, eX9_wouldBeTooMany_34, eX9_wouldBeTooMany_35, eX9_wouldBeTooMany_38, eX9_wouldBeTooMany_39, eX9_wouldBeTooMany_40, eX9_wouldBeTooMany_41, eX9_wouldBeTooMany_44, eX9_wouldBeTooMany_47, eX9_wouldBeTooMany_48, eX9_wouldBeTooMany_50, eX9_wouldBeTooMany_53, eX9_wouldBeTooMany_54, eX9_wouldBeTooMany_57, eX9_wouldBeTooMany_58, if_pos, if_neg, if_true, if_false, Option.bind_some, Option.toList_some, Option.toList_none, List.cons_append, List.nil_append, e1]
      rw [show ((k : Int) + 1) = ((k + 1 : Nat) : Int) by omega, Int.add_zero]
theorem z_wbt {w : Nat} (hw : w < 3) (h7 : 1 ≤ S 594 7 ∧ S 594 7 ≤ 4) (hR : RB (RA (S 594))) (hT : RB (tk (S 594))) : fX9_wouldBeTooMany [vR 593, vI (w : Int)] S = some (some (vI (if cnt (RA (S 594) w) 300 + cnt (adds (RA (S 594) w) (tk (S 594) w)) 300 ≤ 40 then 0 else 1)), S) := by
  have e := z_stonesOf (S := S) hw hR
  rw [← l_wbt hw h7 rfl rfl (fun k hk => hR w k hw hk) (fun k hk => hT w k hw hk) 300 0 rfl, uX9_wouldBeTooMany]
  simp (disch := omega) only [eX9_wouldBeTooMany_0, eX9_wouldBeTooMany_1, eX9_wouldBeTooMany_2, eX9_wouldBeTooMany_5, eX9_wouldBeTooMany_6, eX9_wouldBeTooMany_7, eX9_wouldBeTooMany_9, eX9_wouldBeTooMany_12, eX9_wouldBeTooMany_15, eX9_wouldBeTooMany_16, eX9_wouldBeTooMany_17, eX9_wouldBeTooMany_18, eX9_wouldBeTooMany_19, eX9_wouldBeTooMany_22, eX9_wouldBeTooMany_25, eX9_wouldBeTooMany_26, eX9_wouldBeTooMany_27, eX9_wouldBeTooMany_28, eX9_wouldBeTooMany_31, eX9_wouldBeTooMany_34, eX9_wouldBeTooMany_35, eX9_wouldBeTooMany_38, eX9_wouldBeTooMany_39, eX9_wouldBeTooMany_40, eX9_wouldBeTooMany_41, eX9_wouldBeTooMany_44, eX9_wouldBeTooMany_47, eX9_wouldBeTooMany_48, eX9_wouldBeTooMany_50, eX9_wouldBeTooMany_53, eX9_wouldBeTooMany_54, eX9_wouldBeTooMany_57, eX9_wouldBeTooMany_58, if_pos, if_neg, if_true, if_false, Option.bind_some, Option.toList_some, Option.toList_none, List.cons_append, List.nil_append, e]
  rw [show (cnt (adds (RA (S 594) w) (tk (S 594) w)) 0 : Int) = 0 from rfl, Int.add_zero]
  rfl
theorem l_gvb {w : Nat} {B : Nat → Int} (hw : w < 3) (h7 : 1 ≤ B 7 ∧ B 7 ≤ 4) (hb : ∀ k, k < 300 → 0 ≤ RA B w k ∧ RA B w k ≤ 9) (hbo : ∀ k, k < 300 → 0 ≤ tk B w k ∧ tk B w k ≤ 9) : ∀ (f k : Nat) (x : Option VV) (T : MM), k + f = 300 → (∀ j, T 594 j = if 25 + 300 * w ≤ j ∧ j < 25 + 300 * w + k then mrg (RA B w) (tk B w) (j - (25 + 300 * w)) else B j) → ∃ S', rn xX9_giveBack (4, [some (vR 593), some (vI (w : Int)), some (vI (cnt (tk B w) k : Int)), some (vI (k : Int)), x], [], T) = some (some (vI (cnt (tk B w) 300 : Int)), S') ∧ (∀ j, S' 594 j = if 25 + 300 * w ≤ j ∧ j < 325 + 300 * w then mrg (RA B w) (tk B w) (j - (25 + 300 * w)) else B j) ∧ (∀ c, c ≠ 594 → S' c = T c) := by
  intro f
  induction f with
  | zero =>
    intro k x T hk hT
    have e : k = 300 := by omega
    subst e
    refine ⟨T, ?_, fun j => by rw [hT, show 25 + 300 * w + 300 = 325 + 300 * w by omega], fun _ _ => rfl⟩
    rw [eX9_giveBack_4]
    simp (disch := omega) only [eX9_giveBack_0, eX9_giveBack_1, eX9_giveBack_2, eX9_giveBack_3, eX9_giveBack_5, eX9_giveBack_8, eX9_giveBack_11, eX9_giveBack_12, eX9_giveBack_13, eX9_giveBack_14, eX9_giveBack_17, eX9_giveBack_18, eX9_giveBack_19, eX9_giveBack_20, eX9_giveBack_23, eX9_giveBack_24, eX9_giveBack_26, eX9_giveBack_27, eX9_giveBack_28, eX9_giveBack_29, eX9_giveBack_32, eX9_giveBack_35, eX9_giveBack_36, eX9_giveBack_37, eX9_giveBack_38, eX9_giveBack_40, eX9_giveBack_42, eX9_giveBack_45, eX9_giveBack_47, eX9_giveBack_50, eX9_giveBack_52, eX9_giveBack_55, eX9_giveBack_58, eX9_giveBack_61, eX9_giveBack_64, eX9_giveBack_65, if_pos, if_neg, if_true, if_false, Option.bind_some, Option.toList_some, Option.toList_none, List.cons_append, List.nil_append]
  | succ f ih =>
    intro k x T hk hT
    have t7 : T 594 7 = B 7 := by rw [hT, if_neg (by omega)]
    have e1 := z_taken (S := T) (w := w) (k := k) hw (by omega) (by rw [t7]; exact h7)
    have e2 := z_repeats (S := T) (w := w) (k := k) hw (by omega)
    have q1 : tk (T 594) w k = tk B w k := by
      unfold tk TA
      rw [t7, hT, if_neg (by omega)]
    have q2 : RA (T 594) w k = RA B w k := by
      show T 594 (25 + 300 * w + k) = _
      rw [hT, if_neg (by omega)]
      rfl
    rw [q1] at e1
    rw [q2] at e2
    have hb1 := hb k (by omega)
    have hb2 := hbo k (by omega)
    by_cases c : 0 < tk B w k
    · have hv : mrg (RA B w) (tk B w) k = if 9 < tk B w k + RA B w k then 9 else tk B w k + RA B w k := by
        unfold mrg
        rw [if_pos c, Int.add_comm (RA B w k)]
      have e3 := fun t => z_lay (S := T) (w := w) (k := k) (t := t) hw (by omega)
      obtain ⟨S', w1, w2, w3⟩ := ih (k + 1) (some (vI (tk B w k + RA B w k))) (updM T 594 (25 + 300 * w + k) (mrg (RA B w) (tk B w) k)) (by omega) (fun j => by
        rw [updM_eq]
        by_cases d : j = 25 + 300 * w + k
        · rw [d, up_eq, if_pos (by omega), show 25 + 300 * w + k - (25 + 300 * w) = k by omega]
        · rw [up_ne d, hT]
          by_cases d2 : 25 + 300 * w ≤ j ∧ j < 25 + 300 * w + k
          · rw [if_pos d2, if_pos (by omega)]
          · rw [if_neg d2, if_neg (by omega)])
      refine ⟨S', ?_, w2, fun c hc => by rw [w3 c hc, updM_ne hc]⟩
      rw [cnt_s1 c] at w1
      rw [← w1, eX9_giveBack_4, hv]
      by_cases d : 9 < tk B w k + RA B w k
      · rw [if_pos d]
        simp (disch := omega) only [eX9_giveBack_0, eX9_giveBack_1, eX9_giveBack_2, eX9_giveBack_3, eX9_giveBack_5, eX9_giveBack_8, eX9_giveBack_11, eX9_giveBack_12, eX9_giveBack_13, eX9_giveBack_14, eX9_giveBack_17, eX9_giveBack_18, eX9_giveBack_19, eX9_giveBack_20, eX9_giveBack_23, eX9_giveBack_24, eX9_giveBack_26, eX9_giveBack_27, eX9_giveBack_28, eX9_giveBack_29, eX9_giveBack_32, eX9_giveBack_35, eX9_giveBack_36, eX9_giveBack_37, eX9_giveBack_38, eX9_giveBack_40, eX9_giveBack_42, eX9_giveBack_45, eX9_giveBack_47, eX9_giveBack_50, eX9_giveBack_52, eX9_giveBack_55, eX9_giveBack_58, eX9_giveBack_61, eX9_giveBack_64, eX9_giveBack_65, if_pos, if_neg, if_true, if_false, Option.bind_some, Option.toList_some, Option.toList_none, List.cons_append, List.nil_append, e1, e2, e3]
        rw [show ((k : Int) + 1) = ((k + 1 : Nat) : Int) by omega, show ∀ x : Nat, ((x : Int) + 1) = ((x + 1 : Nat) : Int) from fun x => by omega]
      · rw [if_neg d]
        simp (disch := omega) only [eX9_giveBack_0, eX9_giveBack_1, eX9_giveBack_2, eX9_giveBack_3, eX9_giveBack_5, eX9_giveBack_8, eX9_giveBack_11, eX9_giveBack_12, eX9_giveBack_13, eX9_giveBack_14, eX9_giveBack_17, eX9_giveBack_18, eX9_giveBack_19, eX9_giveBack_20, eX9_giveBack_23, eX9_giveBack_24, eX9_giveBack_26, eX9_giveBack_27, eX9_giveBack_28, eX9_giveBack_29, eX9_giveBack_32, eX9_giveBack_35, eX9_giveBack_36, eX9_giveBack_37, eX9_giveBack_38, eX9_giveBack_40, eX9_giveBack_42, eX9_giveBack_45, eX9_giveBack_47, eX9_giveBack_50, eX9_giveBack_52, eX9_giveBack_55, eX9_giveBack_58, eX9_giveBack_61, eX9_giveBack_64, eX9_giveBack_65, if_pos, if_neg, if_true, if_false, Option.bind_some, Option.toList_some, Option.toList_none, List.cons_append, List.nil_append, e1, e2, e3]
        rw [show ((k : Int) + 1) = ((k + 1 : Nat) : Int) by omega, show ∀ x : Nat, ((x : Int) + 1) = ((x + 1 : Nat) : Int) from fun x => by omega]
    · obtain ⟨S', w1, w2, w3⟩ := ih (k + 1) (some (vI (tk B w k + RA B w k))) T (by omega) (fun j => by
        rw [hT]
        by_cases d : j = 25 + 300 * w + k
        · rw [d, if_neg (by omega), if_pos (by omega), show 25 + 300 * w + k - (25 + 300 * w) = k by omega]
          unfold mrg
          rw [if_neg c]
          rfl
        · by_cases d2 : 25 + 300 * w ≤ j ∧ j < 25 + 300 * w + k
          · rw [if_pos d2, if_pos (by omega)]
          · rw [if_neg d2, if_neg (by omega)])
      refine ⟨S', ?_, w2, w3⟩
      rw [cnt_s0 c] at w1
      rw [← w1, eX9_giveBack_4]
      simp (disch := omega) only [eX9_giveBack_0, eX9_giveBack_1, eX9_giveBack_2, eX9_giveBack_3, eX9_giveBack_5, eX9_giveBack_8, eX9_giveBack_11, eX9_giveBack_12, eX9_giveBack_13, eX9_giveBack_14, eX9_giveBack_17, eX9_giveBack_18, eX9_giveBack_19, eX9_giveBack_20, eX9_giveBack_23, eX9_giveBack_24, eX9_giveBack_26, eX9_giveBack_27, eX9_giveBack_28, eX9_giveBack_29, eX9_giveBack_32, eX9_giveBack_35, eX9_giveBack_36, eX9_giveBack_37, eX9_giveBack_38, eX9_giveBack_40, eX9_giveBack_42, eX9_giveBack_45, eX9_giveBack_47, eX9_giveBack_50, eX9_giveBack_52, eX9_giveBack_55, eX9_giveBack_58, eX9_giveBack_61, eX9_giveBack_64, eX9_giveBack_65, if_pos, if_neg, if_true, if_false, Option.bind_some, Option.toList_some, Option.toList_none, List.cons_append, List.nil_append, e1, e2]
      rw [show ((k : Int) + 1) = ((k + 1 : Nat) : Int) by omega]
theorem z_giveBack {w : Nat} {B : Nat → Int} (h0 : S 594 = B) (hw : w < 3) (h7 : 1 ≤ B 7 ∧ B 7 ≤ 4) (hb : ∀ k, k < 300 → 0 ≤ RA B w k ∧ RA B w k ≤ 9) (hbo : ∀ k, k < 300 → 0 ≤ tk B w k ∧ tk B w k ≤ 9) : ∃ S', fX9_giveBack [vR 593, vI (w : Int)] S = some (some (vI (cnt (tk B w) 300 : Int)), S') ∧ (∀ j, S' 594 j = if 25 + 300 * w ≤ j ∧ j < 325 + 300 * w then mrg (RA B w) (tk B w) (j - (25 + 300 * w)) else B j) ∧ (∀ c, c ≠ 594 → S' c = S c) := by
  obtain ⟨S', w1, w2⟩ := l_gvb hw h7 hb hbo 300 0 none S rfl (fun j => by rw [h0, if_neg (by omega)])
  refine ⟨S', ?_, w2⟩
  rw [← w1, uX9_giveBack]
  simp (disch := omega) only [eX9_giveBack_0, eX9_giveBack_1, eX9_giveBack_2, eX9_giveBack_3, eX9_giveBack_5, eX9_giveBack_8, eX9_giveBack_11, eX9_giveBack_12, eX9_giveBack_13, eX9_giveBack_14, eX9_giveBack_17, eX9_giveBack_18, eX9_giveBack_19, eX9_giveBack_20, eX9_giveBack_23, eX9_giveBack_24, eX9_giveBack_26, eX9_giveBack_27, eX9_giveBack_28, eX9_giveBack_29, eX9_giveBack_32, eX9_giveBack_35, eX9_giveBack_36, eX9_giveBack_37, eX9_giveBack_38, eX9_giveBack_40, eX9_giveBack_42, eX9_giveBack_45, eX9_giveBack_47, eX9_giveBack_50, eX9_giveBack_52, eX9_giveBack_55, eX9_giveBack_58, eX9_giveBack_61, eX9_giveBack_64, eX9_giveBack_65, if_pos, if_neg, if_true, if_false, Option.bind_some, Option.toList_some, Option.toList_none, List.cons_append, List.nil_append]
  rfl
def GS (A : Nat → Int) (u : Nat) (T : MM) : Prop := ∀ j, T 594 j = if 25 ≤ j ∧ j < 25 + 300 * u then mrg (RA A ((j - 25) / 300)) (tk A ((j - 25) / 300)) ((j - 25) % 300) else A j
theorem st_dry {u : Nat} {n x : Int} (hu : u < 3) (h7 : 1 ≤ A 7 ∧ A 7 ≤ 4) (hR : RB (RA A)) (hT : RB (tk A)) (hn : 0 ≤ n ∧ n ≤ 1000) (hG : GS A u S) : ∃ S', rn xX9_tryDry (46, [some (vR 593), some (vI x), some (vI n), some (vI (u : Int))], [], S) = rn xX9_tryDry (46, [some (vR 593), some (vI x), some (vI (n + (cnt (tk A u) 300 : Int))), some (vI ((u + 1 : Nat) : Int))], [], S') ∧ GS A (u + 1) S' ∧ (∀ c, c ≠ 594 → S' c = S c) := by
  have t7 : S 594 7 = A 7 := by rw [hG, if_neg (by omega)]
  have q1 : ∀ k, k < 300 → tk (S 594) u k = tk A u k := fun k hk => by
    unfold tk TA
    rw [t7, hG, if_neg (by omega)]
  have q2 : ∀ k, k < 300 → RA (S 594) u k = RA A u k := fun k hk => by
    show S 594 (25 + 300 * u + k) = _
    rw [hG, if_neg (by omega)]
    rfl
  obtain ⟨T, e, g1, g2⟩ := z_giveBack (S := S) (w := u) rfl hu (by rw [t7]; exact h7) (fun k hk => by rw [q2 k hk]; exact hR u k hu hk) (fun k hk => by rw [q1 k hk]; exact hT u k hu hk)
  rw [cnt_same (r' := tk A u) (by omega) q1] at e
  have hc := cnt_le (tk A u) 300
  refine ⟨T, ?_, fun j => ?_, g2⟩
  · rw [eX9_tryDry_46]
    simp (disch := omega) only [eX9_tryDry_0, eX9_tryDry_1, eX9_tryDry_4, eX9_tryDry_6, eX9_tryDry_6x, eX9_tryDry_6y, eX9_tryDry_7, eX9_tryDry_10, eX9_tryDry_12, eX9_tryDry_13, eX9_tryDry_14, eX9_tryDry_16, eX9_tryDry_17, eX9_tryDry_20, eX9_tryDry_21, eX9_tryDry_22, eX9_tryDry_25, eX9_tryDry_28, eX9_tryDry_30, eX9_tryDry_31, eX9_tryDry_34, eX9_tryDry_37, eX9_tryDry_38, eX9_tryDry_39, eX9_tryDry_42, eX9_tryDry_43, eX9_tryDry_44, eX9_tryDry_45, eX9_tryDry_47, eX9_tryDry_48, eX9_tryDry_51, eX9_tryDry_52, eX9_tryDry_53, eX9_tryDry_54, eX9_tryDry_57, eX9_tryDry_58, eX9_tryDry_59, eX9_tryDry_62, eX9_tryDry_65, eX9_tryDry_66, eX9_tryDry_69, eX9_tryDry_71, eX9_tryDry_72, eX9_tryDry_72x, eX9_tryDry_72y, eX9_tryDry_73, eX9_tryDry_74, eX9_tryDry_75, eX9_tryDry_76, eX9_tryDry_77, if_pos, if_neg, if_true, if_false, Option.bind_some, Option.toList_some, Option.toList_none, List.cons_append, List.nil_append, e]
    rw [show ((u : Int) + 1) = ((u + 1 : Nat) : Int) by omega]
  · rw [g1]
    by_cases c : 25 + 300 * u ≤ j ∧ j < 325 + 300 * u
    · rw [if_pos c, if_pos (by omega), show (j - 25) / 300 = u by omega, show (j - 25) % 300 = j - (25 + 300 * u) by omega]
      unfold mrg
      rw [q1 _ (by omega), q2 _ (by omega)]
    · rw [if_neg c, hG]
      by_cases d : 25 ≤ j ∧ j < 25 + 300 * u
      · rw [if_pos d, if_pos (by omega)]
      · rw [if_neg d, if_neg (by omega)]
theorem AOk.tk (ok : AOk A) (h7 : A 7 ≠ 0) : RB (tk A) := by
  have := ok.2.2.2.2.2.1
  exact ok.2.2.2.2.2.2 _ (by omega)
theorem st_dryw {u : Nat} {x : Int} {l3 : Option VV} (hu : u < 3) (h0 : S 594 = A) (h7 : 1 ≤ A 7 ∧ A 7 ≤ 4) (hR : RB (RA A)) (hT : RB (tk A)) : rn xX9_tryDry (15, [some (vR 593), some (vI x), some (vI (u : Int)), l3], [], S) = if cnt (RA A u) 300 + cnt (adds (RA A u) (tk A u)) 300 ≤ 40 then rn xX9_tryDry (15, [some (vR 593), some (vI x), some (vI ((u + 1 : Nat) : Int)), l3], [], S) else some (some (vI (-4)), S) := by
  have e := z_wbt (S := S) hu (by rw [h0]; exact h7) (by rw [h0]; exact hR) (by rw [h0]; exact hT)
  rw [h0] at e
  rw [eX9_tryDry_15]
  by_cases c : cnt (RA A u) 300 + cnt (adds (RA A u) (tk A u)) 300 ≤ 40
  · rw [if_pos c] at e ⊢
    simp (disch := omega) only [eX9_tryDry_0, eX9_tryDry_1, eX9_tryDry_4, eX9_tryDry_6, eX9_tryDry_6x, eX9_tryDry_6y, eX9_tryDry_7, eX9_tryDry_10, eX9_tryDry_12, eX9_tryDry_13, eX9_tryDry_14, eX9_tryDry_16, eX9_tryDry_17, eX9_tryDry_20, eX9_tryDry_21, eX9_tryDry_22, eX9_tryDry_25, eX9_tryDry_28, eX9_tryDry_30, eX9_tryDry_31, eX9_tryDry_34, eX9_tryDry_37, eX9_tryDry_38, eX9_tryDry_39, eX9_tryDry_42, eX9_tryDry_43, eX9_tryDry_44, eX9_tryDry_45, eX9_tryDry_47, eX9_tryDry_48, eX9_tryDry_51, eX9_tryDry_52, eX9_tryDry_53, eX9_tryDry_54, eX9_tryDry_57, eX9_tryDry_58, eX9_tryDry_59, eX9_tryDry_62, eX9_tryDry_65, eX9_tryDry_66, eX9_tryDry_69, eX9_tryDry_71, eX9_tryDry_72, eX9_tryDry_72x, eX9_tryDry_72y, eX9_tryDry_73, eX9_tryDry_74, eX9_tryDry_75, eX9_tryDry_76, eX9_tryDry_77, if_pos, if_neg, if_true, if_false, Option.bind_some, Option.toList_some, Option.toList_none, List.cons_append, List.nil_append, e]
    rw [show ((u : Int) + 1) = ((u + 1 : Nat) : Int) by omega]
  · rw [if_neg c] at e ⊢
    simp (disch := omega) only [eX9_tryDry_0, eX9_tryDry_1, eX9_tryDry_4, eX9_tryDry_6, eX9_tryDry_6x, eX9_tryDry_6y, eX9_tryDry_7, eX9_tryDry_10, eX9_tryDry_12, eX9_tryDry_13, eX9_tryDry_14, eX9_tryDry_16, eX9_tryDry_17, eX9_tryDry_20, eX9_tryDry_21, eX9_tryDry_22, eX9_tryDry_25, eX9_tryDry_28, eX9_tryDry_30, eX9_tryDry_31, eX9_tryDry_34, eX9_tryDry_37, eX9_tryDry_38, eX9_tryDry_39, eX9_tryDry_42, eX9_tryDry_43, eX9_tryDry_44, eX9_tryDry_45, eX9_tryDry_47, eX9_tryDry_48, eX9_tryDry_51, eX9_tryDry_52, eX9_tryDry_53, eX9_tryDry_54, eX9_tryDry_57, eX9_tryDry_58, eX9_tryDry_59, eX9_tryDry_62, eX9_tryDry_65, eX9_tryDry_66, eX9_tryDry_69, eX9_tryDry_71, eX9_tryDry_72, eX9_tryDry_72x, eX9_tryDry_72y, eX9_tryDry_73, eX9_tryDry_74, eX9_tryDry_75, eX9_tryDry_76, eX9_tryDry_77, if_pos, if_neg, if_true, if_false, Option.bind_some, Option.toList_some, Option.toList_none, List.cons_append, List.nil_append, e]
theorem z_tryDryX {x : Int} (h0 : S 594 = A) (ok : AOk A) (he : errDry A < 0) : fX9_tryDry [vR 593, vI x] S = some (some (vI (errDry A)), S) := by
  obtain ⟨k0, a0, -⟩ := mk
  have n7 : (7 : Int).toNat = 7 := rfl
  have q7 : S 594 7 = A 7 := by rw [h0]
  have o6 := ok.2.2.2.2.2.1
  rw [uX9_tryDry]
  by_cases c : A 7 = 0
  · unfold errDry
    rw [if_pos c]
    simp (disch := omega) only [eX9_tryDry_0, eX9_tryDry_1, eX9_tryDry_4, eX9_tryDry_6, eX9_tryDry_6x, eX9_tryDry_6y, eX9_tryDry_7, eX9_tryDry_10, eX9_tryDry_12, eX9_tryDry_13, eX9_tryDry_14, eX9_tryDry_16, eX9_tryDry_17, eX9_tryDry_20, eX9_tryDry_21, eX9_tryDry_22, eX9_tryDry_25, eX9_tryDry_28, eX9_tryDry_30, eX9_tryDry_31, eX9_tryDry_34, eX9_tryDry_37, eX9_tryDry_38, eX9_tryDry_39, eX9_tryDry_42, eX9_tryDry_43, eX9_tryDry_44, eX9_tryDry_45, eX9_tryDry_47, eX9_tryDry_48, eX9_tryDry_51, eX9_tryDry_52, eX9_tryDry_53, eX9_tryDry_54, eX9_tryDry_57, eX9_tryDry_58, eX9_tryDry_59, eX9_tryDry_62, eX9_tryDry_65, eX9_tryDry_66, eX9_tryDry_69, eX9_tryDry_71, eX9_tryDry_72, eX9_tryDry_72x, eX9_tryDry_72y, eX9_tryDry_73, eX9_tryDry_74, eX9_tryDry_75, eX9_tryDry_76, eX9_tryDry_77, if_pos, if_neg, if_true, if_false, Option.bind_some, Option.toList_some, Option.toList_none, List.cons_append, List.nil_append, n7, q7]
  · have s0 := st_dryw (S := S) (x := x) (l3 := none) (u := 0) (by omega) h0 (by omega) ok.2.2.2.1 (ok.tk c)
    have s1 := st_dryw (S := S) (x := x) (l3 := none) (u := 1) (by omega) h0 (by omega) ok.2.2.2.1 (ok.tk c)
    have s2 := st_dryw (S := S) (x := x) (l3 := none) (u := 2) (by omega) h0 (by omega) ok.2.2.2.1 (ok.tk c)
    rw [show ((0 : Nat) : Int) = 0 from rfl] at s0
    unfold errDry at he ⊢
    rw [if_neg c] at he ⊢
    simp (disch := omega) only [eX9_tryDry_0, eX9_tryDry_1, eX9_tryDry_4, eX9_tryDry_6, eX9_tryDry_6x, eX9_tryDry_6y, eX9_tryDry_7, eX9_tryDry_10, eX9_tryDry_12, eX9_tryDry_13, eX9_tryDry_14, eX9_tryDry_16, eX9_tryDry_17, eX9_tryDry_20, eX9_tryDry_21, eX9_tryDry_22, eX9_tryDry_25, eX9_tryDry_28, eX9_tryDry_30, eX9_tryDry_31, eX9_tryDry_34, eX9_tryDry_37, eX9_tryDry_38, eX9_tryDry_39, eX9_tryDry_42, eX9_tryDry_43, eX9_tryDry_44, eX9_tryDry_45, eX9_tryDry_47, eX9_tryDry_48, eX9_tryDry_51, eX9_tryDry_52, eX9_tryDry_53, eX9_tryDry_54, eX9_tryDry_57, eX9_tryDry_58, eX9_tryDry_59, eX9_tryDry_62, eX9_tryDry_65, eX9_tryDry_66, eX9_tryDry_69, eX9_tryDry_71, eX9_tryDry_72, eX9_tryDry_72x, eX9_tryDry_72y, eX9_tryDry_73, eX9_tryDry_74, eX9_tryDry_75, eX9_tryDry_76, eX9_tryDry_77, if_pos, if_neg, if_true, if_false, Option.bind_some, Option.toList_some, Option.toList_none, List.cons_append, List.nil_append, n7, q7]
    rw [s0]
    by_cases z0 : cnt (RA A 0) 300 + cnt (adds (RA A 0) (tk A 0)) 300 ≤ 40
    · rw [if_pos z0, s1]
      by_cases z1 : cnt (RA A 1) 300 + cnt (adds (RA A 1) (tk A 1)) 300 ≤ 40
      · rw [if_pos z1, s2]
        by_cases z2 : cnt (RA A 2) 300 + cnt (adds (RA A 2) (tk A 2)) 300 ≤ 40
        · rw [if_pos ⟨z0, z1, z2⟩] at he
          omega
        · rw [if_neg z2]
      · rw [if_neg z1]
    · rw [if_neg z0]
theorem z_tryDry {S1 : MM} {x : Int} (e0 : fX9_keepIf [vR 593, vI x] S = some (none, S1)) (h0 : S 594 = A) (h1 : S1 594 = A) (ok : AOk A) (he : errDry A = 0) : ∃ S', fX9_tryDry [vR 593, vI x] S = some (some (vI ((cnt (tk A 0) 300 : Int) + cnt (tk A 1) 300 + cnt (tk A 2) 300)), S') ∧ S' 594 = mDry A ∧ (∀ c, c ≠ 594 → S' c = S1 c) := by
  obtain ⟨k0, a0, -⟩ := mk
  have n7 : (7 : Int).toNat = 7 := rfl
  have q7 : S 594 7 = A 7 := by rw [h0]
  have o6 := ok.2.2.2.2.2.1
  have c : A 7 ≠ 0 := by
    intro y
    unfold errDry at he
    rw [if_pos y] at he
    omega
  have hro : cnt (RA A 0) 300 + cnt (adds (RA A 0) (tk A 0)) 300 ≤ 40 ∧ cnt (RA A 1) 300 + cnt (adds (RA A 1) (tk A 1)) 300 ≤ 40 ∧ cnt (RA A 2) 300 + cnt (adds (RA A 2) (tk A 2)) 300 ≤ 40 := by
    by_cases y : cnt (RA A 0) 300 + cnt (adds (RA A 0) (tk A 0)) 300 ≤ 40 ∧ cnt (RA A 1) 300 + cnt (adds (RA A 1) (tk A 1)) 300 ≤ 40 ∧ cnt (RA A 2) 300 + cnt (adds (RA A 2) (tk A 2)) 300 ≤ 40
    · exact y
    · unfold errDry at he
      rw [if_neg c, if_neg y] at he
      omega
  have s0 := st_dryw (S := S) (x := x) (l3 := none) (u := 0) (by omega) h0 (by omega) ok.2.2.2.1 (ok.tk c)
  have s1 := st_dryw (S := S) (x := x) (l3 := none) (u := 1) (by omega) h0 (by omega) ok.2.2.2.1 (ok.tk c)
  have s2 := st_dryw (S := S) (x := x) (l3 := none) (u := 2) (by omega) h0 (by omega) ok.2.2.2.1 (ok.tk c)
  rw [if_pos hro.1] at s0
  rw [if_pos hro.2.1] at s1
  rw [if_pos hro.2.2] at s2
  have r0 := cnt_le (tk A 0) 300
  have r1 := cnt_le (tk A 1) 300
  have r2 := cnt_le (tk A 2) 300
  obtain ⟨T1, e1, G1, f1⟩ := st_dry (S := S1) (A := A) (u := 0) (n := 0) (x := x) (by omega) (by omega) ok.2.2.2.1 (ok.tk c) (by omega) (fun j => by rw [h1, if_neg (by omega)])
  obtain ⟨T2, e2, G2, f2⟩ := st_dry (S := T1) (A := A) (u := 1) (n := 0 + (cnt (tk A 0) 300 : Int)) (x := x) (by omega) (by omega) ok.2.2.2.1 (ok.tk c) (by omega) G1
  obtain ⟨T3, e3, G3, f3⟩ := st_dry (S := T2) (A := A) (u := 2) (n := 0 + (cnt (tk A 0) 300 : Int) + (cnt (tk A 1) 300 : Int)) (x := x) (by omega) (by omega) ok.2.2.2.1 (ok.tk c) (by omega) G2
  have t7 : T3 594 7 = A 7 := by rw [G3, if_neg (by omega)]
  have ea := s0.trans (s1.trans s2)
  have eb := e1.trans (e2.trans e3)
  rw [show ((0 : Nat) : Int) = 0 from rfl] at ea eb
  rw [show ∀ X Y Z : Int, 0 + X + Y + Z = X + Y + Z from fun X Y Z => by omega] at eb
  refine ⟨updM T3 594 7 (A 7 - 1), ?_, ?_, fun c hc => by rw [updM_ne hc, f3 c hc, f2 c hc, f1 c hc]⟩
  · rw [uX9_tryDry]
    simp (disch := omega) only [eX9_tryDry_0, eX9_tryDry_1, eX9_tryDry_4, eX9_tryDry_6, eX9_tryDry_6x, eX9_tryDry_6y, eX9_tryDry_7, eX9_tryDry_10, eX9_tryDry_12, eX9_tryDry_13, eX9_tryDry_14, eX9_tryDry_16, eX9_tryDry_17, eX9_tryDry_20, eX9_tryDry_21, eX9_tryDry_22, eX9_tryDry_25, eX9_tryDry_28, eX9_tryDry_30, eX9_tryDry_31, eX9_tryDry_34, eX9_tryDry_37, eX9_tryDry_38, eX9_tryDry_39, eX9_tryDry_42, eX9_tryDry_43, eX9_tryDry_44, eX9_tryDry_45, eX9_tryDry_47, eX9_tryDry_48, eX9_tryDry_51, eX9_tryDry_52, eX9_tryDry_53, eX9_tryDry_54, eX9_tryDry_57, eX9_tryDry_58, eX9_tryDry_59, eX9_tryDry_62, eX9_tryDry_65, eX9_tryDry_66, eX9_tryDry_69, eX9_tryDry_71, eX9_tryDry_72, eX9_tryDry_72x, eX9_tryDry_72y, eX9_tryDry_73, eX9_tryDry_74, eX9_tryDry_75, eX9_tryDry_76, eX9_tryDry_77, if_pos, if_neg, if_true, if_false, Option.bind_some, Option.toList_some, Option.toList_none, List.cons_append, List.nil_append, n7, q7]
    rw [ea, eX9_tryDry_15]
    simp (disch := omega) only [eX9_tryDry_0, eX9_tryDry_1, eX9_tryDry_4, eX9_tryDry_6, eX9_tryDry_6x, eX9_tryDry_6y, eX9_tryDry_7, eX9_tryDry_10, eX9_tryDry_12, eX9_tryDry_13, eX9_tryDry_14, eX9_tryDry_16, eX9_tryDry_17, eX9_tryDry_20, eX9_tryDry_21, eX9_tryDry_22, eX9_tryDry_25, eX9_tryDry_28, eX9_tryDry_30, eX9_tryDry_31, eX9_tryDry_34, eX9_tryDry_37, eX9_tryDry_38, eX9_tryDry_39, eX9_tryDry_42, eX9_tryDry_43, eX9_tryDry_44, eX9_tryDry_45, eX9_tryDry_47, eX9_tryDry_48, eX9_tryDry_51, eX9_tryDry_52, eX9_tryDry_53, eX9_tryDry_54, eX9_tryDry_57, eX9_tryDry_58, eX9_tryDry_59, eX9_tryDry_62, eX9_tryDry_65, eX9_tryDry_66, eX9_tryDry_69, eX9_tryDry_71, eX9_tryDry_72, eX9_tryDry_72x, eX9_tryDry_72y, eX9_tryDry_73, eX9_tryDry_74, eX9_tryDry_75, eX9_tryDry_76, eX9_tryDry_77, if_pos, if_neg, if_true, if_false, Option.bind_some, Option.toList_some, Option.toList_none, List.cons_append, List.nil_append, e0]
    rw [eb, eX9_tryDry_46]
    simp (disch := omega) only [eX9_tryDry_0, eX9_tryDry_1, eX9_tryDry_4, eX9_tryDry_6, eX9_tryDry_6x, eX9_tryDry_6y, eX9_tryDry_7, eX9_tryDry_10, eX9_tryDry_12, eX9_tryDry_13, eX9_tryDry_14, eX9_tryDry_16, eX9_tryDry_17, eX9_tryDry_20, eX9_tryDry_21, eX9_tryDry_22, eX9_tryDry_25, eX9_tryDry_28, eX9_tryDry_30, eX9_tryDry_31, eX9_tryDry_34, eX9_tryDry_37, eX9_tryDry_38, eX9_tryDry_39, eX9_tryDry_42, eX9_tryDry_43, eX9_tryDry_44, eX9_tryDry_45, eX9_tryDry_47, eX9_tryDry_48, eX9_tryDry_51, eX9_tryDry_52, eX9_tryDry_53, eX9_tryDry_54, eX9_tryDry_57, eX9_tryDry_58, eX9_tryDry_59, eX9_tryDry_62, eX9_tryDry_65, eX9_tryDry_66, eX9_tryDry_69, eX9_tryDry_71, eX9_tryDry_72, eX9_tryDry_72x, eX9_tryDry_72y, eX9_tryDry_73, eX9_tryDry_74, eX9_tryDry_75, eX9_tryDry_76, eX9_tryDry_77, if_pos, if_neg, if_true, if_false, Option.bind_some, Option.toList_some, Option.toList_none, List.cons_append, List.nil_append, n7, t7]
  · funext k
    rw [updM_eq]
    unfold mDry
    by_cases d : k = 7
    · rw [d, up_eq, if_pos rfl]
    · rw [up_ne d, if_neg d, G3]
theorem zz_dry (h : MIs S A m H K V P n) (ok : AOk A) (he : errDry A = 0) : ∃ S', fX9_dry [vR 593] S = some (some (vI ((cnt (tk A 0) 300 : Int) + cnt (tk A 1) 300 + cnt (tk A 2) 300)), S') ∧ MIs S' (mDry A) (mM m) (mH m H A) K V P n ∧ FR S S' := by
  obtain ⟨S1, e0, m1, f1, f2⟩ := z_keepIf h
  obtain ⟨S', e, g1, g2⟩ := z_tryDry e0 h.1 m1.1 ok he
  have q0 := cnt_le (tk A 0) 300
  have q1 := cnt_le (tk A 1) 300
  have q2 := cnt_le (tk A 2) 300
  have g9 := g2 593 (by omega)
  refine ⟨S', ?_, m1.to g1 (by rw [g9]) (by rw [g9]) (by rw [g9]) (g2 _ (by omega)) (g2 _ (by omega)) (g2 _ (by omega)) (g2 _ (by omega)), FR.of (fun a a3 a4 a5 _ _ _ _ _ _ => by rw [g2 a a4, f2 a a5 a3])⟩
  rw [uX9_dry]
  simp (disch := omega) only [eX9_dry_0, eX9_dry_1, eX9_dry_2, eX9_dry_5, if_pos, if_neg, if_true, if_false, Option.bind_some, Option.toList_some, Option.toList_none, List.cons_append, List.nil_append, e]
theorem zz_dryX (h : MIs S A m H K V P n) (ok : AOk A) (he : errDry A < 0) : fX9_dry [vR 593] S = some (some (vI (errDry A)), S) := by
  have e := z_tryDryX (x := 1) h.1 ok he
  have hv : -5 ≤ errDry A := by
    rcases errDry_v (A := A) with y | y
    · omega
    · exact y.2
  rw [uX9_dry]
  simp (disch := omega) only [eX9_dry_0, eX9_dry_1, eX9_dry_2, eX9_dry_5, if_pos, if_neg, if_true, if_false, Option.bind_some, Option.toList_some, Option.toList_none, List.cons_append, List.nil_append, e]
theorem z_dry0 (h : MIs S A m H K V P n) (ok : AOk A) (he : errDry A = 0) : ∃ S', fX9_tryDry [vR 593, vI 0] S = some (some (vI ((cnt (tk A 0) 300 : Int) + cnt (tk A 1) 300 + cnt (tk A 2) 300)), S') ∧ MIs S' (mDry A) m H K V P n ∧ (∀ c, c ≠ 594 → S' c = S c) := by
  obtain ⟨S', e, g1, g2⟩ := z_tryDry (x := 0) z_keepIf0 h.1 h.1 ok he
  have g9 := g2 593 (by omega)
  exact ⟨S', e, h.to g1 (by rw [g9]) (by rw [g9]) (by rw [g9]) (g2 _ (by omega)) (g2 _ (by omega)) (g2 _ (by omega)) (g2 _ (by omega)), g2⟩
end MO19

/-! the reference: reads -/
section MO20
variable {S : MM} {A : Nat → Int} {m n : Nat} {H : Nat → Nat → Int} {K P : Nat → Int} {V : Nat → Nat → Int}
theorem l_placeOf {w g : Nat} {r : Nat → Int} (hw : w < 3) (hr : RA (S 594) w = r) (hb : ∀ k, k < 300 → 0 ≤ r k ∧ r k ≤ 9) (hs : S 594 (20 + w) = (g : Int)) (hg : g ≤ 300) : ∀ (f k : Nat), k + f = g → rn xX9_placeOf (4, [some (vR 593), some (vI (w : Int)), some (vI (cnt r k : Int)), some (vI (k : Int))], [], S) = some (some (vI (cnt r g : Int)), S) := by
  have e0 := z_stands (S := S) hw
  rw [hs] at e0
  intro f
  induction f with
  | zero =>
    intro k hk
    have e : k = g := by omega
    subst e
    rw [eX9_placeOf_4]
    simp (disch := omega) only [eX9_placeOf_0, eX9_placeOf_1, eX9_placeOf_2, eX9_placeOf_3, eX9_placeOf_5, eX9_placeOf_6, eX9_placeOf_7, eX9_placeOf_10, eX9_placeOf_13, eX9_placeOf_14, eX9_placeOf_15, eX9_placeOf_16, eX9_placeOf_17, eX9_placeOf_20, eX9_placeOf_23, eX9_placeOf_24, eX9_placeOf_27, eX9_placeOf_28, eX9_placeOf_29, eX9_placeOf_30, eX9_placeOf_33, eX9_placeOf_36, eX9_placeOf_37, if_pos, if_neg, if_true, if_false, Option.bind_some, Option.toList_some, Option.toList_none, List.cons_append, List.nil_append, e0]
  | succ f ih =>
    intro k hk
    have e1 := z_repeats (S := S) (w := w) (k := k) hw (by omega)
    rw [hr] at e1
    have hb1 := hb k (by omega)
    rw [← ih (k + 1) (by omega), eX9_placeOf_4]
    by_cases c : 0 < r k
    · rw [cnt_s1 c]
      simp (disch := omega) only [eX9_placeOf_0, eX9_placeOf_1, eX9_placeOf_2, eX9_placeOf_3, eX9_placeOf_5, eX9_placeOf_6, eX9_placeOf_7, eX9_placeOf_10, eX9_placeOf_13, eX9_placeOf_14, eX9_placeOf_15, eX9_placeOf_16, eX9_placeOf_17, eX9_placeOf_20, eX9_placeOf_23, eX9_placeOf_24, eX9_placeOf_27, eX9_placeOf_28, eX9_placeOf_29, eX9_placeOf_30, eX9_placeOf_33, eX9_placeOf_36, eX9_placeOf_37, if_pos, if_neg, if_true, if_false, Option.bind_some, Option.toList_some, Option.toList_none, List.cons_append, List.nil_append, e0, e1]
      rw [show ((k : Int) + 1) = ((k + 1 : Nat) : Int) by omega, show ∀ x : Nat, ((x : Int) + 1) = ((x + 1 : Nat) : Int) from fun x => by omega]
    · rw [cnt_s0 c]
      simp (disch := omega) only [eX9_placeOf_0, eX9_placeOf_1, eX9_placeOf_2, eX9_placeOf_3, eX9_placeOf_5, eX9_placeOf_6, eX9_placeOf_7, eX9_placeOf_10, eX9_placeOf_13, eX9_placeOf_14, eX9_placeOf_15, eX9_placeOf_16, eX9_placeOf_17, eX9_placeOf_20, eX9_placeOf_23, eX9_placeOf_24, eX9_placeOf_27, eX9_placeOf_28, eX9_placeOf_29, eX9_placeOf_30, eX9_placeOf_33, eX9_placeOf_36, eX9_placeOf_37, if_pos, if_neg, if_true, if_false, Option.bind_some, Option.toList_some, Option.toList_none, List.cons_append, List.nil_append, e0, e1]
      rw [show ((k : Int) + 1) = ((k + 1 : Nat) : Int) by omega, Int.add_zero]
theorem z_placeOf {w : Nat} (hw : w < 3) (h0 : S 594 = A) (ok : AOk A) : fX9_placeOf [vR 593, vI (w : Int)] S = some (some (vI (cnt (RA A w) (A (20 + w)).toNat : Int)), S) := by
  have hs := (ok.2.1.2.2.2.2 w hw).1
  rw [← l_placeOf (S := S) (r := RA A w) (g := (A (20 + w)).toNat) hw (by rw [h0]) (fun k hk => ok.2.2.2.1 w k hw hk) (by rw [h0]; omega) (by omega) (A (20 + w)).toNat 0 (by omega), uX9_placeOf]
  simp (disch := omega) only [eX9_placeOf_0, eX9_placeOf_1, eX9_placeOf_2, eX9_placeOf_3, eX9_placeOf_5, eX9_placeOf_6, eX9_placeOf_7, eX9_placeOf_10, eX9_placeOf_13, eX9_placeOf_14, eX9_placeOf_15, eX9_placeOf_16, eX9_placeOf_17, eX9_placeOf_20, eX9_placeOf_23, eX9_placeOf_24, eX9_placeOf_27, eX9_placeOf_28, eX9_placeOf_29, eX9_placeOf_30, eX9_placeOf_33, eX9_placeOf_36, eX9_placeOf_37, if_pos, if_neg, if_true, if_false, Option.bind_some, Option.toList_some, Option.toList_none, List.cons_append, List.nil_append]
  rfl
theorem zz_ofWalker {w what : Int} (h : MIs S A m H K V P n) (ok : AOk A) (hw : rng w) (hx : rng what) : fX9_ofWalker [vR 593, vI w, vI what] S = some (some (vI (ofW A w what)), S) := by
  obtain ⟨k0, a0, -⟩ := mk
  have e1 := z_isWalker (S := S) hw
  have e2 := z_in (S := S) (a := what) (b := 0) (c := 6) hx ⟨by omega, by omega⟩ ⟨by omega, by omega⟩
  have h0 := h.1
  have n4 : (4 : Int).toNat = 4 := rfl
  have q4 : S 594 4 = A 4 := by rw [h0]
  have hb4 := ok.2.2.1.1
  unfold ofW
  rw [uX9_ofWalker]
  by_cases c : 0 ≤ w ∧ w ≤ 2
  · rw [if_pos c] at e1
    have c' : ¬ ¬ (0 ≤ w ∧ w ≤ 2) := fun y => y c
    rw [if_neg c']
    by_cases d : 0 ≤ what ∧ what ≤ 6
    · rw [if_pos d] at e2
      have d' : ¬ ¬ (0 ≤ what ∧ what ≤ 6) := fun y => y d
      rw [if_neg d']
      obtain ⟨u, rfl⟩ : ∃ u : Nat, w = (u : Int) := ⟨w.toNat, by omega⟩
      rw [Int.toNat_natCast]
      have hu : u < 3 := by omega
      by_cases z : what = 0
      · rw [if_pos z]
        have e3 := z_stonesOf (S := S) hu (by rw [h0]; exact ok.2.2.2.1)
        rw [h0] at e3
        simp (disch := omega) only [eX9_ofWalker_0, eX9_ofWalker_1, eX9_ofWalker_4, eX9_ofWalker_7, eX9_ofWalker_8, eX9_ofWalker_9, eX9_ofWalker_10, eX9_ofWalker_11, eX9_ofWalker_13, eX9_ofWalker_16, eX9_ofWalker_19, eX9_ofWalker_21, eX9_ofWalker_22, eX9_ofWalker_23, eX9_ofWalker_26, eX9_ofWalker_27, eX9_ofWalker_28, eX9_ofWalker_31, eX9_ofWalker_34, eX9_ofWalker_35, eX9_ofWalker_38, eX9_ofWalker_39, eX9_ofWalker_39x, eX9_ofWalker_39y, eX9_ofWalker_40, eX9_ofWalker_43, eX9_ofWalker_45, eX9_ofWalker_48, eX9_ofWalker_49, eX9_ofWalker_50, eX9_ofWalker_51, eX9_ofWalker_54, if_pos, if_neg, if_true, if_false, Option.bind_some, Option.toList_some, Option.toList_none, List.cons_append, List.nil_append, e1, e2, e3]
      · rw [if_neg z]
        by_cases z4 : A 4 = 0
        · rw [if_neg (fun y => y.2 z4)]
          unfold figW
          rw [if_pos z4]
          simp (disch := omega) only [eX9_ofWalker_0, eX9_ofWalker_1, eX9_ofWalker_4, eX9_ofWalker_7, eX9_ofWalker_8, eX9_ofWalker_9, eX9_ofWalker_10, eX9_ofWalker_11, eX9_ofWalker_13, eX9_ofWalker_16, eX9_ofWalker_19, eX9_ofWalker_21, eX9_ofWalker_22, eX9_ofWalker_23, eX9_ofWalker_26, eX9_ofWalker_27, eX9_ofWalker_28, eX9_ofWalker_31, eX9_ofWalker_34, eX9_ofWalker_35, eX9_ofWalker_38, eX9_ofWalker_39, eX9_ofWalker_39x, eX9_ofWalker_39y, eX9_ofWalker_40, eX9_ofWalker_43, eX9_ofWalker_45, eX9_ofWalker_48, eX9_ofWalker_49, eX9_ofWalker_50, eX9_ofWalker_51, eX9_ofWalker_54, if_pos, if_neg, if_true, if_false, Option.bind_some, Option.toList_some, Option.toList_none, List.cons_append, List.nil_append, e1, e2, n4, q4]
        · have key : fX9_ofRunning [vR 593, vI (u : Int), vI what] S = some (some (vI (if what = 1 ∧ A 4 ≠ 0 then (cnt (RA A u) (A (20 + u)).toNat : Int) else figW A u what)), S) := by
            have eS := z_stands (S := S) hu
            rw [h0] at eS
            have hs := (ok.2.1.2.2.2.2 u hu).1
            unfold figW
            rw [if_neg z4, uX9_ofRunning]
            rcases (show what = 1 ∨ what = 2 ∨ what = 3 ∨ what = 4 ∨ what = 5 ∨ what = 6 by omega) with q | q | q | q | q | q
            · subst q
              rw [if_pos ⟨rfl, z4⟩]
              have eP := z_placeOf (S := S) hu h0 ok
              simp (disch := omega) only [eX9_ofRunning_0, eX9_ofRunning_1, eX9_ofRunning_36, eX9_ofRunning_37, eX9_ofRunning_38, eX9_ofRunning_41, eX9_ofRunning_42, eX9_ofRunning_43, eX9_ofRunning_44, eX9_ofRunning_47, eX9_ofRunning_50, eX9_ofRunning_53, eX9_ofRunning_55, eX9_ofRunning_58, eX9_ofRunning_59, eX9_ofRunning_60, eX9_ofRunning_63, eX9_ofRunning_64, eX9_ofRunning_65, eX9_ofRunning_68, eX9_ofRunning_70, eX9_ofRunning_71, eX9_ofRunning_72, eX9_ofRunning_72x, eX9_ofRunning_72y, eX9_ofRunning_73, eX9_ofRunning_74, eX9_ofRunning_75, eX9_ofRunning_78, eX9_ofRunning_80, eX9_ofRunning_81, eX9_ofRunning_82, eX9_ofRunning_82x, eX9_ofRunning_82y, eX9_ofRunning_83, eX9_ofRunning_84, eX9_ofRunning_85, eX9_ofRunning_88, eX9_ofRunning_90, eX9_ofRunning_91, eX9_ofRunning_92, eX9_ofRunning_92x, eX9_ofRunning_92y, eX9_ofRunning_93, eX9_ofRunning_94, eX9_ofRunning_95, eX9_ofRunning_98, eX9_ofRunning_100, eX9_ofRunning_101, eX9_ofRunning_102, eX9_ofRunning_102x, eX9_ofRunning_102y, eX9_ofRunning_103, if_pos, if_neg, if_true, if_false, Option.bind_some, Option.toList_some, Option.toList_none, List.cons_append, List.nil_append, eP]
            · subst q
              rw [if_neg (fun y => absurd y.1 (by decide)), if_pos rfl]
              by_cases t : A (20 + u) = 300
              · rw [if_pos t]
                simp (disch := omega) only [eX9_ofRunning_0, eX9_ofRunning_1, eX9_ofRunning_36, eX9_ofRunning_37, eX9_ofRunning_38, eX9_ofRunning_41, eX9_ofRunning_42, eX9_ofRunning_43, eX9_ofRunning_44, eX9_ofRunning_47, eX9_ofRunning_50, eX9_ofRunning_53, eX9_ofRunning_55, eX9_ofRunning_58, eX9_ofRunning_59, eX9_ofRunning_60, eX9_ofRunning_63, eX9_ofRunning_64, eX9_ofRunning_65, eX9_ofRunning_68, eX9_ofRunning_70, eX9_ofRunning_71, eX9_ofRunning_72, eX9_ofRunning_72x, eX9_ofRunning_72y, eX9_ofRunning_73, eX9_ofRunning_74, eX9_ofRunning_75, eX9_ofRunning_78, eX9_ofRunning_80, eX9_ofRunning_81, eX9_ofRunning_82, eX9_ofRunning_82x, eX9_ofRunning_82y, eX9_ofRunning_83, eX9_ofRunning_84, eX9_ofRunning_85, eX9_ofRunning_88, eX9_ofRunning_90, eX9_ofRunning_91, eX9_ofRunning_92, eX9_ofRunning_92x, eX9_ofRunning_92y, eX9_ofRunning_93, eX9_ofRunning_94, eX9_ofRunning_95, eX9_ofRunning_98, eX9_ofRunning_100, eX9_ofRunning_101, eX9_ofRunning_102, eX9_ofRunning_102x, eX9_ofRunning_102y, eX9_ofRunning_103, if_pos, if_neg, if_true, if_false, Option.bind_some, Option.toList_some, Option.toList_none, List.cons_append, List.nil_append, eS]
              · rw [if_neg t]
                simp (disch := omega) only [eX9_ofRunning_0, eX9_ofRunning_1, eX9_ofRunning_36, eX9_ofRunning_37, eX9_ofRunning_38, eX9_ofRunning_41, eX9_ofRunning_42, eX9_ofRunning_43, eX9_ofRunning_44, eX9_ofRunning_47, eX9_ofRunning_50, eX9_ofRunning_53, eX9_ofRunning_55, eX9_ofRunning_58, eX9_ofRunning_59, eX9_ofRunning_60, eX9_ofRunning_63, eX9_ofRunning_64, eX9_ofRunning_65, eX9_ofRunning_68, eX9_ofRunning_70, eX9_ofRunning_71, eX9_ofRunning_72, eX9_ofRunning_72x, eX9_ofRunning_72y, eX9_ofRunning_73, eX9_ofRunning_74, eX9_ofRunning_75, eX9_ofRunning_78, eX9_ofRunning_80, eX9_ofRunning_81, eX9_ofRunning_82, eX9_ofRunning_82x, eX9_ofRunning_82y, eX9_ofRunning_83, eX9_ofRunning_84, eX9_ofRunning_85, eX9_ofRunning_88, eX9_ofRunning_90, eX9_ofRunning_91, eX9_ofRunning_92, eX9_ofRunning_92x, eX9_ofRunning_92y, eX9_ofRunning_93, eX9_ofRunning_94, eX9_ofRunning_95, eX9_ofRunning_98, eX9_ofRunning_100, eX9_ofRunning_101, eX9_ofRunning_102, eX9_ofRunning_102x, eX9_ofRunning_102y, eX9_ofRunning_103, if_pos, if_neg, if_true, if_false, Option.bind_some, Option.toList_some, Option.toList_none, List.cons_append, List.nil_append, eS]
            · subst q
              have ej : ((8 : Int) + (u : Int)).toNat = 8 + u := by omega
              rw [if_neg (fun y => absurd y.1 (by decide)), if_neg (by decide), if_pos rfl]
              simp (disch := omega) only [eX9_ofRunning_0, eX9_ofRunning_1, eX9_ofRunning_36, eX9_ofRunning_37, eX9_ofRunning_38, eX9_ofRunning_41, eX9_ofRunning_42, eX9_ofRunning_43, eX9_ofRunning_44, eX9_ofRunning_47, eX9_ofRunning_50, eX9_ofRunning_53, eX9_ofRunning_55, eX9_ofRunning_58, eX9_ofRunning_59, eX9_ofRunning_60, eX9_ofRunning_63, eX9_ofRunning_64, eX9_ofRunning_65, eX9_ofRunning_68, eX9_ofRunning_70, eX9_ofRunning_71, eX9_ofRunning_72, eX9_ofRunning_72x, eX9_ofRunning_72y, eX9_ofRunning_73, eX9_ofRunning_74, eX9_ofRunning_75, eX9_ofRunning_78, eX9_ofRunning_80, eX9_ofRunning_81, eX9_ofRunning_82, eX9_ofRunning_82x, eX9_ofRunning_82y, eX9_ofRunning_83, eX9_ofRunning_84, eX9_ofRunning_85, eX9_ofRunning_88, eX9_ofRunning_90, eX9_ofRunning_91, eX9_ofRunning_92, eX9_ofRunning_92x, eX9_ofRunning_92y, eX9_ofRunning_93, eX9_ofRunning_94, eX9_ofRunning_95, eX9_ofRunning_98, eX9_ofRunning_100, eX9_ofRunning_101, eX9_ofRunning_102, eX9_ofRunning_102x, eX9_ofRunning_102y, eX9_ofRunning_103, if_pos, if_neg, if_true, if_false, Option.bind_some, Option.toList_some, Option.toList_none, List.cons_append, List.nil_append, ej]
              rw [h0]
            · subst q
              have ej : ((11 : Int) + (u : Int)).toNat = 11 + u := by omega
              rw [if_neg (fun y => absurd y.1 (by decide)), if_neg (by decide), if_neg (by decide), if_pos rfl]
              simp (disch := omega) only [eX9_ofRunning_0, eX9_ofRunning_1, eX9_ofRunning_36, eX9_ofRunning_37, eX9_ofRunning_38, eX9_ofRunning_41, eX9_ofRunning_42, eX9_ofRunning_43, eX9_ofRunning_44, eX9_ofRunning_47, eX9_ofRunning_50, eX9_ofRunning_53, eX9_ofRunning_55, eX9_ofRunning_58, eX9_ofRunning_59, eX9_ofRunning_60, eX9_ofRunning_63, eX9_ofRunning_64, eX9_ofRunning_65, eX9_ofRunning_68, eX9_ofRunning_70, eX9_ofRunning_71, eX9_ofRunning_72, eX9_ofRunning_72x, eX9_ofRunning_72y, eX9_ofRunning_73, eX9_ofRunning_74, eX9_ofRunning_75, eX9_ofRunning_78, eX9_ofRunning_80, eX9_ofRunning_81, eX9_ofRunning_82, eX9_ofRunning_82x, eX9_ofRunning_82y, eX9_ofRunning_83, eX9_ofRunning_84, eX9_ofRunning_85, eX9_ofRunning_88, eX9_ofRunning_90, eX9_ofRunning_91, eX9_ofRunning_92, eX9_ofRunning_92x, eX9_ofRunning_92y, eX9_ofRunning_93, eX9_ofRunning_94, eX9_ofRunning_95, eX9_ofRunning_98, eX9_ofRunning_100, eX9_ofRunning_101, eX9_ofRunning_102, eX9_ofRunning_102x, eX9_ofRunning_102y, eX9_ofRunning_103, if_pos, if_neg, if_true, if_false, Option.bind_some, Option.toList_some, Option.toList_none, List.cons_append, List.nil_append, ej]
              rw [h0]
            · subst q
              have ej : ((14 : Int) + (u : Int)).toNat = 14 + u := by omega
              rw [if_neg (fun y => absurd y.1 (by decide)), if_neg (by decide), if_neg (by decide), if_neg (by decide), if_pos rfl]
              simp (disch := omega) only [eX9_ofRunning_0, eX9_ofRunning_1, eX9_ofRunning_36, eX9_ofRunning_37, eX9_ofRunning_38, eX9_ofRunning_41, eX9_ofRunning_42, eX9_ofRunning_43, eX9_ofRunning_44, eX9_ofRunning_47, eX9_ofRunning_50, eX9_ofRunning_53, eX9_ofRunning_55, eX9_ofRunning_58, eX9_ofRunning_59, eX9_ofRunning_60, eX9_ofRunning_63, eX9_ofRunning_64, eX9_ofRunning_65, eX9_ofRunning_68, eX9_ofRunning_70, eX9_ofRunning_71, eX9_ofRunning_72, eX9_ofRunning_72x, eX9_ofRunning_72y, eX9_ofRunning_73, eX9_ofRunning_74, eX9_ofRunning_75, eX9_ofRunning_78, eX9_ofRunning_80, eX9_ofRunning_81, eX9_ofRunning_82, eX9_ofRunning_82x, eX9_ofRunning_82y, eX9_ofRunning_83, eX9_ofRunning_84, eX9_ofRunning_85, eX9_ofRunning_88, eX9_ofRunning_90, eX9_ofRunning_91, eX9_ofRunning_92, eX9_ofRunning_92x, eX9_ofRunning_92y, eX9_ofRunning_93, eX9_ofRunning_94, eX9_ofRunning_95, eX9_ofRunning_98, eX9_ofRunning_100, eX9_ofRunning_101, eX9_ofRunning_102, eX9_ofRunning_102x, eX9_ofRunning_102y, eX9_ofRunning_103, if_pos, if_neg, if_true, if_false, Option.bind_some, Option.toList_some, Option.toList_none, List.cons_append, List.nil_append, ej]
              rw [h0]
            · subst q
              have ej : ((17 : Int) + (u : Int)).toNat = 17 + u := by omega
              rw [if_neg (fun y => absurd y.1 (by decide)), if_neg (by decide), if_neg (by decide), if_neg (by decide), if_neg (by decide), if_pos rfl]
              simp (disch := omega) only [eX9_ofRunning_0, eX9_ofRunning_1, eX9_ofRunning_36, eX9_ofRunning_37, eX9_ofRunning_38, eX9_ofRunning_41, eX9_ofRunning_42, eX9_ofRunning_43, eX9_ofRunning_44, eX9_ofRunning_47, eX9_ofRunning_50, eX9_ofRunning_53, eX9_ofRunning_55, eX9_ofRunning_58, eX9_ofRunning_59, eX9_ofRunning_60, eX9_ofRunning_63, eX9_ofRunning_64, eX9_ofRunning_65, eX9_ofRunning_68, eX9_ofRunning_70, eX9_ofRunning_71, eX9_ofRunning_72, eX9_ofRunning_72x, eX9_ofRunning_72y, eX9_ofRunning_73, eX9_ofRunning_74, eX9_ofRunning_75, eX9_ofRunning_78, eX9_ofRunning_80, eX9_ofRunning_81, eX9_ofRunning_82, eX9_ofRunning_82x, eX9_ofRunning_82y, eX9_ofRunning_83, eX9_ofRunning_84, eX9_ofRunning_85, eX9_ofRunning_88, eX9_ofRunning_90, eX9_ofRunning_91, eX9_ofRunning_92, eX9_ofRunning_92x, eX9_ofRunning_92y, eX9_ofRunning_93, eX9_ofRunning_94, eX9_ofRunning_95, eX9_ofRunning_98, eX9_ofRunning_100, eX9_ofRunning_101, eX9_ofRunning_102, eX9_ofRunning_102x, eX9_ofRunning_102y, eX9_ofRunning_103, if_pos, if_neg, if_true, if_false, Option.bind_some, Option.toList_some, Option.toList_none, List.cons_append, List.nil_append, ej]
              rw [h0]
          simp (disch := omega) only [eX9_ofWalker_0, eX9_ofWalker_1, eX9_ofWalker_4, eX9_ofWalker_7, eX9_ofWalker_8, eX9_ofWalker_9, eX9_ofWalker_10, eX9_ofWalker_11, eX9_ofWalker_13, eX9_ofWalker_16, eX9_ofWalker_19, eX9_ofWalker_21, eX9_ofWalker_22, eX9_ofWalker_23, eX9_ofWalker_26, eX9_ofWalker_27, eX9_ofWalker_28, eX9_ofWalker_31, eX9_ofWalker_34, eX9_ofWalker_35, eX9_ofWalker_38, eX9_ofWalker_39, eX9_ofWalker_39x, eX9_ofWalker_39y, eX9_ofWalker_40, eX9_ofWalker_43, eX9_ofWalker_45, eX9_ofWalker_48, eX9_ofWalker_49, eX9_ofWalker_50, eX9_ofWalker_51, eX9_ofWalker_54, if_pos, if_neg, if_true, if_false, Option.bind_some, Option.toList_some, Option.toList_none, List.cons_append, List.nil_append, e1, e2, n4, q4, key]
    · rw [if_neg d] at e2
      rw [if_pos d]
      simp (disch := omega) only [eX9_ofWalker_0, eX9_ofWalker_1, eX9_ofWalker_4, eX9_ofWalker_7, eX9_ofWalker_8, eX9_ofWalker_9, eX9_ofWalker_10, eX9_ofWalker_11, eX9_ofWalker_13, eX9_ofWalker_16, eX9_ofWalker_19, eX9_ofWalker_21, eX9_ofWalker_22, eX9_ofWalker_23, eX9_ofWalker_26, eX9_ofWalker_27, eX9_ofWalker_28, eX9_ofWalker_31, eX9_ofWalker_34, eX9_ofWalker_35, eX9_ofWalker_38, eX9_ofWalker_39, eX9_ofWalker_39x, eX9_ofWalker_39y, eX9_ofWalker_40, eX9_ofWalker_43, eX9_ofWalker_45, eX9_ofWalker_48, eX9_ofWalker_49, eX9_ofWalker_50, eX9_ofWalker_51, eX9_ofWalker_54, if_pos, if_neg, if_true, if_false, Option.bind_some, Option.toList_some, Option.toList_none, List.cons_append, List.nil_append, e1, e2]
  · rw [if_neg c] at e1
    rw [if_pos c]
    simp (disch := omega) only [eX9_ofWalker_0, eX9_ofWalker_1, eX9_ofWalker_4, eX9_ofWalker_7, eX9_ofWalker_8, eX9_ofWalker_9, eX9_ofWalker_10, eX9_ofWalker_11, eX9_ofWalker_13, eX9_ofWalker_16, eX9_ofWalker_19, eX9_ofWalker_21, eX9_ofWalker_22, eX9_ofWalker_23, eX9_ofWalker_26, eX9_ofWalker_27, eX9_ofWalker_28, eX9_ofWalker_31, eX9_ofWalker_34, eX9_ofWalker_35, eX9_ofWalker_38, eX9_ofWalker_39, eX9_ofWalker_39x, eX9_ofWalker_39y, eX9_ofWalker_40, eX9_ofWalker_43, eX9_ofWalker_45, eX9_ofWalker_48, eX9_ofWalker_49, eX9_ofWalker_50, eX9_ofWalker_51, eX9_ofWalker_54, if_pos, if_neg, if_true, if_false, Option.bind_some, Option.toList_some, Option.toList_none, List.cons_append, List.nil_append, e1]
/-! a stone -/
theorem MIs.keys {S' : MM} (h : MIs S A m H K V P n) (j1 : ∀ j, j ≠ 8 → S' 593 j = S 593 j) (f1 : ∀ a, a ≠ 593 → a ≠ 599 → S' a = S a) : MIs S' A m H K V P n ∧ FR S S' :=
  ⟨h.to (by rw [f1 594 (by omega) (by omega)]; exact h.1) (j1 _ (by omega)) (j1 _ (by omega)) (j1 _ (by omega)) (f1 _ (by omega) (by omega)) (f1 _ (by omega) (by omega)) (f1 _ (by omega) (by omega)) (f1 _ (by omega) (by omega)), FR.of (fun a a3 _ _ _ _ _ a9 _ _ => f1 a a3 a9)⟩
theorem zz_ofStone {w j what : Int} {k : Nat} (h : MIs S A m H K V P n) (ok : AOk A) (hw : 0 ≤ w ∧ w ≤ 2) (hk : k < 300) (hp : 0 < RA A w.toNat k) (hj : (cnt (RA A w.toNat) k : Int) = j) (hx : rng what) : ∃ S', fX9_ofStone [vR 593, vI w, vI j, vI what] S = some (some (vI (if what = 0 then (k : Int) else if what = 1 then RA A w.toNat k else -2)), S') ∧ MIs S' A m H K V P n ∧ FR S S' := by
  obtain ⟨k0, a0, -, -, -, -, -, -, -, -, k99, a99, -⟩ := mk
  obtain ⟨u, rfl⟩ : ∃ u : Nat, w = (u : Int) := ⟨w.toNat, by omega⟩
  rw [Int.toNat_natCast] at hp hj ⊢
  have hu : u < 3 := by omega
  have h0 := h.1
  have hR := ok.2.2.2.1
  have h40 := ok.2.2.2.2.1 u hu
  have hlt := cnt_lt hk hp
  subst hj
  obtain ⟨S', e, g8, gE, gj, gf⟩ := z_layKeys (S := S) (r := RA A u) hu (by rw [h0]) (by rw [h0]; exact hR) h40
  obtain ⟨hm, hf⟩ := h.keys gj gf
  have e1 := z_isWalker (S := S) (w := (u : Int)) ⟨by omega, by omega⟩
  rw [if_pos hw] at e1
  have e3 := z_stonesOf (S := S) hu (by rw [h0]; exact hR)
  rw [h0] at e3
  have e2 := z_in (S := S) (a := (cnt (RA A u) k : Int)) (b := 0) (c := (cnt (RA A u) 300 : Int) - 1) ⟨by omega, by omega⟩ ⟨by omega, by omega⟩ ⟨by omega, by omega⟩
  rw [if_pos (by omega)] at e2
  have hK := gE k hk hp
  have e4 := z_repeats (S := S') hu hk
  rw [hm.1] at e4
  refine ⟨S', ?_, hm, hf⟩
  rw [uX9_ofStone]
  by_cases c : what = 0
  · rw [if_pos c]
    simp (disch := omega) only [eX9_ofStone_0, eX9_ofStone_1, eX9_ofStone_4, eX9_ofStone_7, eX9_ofStone_8, eX9_ofStone_9, eX9_ofStone_10, eX9_ofStone_11, eX9_ofStone_14, eX9_ofStone_15, eX9_ofStone_16, eX9_ofStone_19, eX9_ofStone_22, eX9_ofStone_23, eX9_ofStone_24, eX9_ofStone_25, eX9_ofStone_26, eX9_ofStone_29, eX9_ofStone_30, eX9_ofStone_33, eX9_ofStone_34, eX9_ofStone_37, eX9_ofStone_38, eX9_ofStone_38x, eX9_ofStone_38y, eX9_ofStone_39, eX9_ofStone_42, eX9_ofStone_43, eX9_ofStone_44, eX9_ofStone_47, eX9_ofStone_48, eX9_ofStone_49, eX9_ofStone_50, eX9_ofStone_53, eX9_ofStone_54, eX9_ofStone_54x, eX9_ofStone_54y, eX9_ofStone_55, eX9_ofStone_58, eX9_ofStone_61, eX9_ofStone_63, if_pos, if_neg, if_true, if_false, Option.bind_some, Option.toList_some, Option.toList_none, List.cons_append, List.nil_append, e1, e3, e2, e, Int.toNat_natCast, hK]
  · rw [if_neg c]
    by_cases d : what = 1
    · rw [if_pos d]
      simp (disch := omega) only [eX9_ofStone_0, eX9_ofStone_1, eX9_ofStone_4, eX9_ofStone_7, eX9_ofStone_8, eX9_ofStone_9, eX9_ofStone_10, eX9_ofStone_11, eX9_ofStone_14, eX9_ofStone_15, eX9_ofStone_16, eX9_ofStone_19, eX9_ofStone_22, eX9_ofStone_23, eX9_ofStone_24, eX9_ofStone_25, eX9_ofStone_26, eX9_ofStone_29, eX9_ofStone_30, eX9_ofStone_33, eX9_ofStone_34, eX9_ofStone_37, eX9_ofStone_38, eX9_ofStone_38x, eX9_ofStone_38y, eX9_ofStone_39, eX9_ofStone_42, eX9_ofStone_43, eX9_ofStone_44, eX9_ofStone_47, eX9_ofStone_48, eX9_ofStone_49, eX9_ofStone_50, eX9_ofStone_53, eX9_ofStone_54, eX9_ofStone_54x, eX9_ofStone_54y, eX9_ofStone_55, eX9_ofStone_58, eX9_ofStone_61, eX9_ofStone_63, if_pos, if_neg, if_true, if_false, Option.bind_some, Option.toList_some, Option.toList_none, List.cons_append, List.nil_append, e1, e3, e2, e, Int.toNat_natCast, hK, e4]
    · rw [if_neg d]
      obtain ⟨x1, x2⟩ := id hx
      simp (disch := omega) only [eX9_ofStone_0, eX9_ofStone_1, eX9_ofStone_4, eX9_ofStone_7, eX9_ofStone_8, eX9_ofStone_9, eX9_ofStone_10, eX9_ofStone_11, eX9_ofStone_14, eX9_ofStone_15, eX9_ofStone_16, eX9_ofStone_19, eX9_ofStone_22, eX9_ofStone_23, eX9_ofStone_24, eX9_ofStone_25, eX9_ofStone_26, eX9_ofStone_29, eX9_ofStone_30, eX9_ofStone_33, eX9_ofStone_34, eX9_ofStone_37, eX9_ofStone_38, eX9_ofStone_38x, eX9_ofStone_38y, eX9_ofStone_39, eX9_ofStone_42, eX9_ofStone_43, eX9_ofStone_44, eX9_ofStone_47, eX9_ofStone_48, eX9_ofStone_49, eX9_ofStone_50, eX9_ofStone_53, eX9_ofStone_54, eX9_ofStone_54x, eX9_ofStone_54y, eX9_ofStone_55, eX9_ofStone_58, eX9_ofStone_61, eX9_ofStone_63, if_pos, if_neg, if_true, if_false, Option.bind_some, Option.toList_some, Option.toList_none, List.cons_append, List.nil_append, e1, e3, e2, e]
theorem zz_ofStoneX {w j what : Int} (h : MIs S A m H K V P n) (ok : AOk A) (hw : rng w) (hj : rng j) (hn : ¬ ((0 ≤ w ∧ w ≤ 2) ∧ 0 ≤ j ∧ j < cnt (RA A w.toNat) 300)) : fX9_ofStone [vR 593, vI w, vI j, vI what] S = some (some (vI (-1)), S) := by
  have e1 := z_isWalker (S := S) hw
  rw [uX9_ofStone]
  by_cases c : 0 ≤ w ∧ w ≤ 2
  · rw [if_pos c] at e1
    obtain ⟨u, rfl⟩ : ∃ u : Nat, w = (u : Int) := ⟨w.toNat, by omega⟩
    rw [Int.toNat_natCast] at hn
    have hu : u < 3 := by omega
    have h0 := h.1
    have h40 := ok.2.2.2.2.1 u hu
    have e3 := z_stonesOf (S := S) hu (by rw [h0]; exact ok.2.2.2.1)
    rw [h0] at e3
    have e2 := z_in (S := S) (a := j) (b := 0) (c := (cnt (RA A u) 300 : Int) - 1) hj ⟨by omega, by omega⟩ ⟨by omega, by omega⟩
    rw [if_neg (fun y => hn ⟨c, by omega, by omega⟩)] at e2
    simp (disch := omega) only [eX9_ofStone_0, eX9_ofStone_1, eX9_ofStone_4, eX9_ofStone_7, eX9_ofStone_8, eX9_ofStone_9, eX9_ofStone_10, eX9_ofStone_11, eX9_ofStone_14, eX9_ofStone_15, eX9_ofStone_16, eX9_ofStone_19, eX9_ofStone_22, eX9_ofStone_23, eX9_ofStone_24, eX9_ofStone_25, eX9_ofStone_26, eX9_ofStone_29, eX9_ofStone_30, eX9_ofStone_33, eX9_ofStone_34, eX9_ofStone_37, eX9_ofStone_38, eX9_ofStone_38x, eX9_ofStone_38y, eX9_ofStone_39, eX9_ofStone_42, eX9_ofStone_43, eX9_ofStone_44, eX9_ofStone_47, eX9_ofStone_48, eX9_ofStone_49, eX9_ofStone_50, eX9_ofStone_53, eX9_ofStone_54, eX9_ofStone_54x, eX9_ofStone_54y, eX9_ofStone_55, eX9_ofStone_58, eX9_ofStone_61, eX9_ofStone_63, if_pos, if_neg, if_true, if_false, Option.bind_some, Option.toList_some, Option.toList_none, List.cons_append, List.nil_append, e1, e3, e2]
  · rw [if_neg c] at e1
    simp (disch := omega) only [eX9_ofStone_0, eX9_ofStone_1, eX9_ofStone_4, eX9_ofStone_7, eX9_ofStone_8, eX9_ofStone_9, eX9_ofStone_10, eX9_ofStone_11, eX9_ofStone_14, eX9_ofStone_15, eX9_ofStone_16, eX9_ofStone_19, eX9_ofStone_22, eX9_ofStone_23, eX9_ofStone_24, eX9_ofStone_25, eX9_ofStone_26, eX9_ofStone_29, eX9_ofStone_30, eX9_ofStone_33, eX9_ofStone_34, eX9_ofStone_37, eX9_ofStone_38, eX9_ofStone_38x, eX9_ofStone_38y, eX9_ofStone_39, eX9_ofStone_42, eX9_ofStone_43, eX9_ofStone_44, eX9_ofStone_47, eX9_ofStone_48, eX9_ofStone_49, eX9_ofStone_50, eX9_ofStone_53, eX9_ofStone_54, eX9_ofStone_54x, eX9_ofStone_54y, eX9_ofStone_55, eX9_ofStone_58, eX9_ofStone_61, eX9_ofStone_63, if_pos, if_neg, if_true, if_false, Option.bind_some, Option.toList_some, Option.toList_none, List.cons_append, List.nil_append, e1]
/-! the run -/
theorem z_sumOf {j : Nat} (hj : j + 2 < 4825) : fX9_sumOf [vR 593, vI (j : Int)] S = some (some (vI (S 594 j + S 594 (j + 1) + S 594 (j + 2))), S) := by
  obtain ⟨k0, a0, -⟩ := mk
  have e1 : ((j : Int) + 1).toNat = j + 1 := by omega
  have e2 : ((j : Int) + 2).toNat = j + 2 := by omega
  rw [uX9_sumOf]
  simp (disch := omega) only [eX9_sumOf_0, eX9_sumOf_1, eX9_sumOf_4, eX9_sumOf_5, eX9_sumOf_5x, eX9_sumOf_5y, eX9_sumOf_6, eX9_sumOf_7, eX9_sumOf_10, eX9_sumOf_11, eX9_sumOf_12, eX9_sumOf_13, eX9_sumOf_13x, eX9_sumOf_13y, eX9_sumOf_14, eX9_sumOf_15, eX9_sumOf_16, eX9_sumOf_19, eX9_sumOf_20, eX9_sumOf_21, eX9_sumOf_22, eX9_sumOf_22x, eX9_sumOf_22y, eX9_sumOf_23, eX9_sumOf_24, if_pos, if_neg, if_true, if_false, Option.bind_some, Option.toList_some, Option.toList_none, List.cons_append, List.nil_append, Int.toNat_natCast, e1, e2]
theorem l_mMeet {M : Nat → Int} (hM : ∀ k, k < 300 → S 594 (925 + k) = M k) (hb : ∀ k, k < 300 → 0 ≤ M k ∧ M k ≤ 729) : ∀ (f k : Nat), k + f = 300 → rn xX9_meetings (4, [some (vR 593), some (vI (cnt M k : Int)), some (vI (k : Int))], [], S) = some (some (vI (cnt M 300 : Int)), S) := by
  obtain ⟨k0, a0, -⟩ := mk
  intro f
  induction f with
  | zero =>
    intro k hk
    have e : k = 300 := by omega
    subst e
    rw [eX9_meetings_4]
    simp (disch := omega) only [eX9_meetings_0, eX9_meetings_1, eX9_meetings_2, eX9_meetings_3, eX9_meetings_5, eX9_meetings_8, eX9_meetings_11, eX9_meetings_12, eX9_meetings_13, eX9_meetings_16, eX9_meetings_19, eX9_meetings_20, eX9_meetings_21, eX9_meetings_21x, eX9_meetings_21y, eX9_meetings_22, eX9_meetings_25, eX9_meetings_26, eX9_meetings_29, eX9_meetings_30, eX9_meetings_31, eX9_meetings_32, eX9_meetings_35, eX9_meetings_38, eX9_meetings_39, if_pos, if_neg, if_true, if_false, Option.bind_some, Option.toList_some, Option.toList_none, List.cons_append, List.nil_append]
  | succ f ih =>
    intro k hk
    have ej : ((925 : Int) + (k : Int)).toNat = 925 + k := by omega
    have q := hM k (by omega)
    have hb1 := hb k (by omega)
    rw [← ih (k + 1) (by omega), eX9_meetings_4]
    by_cases c : 0 < M k
    · rw [cnt_s1 c]
      simp (disch := omega) only [eX9_meetings_0, eX9_meetings_1, eX9_meetings_2, eX9_meetings_3, eX9_meetings_5, eX9_meetings_8, eX9_meetings_11, eX9_meetings_12, eX9_meetings_13, eX9_meetings_16, eX9_meetings_19, eX9_meetings_20, eX9_meetings_21, eX9_meetings_21x, eX9_meetings_21y, eX9_meetings_22, eX9_meetings_25, eX9_meetings_26, eX9_meetings_29, eX9_meetings_30, eX9_meetings_31, eX9_meetings_32, eX9_meetings_35, eX9_meetings_38, eX9_meetings_39, if_pos, if_neg, if_true, if_false, Option.bind_some, Option.toList_some, Option.toList_none, List.cons_append, List.nil_append, ej, q]
      rw [show ((k : Int) + 1) = ((k + 1 : Nat) : Int) by omega, show ∀ x : Nat, ((x : Int) + 1) = ((x + 1 : Nat) : Int) from fun x => by omega]
    · rw [cnt_s0 c]
      simp (disch := omega) only [eX9_meetings_0, eX9_meetings_1, eX9_meetings_2, eX9_meetings_3, eX9_meetings_5, eX9_meetings_8, eX9_meetings_11, eX9_meetings_12, eX9_meetings_13, eX9_meetings_16, eX9_meetings_19, eX9_meetings_20, eX9_meetings_21, eX9_meetings_21x, eX9_meetings_21y, eX9_meetings_22, eX9_meetings_25, eX9_meetings_26, eX9_meetings_29, eX9_meetings_30, eX9_meetings_31, eX9_meetings_32, eX9_meetings_35, eX9_meetings_38, eX9_meetings_39, if_pos, if_neg, if_true, if_false, Option.bind_some, Option.toList_some, Option.toList_none, List.cons_append, List.nil_append, ej, q]
      rw [show ((k : Int) + 1) = ((k + 1 : Nat) : Int) by omega, Int.add_zero]
theorem l_mRows {M : Nat → Int} (hM : ∀ k, k < 300 → S 594 (925 + k) = M k) (hb : ∀ k, k < 300 → 0 ≤ M k ∧ M k ≤ 729) : ∀ (f k : Nat), k + f = 300 → rn xX9_metRows (4, [some (vR 593), some (vI (sumk M k)), some (vI (k : Int))], [], S) = some (some (vI (sumk M 300)), S) := by
  obtain ⟨k0, a0, -⟩ := mk
  intro f
  induction f with
  | zero =>
    intro k hk
    have e : k = 300 := by omega
    subst e
    rw [eX9_metRows_4]
    simp (disch := omega) only [eX9_metRows_0, eX9_metRows_1, eX9_metRows_2, eX9_metRows_3, eX9_metRows_5, eX9_metRows_8, eX9_metRows_11, eX9_metRows_12, eX9_metRows_13, eX9_metRows_16, eX9_metRows_19, eX9_metRows_20, eX9_metRows_21, eX9_metRows_21x, eX9_metRows_21y, eX9_metRows_22, eX9_metRows_23, eX9_metRows_24, eX9_metRows_27, eX9_metRows_30, eX9_metRows_31, if_pos, if_neg, if_true, if_false, Option.bind_some, Option.toList_some, Option.toList_none, List.cons_append, List.nil_append]
  | succ f ih =>
    intro k hk
    have ej : ((925 : Int) + (k : Int)).toNat = 925 + k := by omega
    have q := hM k (by omega)
    rw [← ih (k + 1) (by omega), eX9_metRows_4, sumk]
    simp (disch := omega) only [eX9_metRows_0, eX9_metRows_1, eX9_metRows_2, eX9_metRows_3, eX9_metRows_5, eX9_metRows_8, eX9_metRows_11, eX9_metRows_12, eX9_metRows_13, eX9_metRows_16, eX9_metRows_19, eX9_metRows_20, eX9_metRows_21, eX9_metRows_21x, eX9_metRows_21y, eX9_metRows_22, eX9_metRows_23, eX9_metRows_24, eX9_metRows_27, eX9_metRows_30, eX9_metRows_31, if_pos, if_neg, if_true, if_false, Option.bind_some, Option.toList_some, Option.toList_none, List.cons_append, List.nil_append, ej, q]
    rw [show ((k : Int) + 1) = ((k + 1 : Nat) : Int) by omega]
theorem zz_ofRun {what : Int} (h : MIs S A m H K V P n) (ok : AOk A) (hx : rng what) : fX9_ofRun [vR 593, vI what] S = some (some (vI (if 0 ≤ what ∧ what ≤ 7 then figR A what else -2)), S) := by
  obtain ⟨k0, a0, -⟩ := mk
  have e2 := z_in (S := S) (a := what) (b := 0) (c := 7) hx ⟨by omega, by omega⟩ ⟨by omega, by omega⟩
  have h0 := h.1
  have n4 : (4 : Int).toNat = 4 := rfl
  have n5 : (5 : Int).toNat = 5 := rfl
  have n6 : (6 : Int).toNat = 6 := rfl
  have q4 : S 594 4 = A 4 := by rw [h0]
  have hb4 := ok.2.2.1.1
  rw [uX9_ofRun]
  by_cases d : 0 ≤ what ∧ what ≤ 7
  · rw [if_pos d] at e2 ⊢
    unfold figR
    by_cases z4 : A 4 = 0
    · rw [if_pos z4]
      simp (disch := omega) only [eX9_ofRun_0, eX9_ofRun_1, eX9_ofRun_2, eX9_ofRun_4, eX9_ofRun_7, eX9_ofRun_10, eX9_ofRun_12, eX9_ofRun_13, eX9_ofRun_14, eX9_ofRun_17, eX9_ofRun_18, eX9_ofRun_18x, eX9_ofRun_18y, eX9_ofRun_19, eX9_ofRun_22, eX9_ofRun_24, eX9_ofRun_25, eX9_ofRun_26, eX9_ofRun_68, eX9_ofRun_69, eX9_ofRun_72, eX9_ofRun_73, eX9_ofRun_73x, eX9_ofRun_73y, eX9_ofRun_74, eX9_ofRun_75, eX9_ofRun_76, eX9_ofRun_77, eX9_ofRun_78, eX9_ofRun_81, eX9_ofRun_82, eX9_ofRun_82x, eX9_ofRun_82y, eX9_ofRun_83, eX9_ofRun_84, eX9_ofRun_85, eX9_ofRun_88, eX9_ofRun_90, eX9_ofRun_90x, eX9_ofRun_90y, eX9_ofRun_91, eX9_ofRun_92, eX9_ofRun_93, eX9_ofRun_96, eX9_ofRun_97, eX9_ofRun_98, eX9_ofRun_101, eX9_ofRun_102, eX9_ofRun_103, eX9_ofRun_105, eX9_ofRun_108, eX9_ofRun_109, eX9_ofRun_110, eX9_ofRun_112, eX9_ofRun_115, eX9_ofRun_116, eX9_ofRun_117, eX9_ofRun_119, eX9_ofRun_122, if_pos, if_neg, if_true, if_false, Option.bind_some, Option.toList_some, Option.toList_none, List.cons_append, List.nil_append, e2, n4, q4]
    · rw [if_neg z4]
      rcases (show what = 0 ∨ what = 1 ∨ what = 2 ∨ what = 3 ∨ what = 4 ∨ what = 5 ∨ what = 6 ∨ what = 7 by omega) with q | q | q | q | q | q | q | q
      · subst q
        rw [if_pos rfl]
        simp (disch := omega) only [eX9_ofRun_0, eX9_ofRun_1, eX9_ofRun_2, eX9_ofRun_4, eX9_ofRun_7, eX9_ofRun_10, eX9_ofRun_12, eX9_ofRun_13, eX9_ofRun_14, eX9_ofRun_17, eX9_ofRun_18, eX9_ofRun_18x, eX9_ofRun_18y, eX9_ofRun_19, eX9_ofRun_22, eX9_ofRun_24, eX9_ofRun_25, eX9_ofRun_26, eX9_ofRun_68, eX9_ofRun_69, eX9_ofRun_72, eX9_ofRun_73, eX9_ofRun_73x, eX9_ofRun_73y, eX9_ofRun_74, eX9_ofRun_75, eX9_ofRun_76, eX9_ofRun_77, eX9_ofRun_78, eX9_ofRun_81, eX9_ofRun_82, eX9_ofRun_82x, eX9_ofRun_82y, eX9_ofRun_83, eX9_ofRun_84, eX9_ofRun_85, eX9_ofRun_88, eX9_ofRun_90, eX9_ofRun_90x, eX9_ofRun_90y, eX9_ofRun_91, eX9_ofRun_92, eX9_ofRun_93, eX9_ofRun_96, eX9_ofRun_97, eX9_ofRun_98, eX9_ofRun_101, eX9_ofRun_102, eX9_ofRun_103, eX9_ofRun_105, eX9_ofRun_108, eX9_ofRun_109, eX9_ofRun_110, eX9_ofRun_112, eX9_ofRun_115, eX9_ofRun_116, eX9_ofRun_117, eX9_ofRun_119, eX9_ofRun_122, if_pos, if_neg, if_true, if_false, Option.bind_some, Option.toList_some, Option.toList_none, List.cons_append, List.nil_append, e2, n4, q4]
      · subst q
        rw [if_neg (by decide), if_pos rfl]
        simp (disch := omega) only [eX9_ofRun_0, eX9_ofRun_1, eX9_ofRun_2, eX9_ofRun_4, eX9_ofRun_7, eX9_ofRun_10, eX9_ofRun_12, eX9_ofRun_13, eX9_ofRun_14, eX9_ofRun_17, eX9_ofRun_18, eX9_ofRun_18x, eX9_ofRun_18y, eX9_ofRun_19, eX9_ofRun_22, eX9_ofRun_24, eX9_ofRun_25, eX9_ofRun_26, eX9_ofRun_68, eX9_ofRun_69, eX9_ofRun_72, eX9_ofRun_73, eX9_ofRun_73x, eX9_ofRun_73y, eX9_ofRun_74, eX9_ofRun_75, eX9_ofRun_76, eX9_ofRun_77, eX9_ofRun_78, eX9_ofRun_81, eX9_ofRun_82, eX9_ofRun_82x, eX9_ofRun_82y, eX9_ofRun_83, eX9_ofRun_84, eX9_ofRun_85, eX9_ofRun_88, eX9_ofRun_90, eX9_ofRun_90x, eX9_ofRun_90y, eX9_ofRun_91, eX9_ofRun_92, eX9_ofRun_93, eX9_ofRun_96, eX9_ofRun_97, eX9_ofRun_98, eX9_ofRun_101, eX9_ofRun_102, eX9_ofRun_103, eX9_ofRun_105, eX9_ofRun_108, eX9_ofRun_109, eX9_ofRun_110, eX9_ofRun_112, eX9_ofRun_115, eX9_ofRun_116, eX9_ofRun_117, eX9_ofRun_119, eX9_ofRun_122, if_pos, if_neg, if_true, if_false, Option.bind_some, Option.toList_some, Option.toList_none, List.cons_append, List.nil_append, e2, n4, q4, n5]
        rw [h0]
      · subst q
        rw [if_neg (by decide), if_neg (by decide), if_pos rfl]
        simp (disch := omega) only [eX9_ofRun_0, eX9_ofRun_1, eX9_ofRun_2, eX9_ofRun_4, eX9_ofRun_7, eX9_ofRun_10, eX9_ofRun_12, eX9_ofRun_13, eX9_ofRun_14, eX9_ofRun_17, eX9_ofRun_18, eX9_ofRun_18x, eX9_ofRun_18y, eX9_ofRun_19, eX9_ofRun_22, eX9_ofRun_24, eX9_ofRun_25, eX9_ofRun_26, eX9_ofRun_68, eX9_ofRun_69, eX9_ofRun_72, eX9_ofRun_73, eX9_ofRun_73x, eX9_ofRun_73y, eX9_ofRun_74, eX9_ofRun_75, eX9_ofRun_76, eX9_ofRun_77, eX9_ofRun_78, eX9_ofRun_81, eX9_ofRun_82, eX9_ofRun_82x, eX9_ofRun_82y, eX9_ofRun_83, eX9_ofRun_84, eX9_ofRun_85, eX9_ofRun_88, eX9_ofRun_90, eX9_ofRun_90x, eX9_ofRun_90y, eX9_ofRun_91, eX9_ofRun_92, eX9_ofRun_93, eX9_ofRun_96, eX9_ofRun_97, eX9_ofRun_98, eX9_ofRun_101, eX9_ofRun_102, eX9_ofRun_103, eX9_ofRun_105, eX9_ofRun_108, eX9_ofRun_109, eX9_ofRun_110, eX9_ofRun_112, eX9_ofRun_115, eX9_ofRun_116, eX9_ofRun_117, eX9_ofRun_119, eX9_ofRun_122, if_pos, if_neg, if_true, if_false, Option.bind_some, Option.toList_some, Option.toList_none, List.cons_append, List.nil_append, e2, n4, q4, n6]
        rw [h0]
      · subst q
        rw [if_neg (by decide), if_neg (by decide), if_neg (by decide), if_pos rfl]
        have e3 : fX9_meetings [vR 593] S = some (some (vI (cnt (MetA A) 300 : Int)), S) := by
          rw [← l_mMeet (S := S) (M := MetA A) (fun k hk => by rw [h0]; rfl) (fun k hk => ok.2.1.2.2.1 k hk) 300 0 rfl, uX9_meetings]
          simp (disch := omega) only [eX9_meetings_0, eX9_meetings_1, eX9_meetings_2, eX9_meetings_3, eX9_meetings_5, eX9_meetings_8, eX9_meetings_11, eX9_meetings_12, eX9_meetings_13, eX9_meetings_16, eX9_meetings_19, eX9_meetings_20, eX9_meetings_21, eX9_meetings_21x, eX9_meetings_21y, eX9_meetings_22, eX9_meetings_25, eX9_meetings_26, eX9_meetings_29, eX9_meetings_30, eX9_meetings_31, eX9_meetings_32, eX9_meetings_35, eX9_meetings_38, eX9_meetings_39, if_pos, if_neg, if_true, if_false, Option.bind_some, Option.toList_some, Option.toList_none, List.cons_append, List.nil_append]
          rfl
        simp (disch := omega) only [eX9_ofRun_0, eX9_ofRun_1, eX9_ofRun_2, eX9_ofRun_4, eX9_ofRun_7, eX9_ofRun_10, eX9_ofRun_12, eX9_ofRun_13, eX9_ofRun_14, eX9_ofRun_17, eX9_ofRun_18, eX9_ofRun_18x, eX9_ofRun_18y, eX9_ofRun_19, eX9_ofRun_22, eX9_ofRun_24, eX9_ofRun_25, eX9_ofRun_26, eX9_ofRun_68, eX9_ofRun_69, eX9_ofRun_72, eX9_ofRun_73, eX9_ofRun_73x, eX9_ofRun_73y, eX9_ofRun_74, eX9_ofRun_75, eX9_ofRun_76, eX9_ofRun_77, eX9_ofRun_78, eX9_ofRun_81, eX9_ofRun_82, eX9_ofRun_82x, eX9_ofRun_82y, eX9_ofRun_83, eX9_ofRun_84, eX9_ofRun_85, eX9_ofRun_88, eX9_ofRun_90, eX9_ofRun_90x, eX9_ofRun_90y, eX9_ofRun_91, eX9_ofRun_92, eX9_ofRun_93, eX9_ofRun_96, eX9_ofRun_97, eX9_ofRun_98, eX9_ofRun_101, eX9_ofRun_102, eX9_ofRun_103, eX9_ofRun_105, eX9_ofRun_108, eX9_ofRun_109, eX9_ofRun_110, eX9_ofRun_112, eX9_ofRun_115, eX9_ofRun_116, eX9_ofRun_117, eX9_ofRun_119, eX9_ofRun_122, if_pos, if_neg, if_true, if_false, Option.bind_some, Option.toList_some, Option.toList_none, List.cons_append, List.nil_append, e2, n4, q4, e3]
      · subst q
        rw [if_neg (by decide), if_neg (by decide), if_neg (by decide), if_neg (by decide), if_pos rfl]
        have e3 : fX9_metRows [vR 593] S = some (some (vI (sumk (MetA A) 300)), S) := by
          rw [← l_mRows (S := S) (M := MetA A) (fun k hk => by rw [h0]; rfl) (fun k hk => ok.2.1.2.2.1 k hk) 300 0 rfl, uX9_metRows]
          simp (disch := omega) only [eX9_metRows_0, eX9_metRows_1, eX9_metRows_2, eX9_metRows_3, eX9_metRows_5, eX9_metRows_8, eX9_metRows_11, eX9_metRows_12, eX9_metRows_13, eX9_metRows_16, eX9_metRows_19, eX9_metRows_20, eX9_metRows_21, eX9_metRows_21x, eX9_metRows_21y, eX9_metRows_22, eX9_metRows_23, eX9_metRows_24, eX9_metRows_27, eX9_metRows_30, eX9_metRows_31, if_pos, if_neg, if_true, if_false, Option.bind_some, Option.toList_some, Option.toList_none, List.cons_append, List.nil_append]
          rfl
        simp (disch := omega) only [eX9_ofRun_0, eX9_ofRun_1, eX9_ofRun_2, eX9_ofRun_4, eX9_ofRun_7, eX9_ofRun_10, eX9_ofRun_12, eX9_ofRun_13, eX9_ofRun_14, eX9_ofRun_17, eX9_ofRun_18, eX9_ofRun_18x, eX9_ofRun_18y, eX9_ofRun_19, eX9_ofRun_22, eX9_ofRun_24, eX9_ofRun_25, eX9_ofRun_26, eX9_ofRun_68, eX9_ofRun_69, eX9_ofRun_72, eX9_ofRun_73, eX9_ofRun_73x, eX9_ofRun_73y, eX9_ofRun_74, eX9_ofRun_75, eX9_ofRun_76, eX9_ofRun_77, eX9_ofRun_78, eX9_ofRun_81, eX9_ofRun_82, eX9_ofRun_82x, eX9_ofRun_82y, eX9_ofRun_83, eX9_ofRun_84, eX9_ofRun_85, eX9_ofRun_88, eX9_ofRun_90, eX9_ofRun_90x, eX9_ofRun_90y, eX9_ofRun_91, eX9_ofRun_92, eX9_ofRun_93, eX9_ofRun_96, eX9_ofRun_97, eX9_ofRun_98, eX9_ofRun_101, eX9_ofRun_102, eX9_ofRun_103, eX9_ofRun_105, eX9_ofRun_108, eX9_ofRun_109, eX9_ofRun_110, eX9_ofRun_112, eX9_ofRun_115, eX9_ofRun_116, eX9_ofRun_117, eX9_ofRun_119, eX9_ofRun_122, if_pos, if_neg, if_true, if_false, Option.bind_some, Option.toList_some, Option.toList_none, List.cons_append, List.nil_append, e2, n4, q4, e3]
      · subst q
        rw [if_neg (by decide), if_neg (by decide), if_neg (by decide), if_neg (by decide), if_neg (by decide), if_pos rfl]
        have e3 := z_sumOf (S := S) (j := 8) (by omega)
        rw [h0, show ((8 : Nat) : Int) = 8 from rfl] at e3
        simp (disch := omega) only [eX9_ofRun_0, eX9_ofRun_1, eX9_ofRun_2, eX9_ofRun_4, eX9_ofRun_7, eX9_ofRun_10, eX9_ofRun_12, eX9_ofRun_13, eX9_ofRun_14, eX9_ofRun_17, eX9_ofRun_18, eX9_ofRun_18x, eX9_ofRun_18y, eX9_ofRun_19, eX9_ofRun_22, eX9_ofRun_24, eX9_ofRun_25, eX9_ofRun_26, eX9_ofRun_68, eX9_ofRun_69, eX9_ofRun_72, eX9_ofRun_73, eX9_ofRun_73x, eX9_ofRun_73y, eX9_ofRun_74, eX9_ofRun_75, eX9_ofRun_76, eX9_ofRun_77, eX9_ofRun_78, eX9_ofRun_81, eX9_ofRun_82, eX9_ofRun_82x, eX9_ofRun_82y, eX9_ofRun_83, eX9_ofRun_84, eX9_ofRun_85, eX9_ofRun_88, eX9_ofRun_90, eX9_ofRun_90x, eX9_ofRun_90y, eX9_ofRun_91, eX9_ofRun_92, eX9_ofRun_93, eX9_ofRun_96, eX9_ofRun_97, eX9_ofRun_98, eX9_ofRun_101, eX9_ofRun_102, eX9_ofRun_103, eX9_ofRun_105, eX9_ofRun_108, eX9_ofRun_109, eX9_ofRun_110, eX9_ofRun_112, eX9_ofRun_115, eX9_ofRun_116, eX9_ofRun_117, eX9_ofRun_119, eX9_ofRun_122, if_pos, if_neg, if_true, if_false, Option.bind_some, Option.toList_some, Option.toList_none, List.cons_append, List.nil_append, e2, n4, q4, e3]
      · subst q
        rw [if_neg (by decide), if_neg (by decide), if_neg (by decide), if_neg (by decide), if_neg (by decide), if_neg (by decide), if_pos rfl]
        have e3 := z_sumOf (S := S) (j := 11) (by omega)
        rw [h0, show ((11 : Nat) : Int) = 11 from rfl] at e3
        simp (disch := omega) only [eX9_ofRun_0, eX9_ofRun_1, eX9_ofRun_2, eX9_ofRun_4, eX9_ofRun_7, eX9_ofRun_10, eX9_ofRun_12, eX9_ofRun_13, eX9_ofRun_14, eX9_ofRun_17, eX9_ofRun_18, eX9_ofRun_18x, eX9_ofRun_18y, eX9_ofRun_19, eX9_ofRun_22, eX9_ofRun_24, eX9_ofRun_25, eX9_ofRun_26, eX9_ofRun_68, eX9_ofRun_69, eX9_ofRun_72, eX9_ofRun_73, eX9_ofRun_73x, eX9_ofRun_73y, eX9_ofRun_74, eX9_ofRun_75, eX9_ofRun_76, eX9_ofRun_77, eX9_ofRun_78, eX9_ofRun_81, eX9_ofRun_82, eX9_ofRun_82x, eX9_ofRun_82y, eX9_ofRun_83, eX9_ofRun_84, eX9_ofRun_85, eX9_ofRun_88, eX9_ofRun_90, eX9_ofRun_90x, eX9_ofRun_90y, eX9_ofRun_91, eX9_ofRun_92, eX9_ofRun_93, eX9_ofRun_96, eX9_ofRun_97, eX9_ofRun_98, eX9_ofRun_101, eX9_ofRun_102, eX9_ofRun_103, eX9_ofRun_105, eX9_ofRun_108, eX9_ofRun_109, eX9_ofRun_110, eX9_ofRun_112, eX9_ofRun_115, eX9_ofRun_116, eX9_ofRun_117, eX9_ofRun_119, eX9_ofRun_122, if_pos, if_neg, if_true, if_false, Option.bind_some, Option.toList_some, Option.toList_none, List.cons_append, List.nil_append, e2, n4, q4, e3]
      · subst q
        rw [if_neg (by decide), if_neg (by decide), if_neg (by decide), if_neg (by decide), if_neg (by decide), if_neg (by decide), if_neg (by decide)]
        have e3 := z_sumOf (S := S) (j := 14) (by omega)
        rw [h0, show ((14 : Nat) : Int) = 14 from rfl] at e3
        simp (disch := omega) only [eX9_ofRun_0, eX9_ofRun_1, eX9_ofRun_2, eX9_ofRun_4, eX9_ofRun_7, eX9_ofRun_10, eX9_ofRun_12, eX9_ofRun_13, eX9_ofRun_14, eX9_ofRun_17, eX9_ofRun_18, eX9_ofRun_18x, eX9_ofRun_18y, eX9_ofRun_19, eX9_ofRun_22, eX9_ofRun_24, eX9_ofRun_25, eX9_ofRun_26, eX9_ofRun_68, eX9_ofRun_69, eX9_ofRun_72, eX9_ofRun_73, eX9_ofRun_73x, eX9_ofRun_73y, eX9_ofRun_74, eX9_ofRun_75, eX9_ofRun_76, eX9_ofRun_77, eX9_ofRun_78, eX9_ofRun_81, eX9_ofRun_82, eX9_ofRun_82x, eX9_ofRun_82y, eX9_ofRun_83, eX9_ofRun_84, eX9_ofRun_85, eX9_ofRun_88, eX9_ofRun_90, eX9_ofRun_90x, eX9_ofRun_90y, eX9_ofRun_91, eX9_ofRun_92, eX9_ofRun_93, eX9_ofRun_96, eX9_ofRun_97, eX9_ofRun_98, eX9_ofRun_101, eX9_ofRun_102, eX9_ofRun_103, eX9_ofRun_105, eX9_ofRun_108, eX9_ofRun_109, eX9_ofRun_110, eX9_ofRun_112, eX9_ofRun_115, eX9_ofRun_116, eX9_ofRun_117, eX9_ofRun_119, eX9_ofRun_122, if_pos, if_neg, if_true, if_false, Option.bind_some, Option.toList_some, Option.toList_none, List.cons_append, List.nil_append, e2, n4, q4, e3]
  · rw [if_neg d] at e2 ⊢
    simp (disch := omega) only [eX9_ofRun_0, eX9_ofRun_1, eX9_ofRun_2, eX9_ofRun_4, eX9_ofRun_7, eX9_ofRun_10, eX9_ofRun_12, eX9_ofRun_13, eX9_ofRun_14, eX9_ofRun_17, eX9_ofRun_18, eX9_ofRun_18x, eX9_ofRun_18y, eX9_ofRun_19, eX9_ofRun_22, eX9_ofRun_24, eX9_ofRun_25, eX9_ofRun_26, eX9_ofRun_68, eX9_ofRun_69, eX9_ofRun_72, eX9_ofRun_73, eX9_ofRun_73x, eX9_ofRun_73y, eX9_ofRun_74, eX9_ofRun_75, eX9_ofRun_76, eX9_ofRun_77, eX9_ofRun_78, eX9_ofRun_81, eX9_ofRun_82, eX9_ofRun_82x, eX9_ofRun_82y, eX9_ofRun_83, eX9_ofRun_84, eX9_ofRun_85, eX9_ofRun_88, eX9_ofRun_90, eX9_ofRun_90x, eX9_ofRun_90y, eX9_ofRun_91, eX9_ofRun_92, eX9_ofRun_93, eX9_ofRun_96, eX9_ofRun_97, eX9_ofRun_98, eX9_ofRun_101, eX9_ofRun_102, eX9_ofRun_103, eX9_ofRun_105, eX9_ofRun_108, eX9_ofRun_109, eX9_ofRun_110, eX9_ofRun_112, eX9_ofRun_115, eX9_ofRun_116, eX9_ofRun_117, eX9_ofRun_119, eX9_ofRun_122, if_pos, if_neg, if_true, if_false, Option.bind_some, Option.toList_some, Option.toList_none, List.cons_append, List.nil_append, e2]
/-! a meeting -/
theorem st_meet {M : Nat → Int} {j what : Int} {k : Nat} (hM : S 594 (925 + k) = M k) (hb : 0 ≤ M k ∧ M k ≤ 729) (hk : k < 300) (hj : rng j) (hn : ¬ 0 < M k ∨ j ≠ (cnt M k : Int)) : rn xX9_meeting (5, [some (vR 593), some (vI j), some (vI what), some (vI ((cnt M k : Int) - 1)), some (vI (k : Int))], [], S) = rn xX9_meeting (5, [some (vR 593), some (vI j), some (vI what), some (vI ((cnt M (k + 1) : Int) - 1)), some (vI ((k + 1 : Nat) : Int))], [], S) := by
  obtain ⟨k0, a0, -⟩ := mk
  have ej : ((925 : Int) + (k : Int)).toNat = 925 + k := by omega
  have hle := cnt_le M k
  obtain ⟨j1, j2⟩ := id hj
  rw [eX9_meeting_5]
  by_cases c : 0 < M k
  · have hne : j ≠ (cnt M k : Int) := by
      rcases hn with y | y
      · exact absurd c y
      · exact y
    rw [cnt_s1 c]
    simp (disch := omega) only [eX9_meeting_0, eX9_meeting_1, eX9_meeting_2, eX9_meeting_3, eX9_meeting_7, eX9_meeting_10, eX9_meeting_13, eX9_meeting_14, eX9_meeting_15, eX9_meeting_18, eX9_meeting_21, eX9_meeting_23, eX9_meeting_24, eX9_meeting_24x, eX9_meeting_24y, eX9_meeting_25, eX9_meeting_28, eX9_meeting_29, eX9_meeting_32, eX9_meeting_33, eX9_meeting_34, eX9_meeting_35, eX9_meeting_36, eX9_meeting_37, eX9_meeting_40, eX9_meeting_41, eX9_meeting_44, eX9_meeting_47, eX9_meeting_49, eX9_meeting_50, eX9_meeting_50x, eX9_meeting_50y, eX9_meeting_51, eX9_meeting_54, eX9_meeting_55, eX9_meeting_58, eX9_meeting_60, eX9_meeting_63, eX9_meeting_64, eX9_meeting_65, eX9_meeting_68, eX9_meeting_69, eX9_meeting_72, eX9_meeting_75, eX9_meeting_77, eX9_meeting_78, eX9_meeting_78x, eX9_meeting_78y, eX9_meeting_79, eX9_meeting_82, eX9_meeting_84, eX9_meeting_85, eX9_meeting_88, eX9_meeting_91, eX9_meeting_92, if_pos, if_neg, if_true, if_false, Option.bind_some, Option.toList_some, Option.toList_none, List.cons_append, List.nil_append, ej, hM]
    rw [show ((k : Int) + 1) = ((k + 1 : Nat) : Int) by omega, show (cnt M k : Int) - 1 + 1 = ((cnt M k + 1 : Nat) : Int) - 1 by omega]
  · rw [cnt_s0 c]
    by_cases z : j = (cnt M k : Int) - 1
    · simp (disch := omega) only [eX9_meeting_0, eX9_meeting_1, eX9_meeting_2, eX9_meeting_3, eX9_meeting_7, eX9_meeting_10, eX9_meeting_13, eX9_meeting_14, eX9_meeting_15, eX9_meeting_18, eX9_meeting_21, eX9_meeting_23, eX9_meeting_24, eX9_meeting_24x, eX9_meeting_24y, eX9_meeting_25, eX9_meeting_28, eX9_meeting_29, eX9_meeting_32, eX9_meeting_33, eX9_meeting_34, eX9_meeting_35, eX9_meeting_36, eX9_meeting_37, eX9_meeting_40, eX9_meeting_41, eX9_meeting_44, eX9_meeting_47, eX9_meeting_49, eX9_meeting_50, eX9_meeting_50x, eX9_meeting_50y, eX9_meeting_51, eX9_meeting_54, eX9_meeting_55, eX9_meeting_58, eX9_meeting_60, eX9_meeting_63, eX9_meeting_64, eX9_meeting_65, eX9_meeting_68, eX9_meeting_69, eX9_meeting_72, eX9_meeting_75, eX9_meeting_77, eX9_meeting_78, eX9_meeting_78x, eX9_meeting_78y, eX9_meeting_79, eX9_meeting_82, eX9_meeting_84, eX9_meeting_85, eX9_meeting_88, eX9_meeting_91, eX9_meeting_92, if_pos, if_neg, if_true, if_false, Option.bind_some, Option.toList_some, Option.toList_none, List.cons_append, List.nil_append, ej, hM]
      rw [show ((k : Int) + 1) = ((k + 1 : Nat) : Int) by omega, Int.add_zero]
    · simp (disch := omega) only [eX9_meeting_0, eX9_meeting_1, eX9_meeting_2, eX9_meeting_3, eX9_meeting_7, eX9_meeting_10, eX9_meeting_13, eX9_meeting_14, eX9_meeting_15, eX9_meeting_18, eX9_meeting_21, eX9_meeting_23, eX9_meeting_24, eX9_meeting_24x, eX9_meeting_24y, eX9_meeting_25, eX9_meeting_28, eX9_meeting_29, eX9_meeting_32, eX9_meeting_33, eX9_meeting_34, eX9_meeting_35, eX9_meeting_36, eX9_meeting_37, eX9_meeting_40, eX9_meeting_41, eX9_meeting_44, eX9_meeting_47, eX9_meeting_49, eX9_meeting_50, eX9_meeting_50x, eX9_meeting_50y, eX9_meeting_51, eX9_meeting_54, eX9_meeting_55, eX9_meeting_58, eX9_meeting_60, eX9_meeting_63, eX9_meeting_64, eX9_meeting_65, eX9_meeting_68, eX9_meeting_69, eX9_meeting_72, eX9_meeting_75, eX9_meeting_77, eX9_meeting_78, eX9_meeting_78x, eX9_meeting_78y, eX9_meeting_79, eX9_meeting_82, eX9_meeting_84, eX9_meeting_85, eX9_meeting_88, eX9_meeting_91, eX9_meeting_92, if_pos, if_neg, if_true, if_false, Option.bind_some, Option.toList_some, Option.toList_none, List.cons_append, List.nil_append, ej, hM]
      rw [show ((k : Int) + 1) = ((k + 1 : Nat) : Int) by omega, Int.add_zero]
theorem l_meet {M : Nat → Int} {j what : Int} (hM : ∀ k, k < 300 → S 594 (925 + k) = M k) (hb : ∀ k, k < 300 → 0 ≤ M k ∧ M k ≤ 729) (hj : rng j) {e : Nat} (he : e ≤ 300) (hn : ∀ k, k < e → 0 < M k → j ≠ (cnt M k : Int)) : ∀ (f k : Nat), k + f = e → rn xX9_meeting (5, [some (vR 593), some (vI j), some (vI what), some (vI ((cnt M k : Int) - 1)), some (vI (k : Int))], [], S) = rn xX9_meeting (5, [some (vR 593), some (vI j), some (vI what), some (vI ((cnt M e : Int) - 1)), some (vI (e : Int))], [], S) := by
  intro f
  induction f with
  | zero =>
    intro k hk
    have q : k = e := by omega
    rw [q]
  | succ f ih =>
    intro k hk
    rw [st_meet (hM k (by omega)) (hb k (by omega)) (by omega) hj (by
      by_cases c : 0 < M k
      · exact Or.inr (hn k (by omega) c)
      · exact Or.inl c), ih (k + 1) (by omega)]
theorem zz_meeting {j what : Int} {k : Nat} (h : MIs S A m H K V P n) (ok : AOk A) (hk : k < 300) (hp : 0 < MetA A k) (hj : (cnt (MetA A) k : Int) = j) (hx : rng what) : fX9_meeting [vR 593, vI j, vI what] S = some (some (vI (if what = 0 then (k : Int) else if what = 1 then MetA A k else -2)), S) := by
  obtain ⟨k0, a0, -⟩ := mk
  have h0 := h.1
  have hle := cnt_le (MetA A) k
  have hM : ∀ k, k < 300 → S 594 (925 + k) = MetA A k := fun k hk => by rw [h0]; rfl
  have e := l_meet (S := S) (M := MetA A) (j := j) (what := what) hM (fun k hk => ok.2.1.2.2.1 k hk) ⟨by omega, by omega⟩ (e := k) (by omega) (fun i hi hp2 y => by
    have := cnt_lt hi hp2
    omega) k 0 (by omega)
  have ej : ((925 : Int) + (k : Int)).toNat = 925 + k := by omega
  have q := hM k hk
  have hb := ok.2.1.2.2.1 k hk
  rw [show (cnt (MetA A) 0 : Int) - 1 = -1 from rfl, show ((0 : Nat) : Int) = 0 from rfl] at e
  subst hj
  rw [uX9_meeting]
  simp (disch := omega) only [eX9_meeting_0, eX9_meeting_1, eX9_meeting_2, eX9_meeting_3, eX9_meeting_7, eX9_meeting_10, eX9_meeting_13, eX9_meeting_14, eX9_meeting_15, eX9_meeting_18, eX9_meeting_21, eX9_meeting_23, eX9_meeting_24, eX9_meeting_24x, eX9_meeting_24y, eX9_meeting_25, eX9_meeting_28, eX9_meeting_29, eX9_meeting_32, eX9_meeting_33, eX9_meeting_34, eX9_meeting_35, eX9_meeting_36, eX9_meeting_37, eX9_meeting_40, eX9_meeting_41, eX9_meeting_44, eX9_meeting_47, eX9_meeting_49, eX9_meeting_50, eX9_meeting_50x, eX9_meeting_50y, eX9_meeting_51, eX9_meeting_54, eX9_meeting_55, eX9_meeting_58, eX9_meeting_60, eX9_meeting_63, eX9_meeting_64, eX9_meeting_65, eX9_meeting_68, eX9_meeting_69, eX9_meeting_72, eX9_meeting_75, eX9_meeting_77, eX9_meeting_78, eX9_meeting_78x, eX9_meeting_78y, eX9_meeting_79, eX9_meeting_82, eX9_meeting_84, eX9_meeting_85, eX9_meeting_88, eX9_meeting_91, eX9_meeting_92, if_pos, if_neg, if_true, if_false, Option.bind_some, Option.toList_some, Option.toList_none, List.cons_append, List.nil_append]
  rw [e, eX9_meeting_5]
  obtain ⟨x1, x2⟩ := id hx
  by_cases c : what = 0
  · rw [if_pos c]
    simp (disch := omega) only [eX9_meeting_0, eX9_meeting_1, eX9_meeting_2, eX9_meeting_3, eX9_meeting_7, eX9_meeting_10, eX9_meeting_13, eX9_meeting_14, eX9_meeting_15, eX9_meeting_18, eX9_meeting_21, eX9_meeting_23, eX9_meeting_24, eX9_meeting_24x, eX9_meeting_24y, eX9_meeting_25, eX9_meeting_28, eX9_meeting_29, eX9_meeting_32, eX9_meeting_33, eX9_meeting_34, eX9_meeting_35, eX9_meeting_36, eX9_meeting_37, eX9_meeting_40, eX9_meeting_41, eX9_meeting_44, eX9_meeting_47, eX9_meeting_49, eX9_meeting_50, eX9_meeting_50x, eX9_meeting_50y, eX9_meeting_51, eX9_meeting_54, eX9_meeting_55, eX9_meeting_58, eX9_meeting_60, eX9_meeting_63, eX9_meeting_64, eX9_meeting_65, eX9_meeting_68, eX9_meeting_69, eX9_meeting_72, eX9_meeting_75, eX9_meeting_77, eX9_meeting_78, eX9_meeting_78x, eX9_meeting_78y, eX9_meeting_79, eX9_meeting_82, eX9_meeting_84, eX9_meeting_85, eX9_meeting_88, eX9_meeting_91, eX9_meeting_92, if_pos, if_neg, if_true, if_false, Option.bind_some, Option.toList_some, Option.toList_none, List.cons_append, List.nil_append, ej, q]
  · rw [if_neg c]
    by_cases d : what = 1
    · rw [if_pos d]
      simp (disch := omega) only [eX9_meeting_0, eX9_meeting_1, eX9_meeting_2, eX9_meeting_3, eX9_meeting_7, eX9_meeting_10, eX9_meeting_13, eX9_meeting_14, eX9_meeting_15, eX9_meeting_18, eX9_meeting_21, eX9_meeting_23, eX9_meeting_24, eX9_meeting_24x, eX9_meeting_24y, eX9_meeting_25, eX9_meeting_28, eX9_meeting_29, eX9_meeting_32, eX9_meeting_33, eX9_meeting_34, eX9_meeting_35, eX9_meeting_36, eX9_meeting_37, eX9_meeting_40, eX9_meeting_41, eX9_meeting_44, eX9_meeting_47, eX9_meeting_49, eX9_meeting_50, eX9_meeting_50x, eX9_meeting_50y, eX9_meeting_51, eX9_meeting_54, eX9_meeting_55, eX9_meeting_58, eX9_meeting_60, eX9_meeting_63, eX9_meeting_64, eX9_meeting_65, eX9_meeting_68, eX9_meeting_69, eX9_meeting_72, eX9_meeting_75, eX9_meeting_77, eX9_meeting_78, eX9_meeting_78x, eX9_meeting_78y, eX9_meeting_79, eX9_meeting_82, eX9_meeting_84, eX9_meeting_85, eX9_meeting_88, eX9_meeting_91, eX9_meeting_92, if_pos, if_neg, if_true, if_false, Option.bind_some, Option.toList_some, Option.toList_none, List.cons_append, List.nil_append, ej, q]
    · rw [if_neg d]
      simp (disch := omega) only [eX9_meeting_0, eX9_meeting_1, eX9_meeting_2, eX9_meeting_3, eX9_meeting_7, eX9_meeting_10, eX9_meeting_13, eX9_meeting_14, eX9_meeting_15, eX9_meeting_18, eX9_meeting_21, eX9_meeting_23, eX9_meeting_24, eX9_meeting_24x, eX9_meeting_24y, eX9_meeting_25, eX9_meeting_28, eX9_meeting_29, eX9_meeting_32, eX9_meeting_33, eX9_meeting_34, eX9_meeting_35, eX9_meeting_36, eX9_meeting_37, eX9_meeting_40, eX9_meeting_41, eX9_meeting_44, eX9_meeting_47, eX9_meeting_49, eX9_meeting_50, eX9_meeting_50x, eX9_meeting_50y, eX9_meeting_51, eX9_meeting_54, eX9_meeting_55, eX9_meeting_58, eX9_meeting_60, eX9_meeting_63, eX9_meeting_64, eX9_meeting_65, eX9_meeting_68, eX9_meeting_69, eX9_meeting_72, eX9_meeting_75, eX9_meeting_77, eX9_meeting_78, eX9_meeting_78x, eX9_meeting_78y, eX9_meeting_79, eX9_meeting_82, eX9_meeting_84, eX9_meeting_85, eX9_meeting_88, eX9_meeting_91, eX9_meeting_92, if_pos, if_neg, if_true, if_false, Option.bind_some, Option.toList_some, Option.toList_none, List.cons_append, List.nil_append, ej, q]
theorem zz_meetingX {j what : Int} (h : MIs S A m H K V P n) (ok : AOk A) (hj : rng j) (hn : ¬ (0 ≤ j ∧ j < cnt (MetA A) 300)) : fX9_meeting [vR 593, vI j, vI what] S = some (some (vI (-1)), S) := by
  have h0 := h.1
  have e := l_meet (S := S) (M := MetA A) (j := j) (what := what) (fun k hk => by rw [h0]; rfl) (fun k hk => ok.2.1.2.2.1 k hk) hj (e := 300) (by omega) (fun i hi hp2 y => by
    have := cnt_lt hi hp2
    omega) 300 0 (by omega)
  rw [show (cnt (MetA A) 0 : Int) - 1 = -1 from rfl, show ((0 : Nat) : Int) = 0 from rfl] at e
  rw [uX9_meeting]
  simp (disch := omega) only [eX9_meeting_0, eX9_meeting_1, eX9_meeting_2, eX9_meeting_3, eX9_meeting_7, eX9_meeting_10, eX9_meeting_13, eX9_meeting_14, eX9_meeting_15, eX9_meeting_18, eX9_meeting_21, eX9_meeting_23, eX9_meeting_24, eX9_meeting_24x, eX9_meeting_24y, eX9_meeting_25, eX9_meeting_28, eX9_meeting_29, eX9_meeting_32, eX9_meeting_33, eX9_meeting_34, eX9_meeting_35, eX9_meeting_36, eX9_meeting_37, eX9_meeting_40, eX9_meeting_41, eX9_meeting_44, eX9_meeting_47, eX9_meeting_49, eX9_meeting_50, eX9_meeting_50x, eX9_meeting_50y, eX9_meeting_51, eX9_meeting_54, eX9_meeting_55, eX9_meeting_58, eX9_meeting_60, eX9_meeting_63, eX9_meeting_64, eX9_meeting_65, eX9_meeting_68, eX9_meeting_69, eX9_meeting_72, eX9_meeting_75, eX9_meeting_77, eX9_meeting_78, eX9_meeting_78x, eX9_meeting_78y, eX9_meeting_79, eX9_meeting_82, eX9_meeting_84, eX9_meeting_85, eX9_meeting_88, eX9_meeting_91, eX9_meeting_92, if_pos, if_neg, if_true, if_false, Option.bind_some, Option.toList_some, Option.toList_none, List.cons_append, List.nil_append]
  rw [e, eX9_meeting_5]
  simp (disch := omega) only [eX9_meeting_0, eX9_meeting_1, eX9_meeting_2, eX9_meeting_3, eX9_meeting_7, eX9_meeting_10, eX9_meeting_13, eX9_meeting_14, eX9_meeting_15, eX9_meeting_18, eX9_meeting_21, eX9_meeting_23, eX9_meeting_24, eX9_meeting_24x, eX9_meeting_24y, eX9_meeting_25, eX9_meeting_28, eX9_meeting_29, eX9_meeting_32, eX9_meeting_33, eX9_meeting_34, eX9_meeting_35, eX9_meeting_36, eX9_meeting_37, eX9_meeting_40, eX9_meeting_41, eX9_meeting_44, eX9_meeting_47, eX9_meeting_49, eX9_meeting_50, eX9_meeting_50x, eX9_meeting_50y, eX9_meeting_51, eX9_meeting_54, eX9_meeting_55, eX9_meeting_58, eX9_meeting_60, eX9_meeting_63, eX9_meeting_64, eX9_meeting_65, eX9_meeting_68, eX9_meeting_69, eX9_meeting_72, eX9_meeting_75, eX9_meeting_77, eX9_meeting_78, eX9_meeting_78x, eX9_meeting_78y, eX9_meeting_79, eX9_meeting_82, eX9_meeting_84, eX9_meeting_85, eX9_meeting_88, eX9_meeting_91, eX9_meeting_92, if_pos, if_neg, if_true, if_false, Option.bind_some, Option.toList_some, Option.toList_none, List.cons_append, List.nil_append]
/-! numbers -/
theorem zz_count {what : Int} (h : MIs S A m H K V P n) (ok : AOk A) (hx : rng what) : fX9_count [vR 593, vI what] S = some (some (vI (cntF A m n what)), S) := by
  obtain ⟨k0, a0, -⟩ := mk
  have h0 := h.1
  have h3 : S 593 3 = (m : Int) := by
    obtain ⟨pf, p1, p2, p3, p4, p5⟩ := h.2.1
    exact p3
  have h11 := h.2.2.2.1
  have n7 : (7 : Int).toNat = 7 := rfl
  have hR := ok.2.2.2.1
  have e0 := z_stonesOf (S := S) (w := 0) (by omega) (by rw [h0]; exact hR)
  have e1 := z_stonesOf (S := S) (w := 1) (by omega) (by rw [h0]; exact hR)
  have e2 := z_stonesOf (S := S) (w := 2) (by omega) (by rw [h0]; exact hR)
  rw [h0, show ((0 : Nat) : Int) = 0 from rfl] at e0
  rw [h0, show ((1 : Nat) : Int) = 1 from rfl] at e1
  rw [h0, show ((2 : Nat) : Int) = 2 from rfl] at e2
  obtain ⟨x1, x2⟩ := id hx
  unfold cntF
  rw [uX9_count]
  by_cases c0 : what = 0
  · rw [if_pos c0]
    unfold sumR
    simp (disch := omega) only [eX9_count_0, eX9_count_1, eX9_count_48, eX9_count_49, eX9_count_50, eX9_count_53, eX9_count_54, eX9_count_55, eX9_count_58, eX9_count_59, eX9_count_60, eX9_count_61, eX9_count_64, eX9_count_65, eX9_count_66, eX9_count_67, eX9_count_70, eX9_count_72, eX9_count_72x, eX9_count_72y, eX9_count_73, eX9_count_74, eX9_count_75, eX9_count_78, eX9_count_79, eX9_count_80, eX9_count_81, eX9_count_81x, eX9_count_81y, eX9_count_82, eX9_count_83, eX9_count_84, eX9_count_87, eX9_count_88, eX9_count_89, eX9_count_92, eX9_count_93, eX9_count_95, if_pos, if_neg, if_true, if_false, Option.bind_some, Option.toList_some, Option.toList_none, List.cons_append, List.nil_append, e0, e1, e2]
  · rw [if_neg c0]
    by_cases c1 : what = 1
    · rw [if_pos c1]
      simp (disch := omega) only [eX9_count_0, eX9_count_1, eX9_count_48, eX9_count_49, eX9_count_50, eX9_count_53, eX9_count_54, eX9_count_55, eX9_count_58, eX9_count_59, eX9_count_60, eX9_count_61, eX9_count_64, eX9_count_65, eX9_count_66, eX9_count_67, eX9_count_70, eX9_count_72, eX9_count_72x, eX9_count_72y, eX9_count_73, eX9_count_74, eX9_count_75, eX9_count_78, eX9_count_79, eX9_count_80, eX9_count_81, eX9_count_81x, eX9_count_81y, eX9_count_82, eX9_count_83, eX9_count_84, eX9_count_87, eX9_count_88, eX9_count_89, eX9_count_92, eX9_count_93, eX9_count_95, if_pos, if_neg, if_true, if_false, Option.bind_some, Option.toList_some, Option.toList_none, List.cons_append, List.nil_append, n7]
      rw [h0]
    · rw [if_neg c1]
      by_cases c2 : 2 ≤ what ∧ what ≤ 5
      · rw [if_pos c2]
        by_cases d2 : what = 2
        · simp (disch := omega) only [eX9_count_0, eX9_count_1, eX9_count_48, eX9_count_49, eX9_count_50, eX9_count_53, eX9_count_54, eX9_count_55, eX9_count_58, eX9_count_59, eX9_count_60, eX9_count_61, eX9_count_64, eX9_count_65, eX9_count_66, eX9_count_67, eX9_count_70, eX9_count_72, eX9_count_72x, eX9_count_72y, eX9_count_73, eX9_count_74, eX9_count_75, eX9_count_78, eX9_count_79, eX9_count_80, eX9_count_81, eX9_count_81x, eX9_count_81y, eX9_count_82, eX9_count_83, eX9_count_84, eX9_count_87, eX9_count_88, eX9_count_89, eX9_count_92, eX9_count_93, eX9_count_95, if_pos, if_neg, if_true, if_false, Option.bind_some, Option.toList_some, Option.toList_none, List.cons_append, List.nil_append]
          rw [h0]
        · by_cases d3 : what = 3
          · simp (disch := omega) only [eX9_count_0, eX9_count_1, eX9_count_48, eX9_count_49, eX9_count_50, eX9_count_53, eX9_count_54, eX9_count_55, eX9_count_58, eX9_count_59, eX9_count_60, eX9_count_61, eX9_count_64, eX9_count_65, eX9_count_66, eX9_count_67, eX9_count_70, eX9_count_72, eX9_count_72x, eX9_count_72y, eX9_count_73, eX9_count_74, eX9_count_75, eX9_count_78, eX9_count_79, eX9_count_80, eX9_count_81, eX9_count_81x, eX9_count_81y, eX9_count_82, eX9_count_83, eX9_count_84, eX9_count_87, eX9_count_88, eX9_count_89, eX9_count_92, eX9_count_93, eX9_count_95, if_pos, if_neg, if_true, if_false, Option.bind_some, Option.toList_some, Option.toList_none, List.cons_append, List.nil_append]
            rw [h0]
          · by_cases d4 : what = 4
            · simp (disch := omega) only [eX9_count_0, eX9_count_1, eX9_count_48, eX9_count_49, eX9_count_50, eX9_count_53, eX9_count_54, eX9_count_55, eX9_count_58, eX9_count_59, eX9_count_60, eX9_count_61, eX9_count_64, eX9_count_65, eX9_count_66, eX9_count_67, eX9_count_70, eX9_count_72, eX9_count_72x, eX9_count_72y, eX9_count_73, eX9_count_74, eX9_count_75, eX9_count_78, eX9_count_79, eX9_count_80, eX9_count_81, eX9_count_81x, eX9_count_81y, eX9_count_82, eX9_count_83, eX9_count_84, eX9_count_87, eX9_count_88, eX9_count_89, eX9_count_92, eX9_count_93, eX9_count_95, if_pos, if_neg, if_true, if_false, Option.bind_some, Option.toList_some, Option.toList_none, List.cons_append, List.nil_append]
              rw [h0]
            · simp (disch := omega) only [eX9_count_0, eX9_count_1, eX9_count_48, eX9_count_49, eX9_count_50, eX9_count_53, eX9_count_54, eX9_count_55, eX9_count_58, eX9_count_59, eX9_count_60, eX9_count_61, eX9_count_64, eX9_count_65, eX9_count_66, eX9_count_67, eX9_count_70, eX9_count_72, eX9_count_72x, eX9_count_72y, eX9_count_73, eX9_count_74, eX9_count_75, eX9_count_78, eX9_count_79, eX9_count_80, eX9_count_81, eX9_count_81x, eX9_count_81y, eX9_count_82, eX9_count_83, eX9_count_84, eX9_count_87, eX9_count_88, eX9_count_89, eX9_count_92, eX9_count_93, eX9_count_95, if_pos, if_neg, if_true, if_false, Option.bind_some, Option.toList_some, Option.toList_none, List.cons_append, List.nil_append]
              rw [h0]
      · rw [if_neg c2]
        by_cases c6 : what = 6
        · rw [if_pos c6]
          simp (disch := omega) only [eX9_count_0, eX9_count_1, eX9_count_48, eX9_count_49, eX9_count_50, eX9_count_53, eX9_count_54, eX9_count_55, eX9_count_58, eX9_count_59, eX9_count_60, eX9_count_61, eX9_count_64, eX9_count_65, eX9_count_66, eX9_count_67, eX9_count_70, eX9_count_72, eX9_count_72x, eX9_count_72y, eX9_count_73, eX9_count_74, eX9_count_75, eX9_count_78, eX9_count_79, eX9_count_80, eX9_count_81, eX9_count_81x, eX9_count_81y, eX9_count_82, eX9_count_83, eX9_count_84, eX9_count_87, eX9_count_88, eX9_count_89, eX9_count_92, eX9_count_93, eX9_count_95, if_pos, if_neg, if_true, if_false, Option.bind_some, Option.toList_some, Option.toList_none, List.cons_append, List.nil_append, h11]
        · rw [if_neg c6]
          by_cases c7 : what = 7
          · rw [if_pos c7]
            simp (disch := omega) only [eX9_count_0, eX9_count_1, eX9_count_48, eX9_count_49, eX9_count_50, eX9_count_53, eX9_count_54, eX9_count_55, eX9_count_58, eX9_count_59, eX9_count_60, eX9_count_61, eX9_count_64, eX9_count_65, eX9_count_66, eX9_count_67, eX9_count_70, eX9_count_72, eX9_count_72x, eX9_count_72y, eX9_count_73, eX9_count_74, eX9_count_75, eX9_count_78, eX9_count_79, eX9_count_80, eX9_count_81, eX9_count_81x, eX9_count_81y, eX9_count_82, eX9_count_83, eX9_count_84, eX9_count_87, eX9_count_88, eX9_count_89, eX9_count_92, eX9_count_93, eX9_count_95, if_pos, if_neg, if_true, if_false, Option.bind_some, Option.toList_some, Option.toList_none, List.cons_append, List.nil_append, h3]
          · rw [if_neg c7]
            simp (disch := omega) only [eX9_count_0, eX9_count_1, eX9_count_48, eX9_count_49, eX9_count_50, eX9_count_53, eX9_count_54, eX9_count_55, eX9_count_58, eX9_count_59, eX9_count_60, eX9_count_61, eX9_count_64, eX9_count_65, eX9_count_66, eX9_count_67, eX9_count_70, eX9_count_72, eX9_count_72x, eX9_count_72y, eX9_count_73, eX9_count_74, eX9_count_75, eX9_count_78, eX9_count_79, eX9_count_80, eX9_count_81, eX9_count_81x, eX9_count_81y, eX9_count_82, eX9_count_83, eX9_count_84, eX9_count_87, eX9_count_88, eX9_count_89, eX9_count_92, eX9_count_93, eX9_count_95, if_pos, if_neg, if_true, if_false, Option.bind_some, Option.toList_some, Option.toList_none, List.cons_append, List.nil_append]
end MO20

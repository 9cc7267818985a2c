/-! the reference: put, wipe, undo, save, restore -/
section MO28
variable {S S' S1 S2 : MM} {A : Nat → Int} {m n : Nat} {H : Nat → Nat → Int} {K P : Nat → Int} {V : Nat → Nat → Int}
theorem l_mSigns {u : Nat} (hu : u < 18446744073709551616) : ∀ (f i : Nat), i + f = 8 → (siF u f i < 1 → rn xX9_put (5, [some (vR 593), some (vJ u), none, some (vI (i : Int)), some (vJ (u / 2 ^ (8 * i))), none, none], [], S) = some (some (vI (-2)), S)) ∧ (1 ≤ siF u f i → ∃ x : Nat, rn xX9_put (5, [some (vR 593), some (vJ u), none, some (vI (i : Int)), some (vJ (u / 2 ^ (8 * i))), none, none], [], S) = rn xX9_put (69, [some (vR 593), some (vJ u), none, some (vI (siF u f i)), some (vJ x), none, none], [], S)) := by
  intro f
  induction f with
  | zero =>
    intro i hi
    have e : i = 8 := by omega
    subst e
    rw [siF]
    have hz : u / 2 ^ (8 * 8) = 0 := Nat.div_eq_of_lt (by omega)
    rw [hz]
    refine ⟨fun y => by omega, fun _ => ⟨0, ?_⟩⟩
    rw [eX9_put_5]
    simp (disch := omega) only [eX9_put_0, eX9_put_1, eX9_put_2, eX9_put_3, eX9_put_6, eX9_put_8, eX9_put_11, eX9_put_13, eX9_put_16, eX9_put_17, eX9_put_18, eX9_put_19, eX9_put_22, eX9_put_24, eX9_put_27, eX9_put_28, eX9_put_29, eX9_put_31, eX9_put_33, eX9_put_36, eX9_put_39, eX9_put_41, eX9_put_42, eX9_put_45, eX9_put_47, eX9_put_49, eX9_put_50, eX9_put_52, eX9_put_55, eX9_put_56, eX9_put_59, eX9_put_61, eX9_put_62, eX9_put_63, eX9_put_66, eX9_put_68, eX9_put_69, eX9_put_70, eX9_put_73, eX9_put_74, eX9_put_75, eX9_put_77, eX9_put_80, eX9_put_82, eX9_put_83, eX9_put_84, eX9_put_88, eX9_put_89, eX9_put_92, eX9_put_93, eX9_put_96, eX9_put_97, eX9_put_100, eX9_put_102, eX9_put_103, eX9_put_104, eX9_put_106, eX9_put_107, eX9_put_108, eX9_put_109, eX9_put_111, eX9_put_112, eX9_put_113, eX9_put_114, eX9_put_117, eX9_put_118, eX9_put_119, eX9_put_120, eX9_put_123, eX9_put_126, eX9_put_127, eX9_put_128, eX9_put_131, eX9_put_132, eX9_put_133, eX9_put_136, eX9_put_137, eX9_put_140, if_pos, if_neg, if_true, if_false, Option.bind_some, Option.toList_some, Option.toList_none, List.cons_append, List.nil_append]
    rfl
  | succ f ih =>
    intro i hi
    have hb := byt_b u i
    have hq : u / 2 ^ (8 * i) < 18446744073709551616 := Nat.lt_of_le_of_lt (Nat.div_le_self _ _) hu
    have ha : u / 2 ^ (8 * i) &&& 255 = byt u i := Nat.and_two_pow_sub_one_eq_mod (u / 2 ^ (8 * i)) 8
    have hm : Int.bmod ((byt u i : Nat) : Int) 4294967296 = ((byt u i : Nat) : Int) := by
      rw [Int.bmod_def]
      split <;> omega
    have e2 := z_in (S := S) (a := ((byt u i : Nat) : Int)) (b := 33) (c := 126) ⟨by omega, by omega⟩ ⟨by omega, by omega⟩ ⟨by omega, by omega⟩
    have n8 : (8 : Int).toNat = 8 := rfl
    have hd : u / 2 ^ (8 * i) / 2 ^ 8 = u / 2 ^ (8 * (i + 1)) := by
      rw [Nat.div_div_eq_div_mul, ← Nat.pow_add, show 8 * i + 8 = 8 * (i + 1) by omega]
    rw [siF]
    by_cases c : byt u i = 0
    · rw [if_pos c]
      by_cases d : u / 2 ^ (8 * i) = 0
      · rw [if_pos d]
        have h00 : (0 : Nat) &&& 255 = 0 := rfl
        refine ⟨fun y => ?_, fun y => ⟨0, ?_⟩⟩
        · have hi0 : i = 0 := by omega
          rw [eX9_put_5]
          simp (disch := omega) only [eX9_put_0, eX9_put_1, eX9_put_2, eX9_put_3, eX9_put_6, eX9_put_8, eX9_put_11, eX9_put_13, eX9_put_16, eX9_put_17, eX9_put_18, eX9_put_19, eX9_put_22, eX9_put_24, eX9_put_27, eX9_put_28, eX9_put_29, eX9_put_31, eX9_put_33, eX9_put_36, eX9_put_39, eX9_put_41, eX9_put_42, eX9_put_45, eX9_put_47, eX9_put_49, eX9_put_50, eX9_put_52, eX9_put_55, eX9_put_56, eX9_put_59, eX9_put_61, eX9_put_62, eX9_put_63, eX9_put_66, eX9_put_68, eX9_put_69, eX9_put_70, eX9_put_73, eX9_put_74, eX9_put_75, eX9_put_77, eX9_put_80, eX9_put_82, eX9_put_83, eX9_put_84, eX9_put_88, eX9_put_89, eX9_put_92, eX9_put_93, eX9_put_96, eX9_put_97, eX9_put_100, eX9_put_102, eX9_put_103, eX9_put_104, eX9_put_106, eX9_put_107, eX9_put_108, eX9_put_109, eX9_put_111, eX9_put_112, eX9_put_113, eX9_put_114, eX9_put_117, eX9_put_118, eX9_put_119, eX9_put_120, eX9_put_123, eX9_put_126, eX9_put_127, eX9_put_128, eX9_put_131, eX9_put_132, eX9_put_133, eX9_put_136, eX9_put_137, eX9_put_140, if_pos, if_neg, if_true, if_false, Option.bind_some, Option.toList_some, Option.toList_none, List.cons_append, List.nil_append, d, h00]
        · rw [eX9_put_5, d]
          simp (disch := omega) only [eX9_put_0, eX9_put_1, eX9_put_2, eX9_put_3, eX9_put_6, eX9_put_8, eX9_put_11, eX9_put_13, eX9_put_16, eX9_put_17, eX9_put_18, eX9_put_19, eX9_put_22, eX9_put_24, eX9_put_27, eX9_put_28, eX9_put_29, eX9_put_31, eX9_put_33, eX9_put_36, eX9_put_39, eX9_put_41, eX9_put_42, eX9_put_45, eX9_put_47, eX9_put_49, eX9_put_50, eX9_put_52, eX9_put_55, eX9_put_56, eX9_put_59, eX9_put_61, eX9_put_62, eX9_put_63, eX9_put_66, eX9_put_68, eX9_put_69, eX9_put_70, eX9_put_73, eX9_put_74, eX9_put_75, eX9_put_77, eX9_put_80, eX9_put_82, eX9_put_83, eX9_put_84, eX9_put_88, eX9_put_89, eX9_put_92, eX9_put_93, eX9_put_96, eX9_put_97, eX9_put_100, eX9_put_102, eX9_put_103, eX9_put_104, eX9_put_106, eX9_put_107, eX9_put_108, eX9_put_109, eX9_put_111, eX9_put_112, eX9_put_113, eX9_put_114, eX9_put_117, eX9_put_118, eX9_put_119, eX9_put_120, eX9_put_123, eX9_put_126, eX9_put_127, eX9_put_128, eX9_put_131, eX9_put_132, eX9_put_133, eX9_put_136, eX9_put_137, eX9_put_140, if_pos, if_neg, if_true, if_false, Option.bind_some, Option.toList_some, Option.toList_none, List.cons_append, List.nil_append, h00]
      · rw [if_neg d]
        refine ⟨fun _ => ?_, fun y => by omega⟩
        obtain ⟨z1, hz1, hz2⟩ : ∃ z : Int, (if sgn (u / 2 ^ (8 * i)) < sgn 0 then (-1 : Int) else 1) = z ∧ (z = -1 ∨ z = 1) := ⟨_, rfl, by split <;> omega⟩
        rw [eX9_put_5]
        by_cases z : i = 0
        · simp (disch := omega) only [eX9_put_0, eX9_put_1, eX9_put_2, eX9_put_3, eX9_put_6, eX9_put_8, eX9_put_11, eX9_put_13, eX9_put_16, eX9_put_17, eX9_put_18, eX9_put_19, eX9_put_22, eX9_put_24, eX9_put_27, eX9_put_28, eX9_put_29, eX9_put_31, eX9_put_33, eX9_put_36, eX9_put_39, eX9_put_41, eX9_put_42, eX9_put_45, eX9_put_47, eX9_put_49, eX9_put_50, eX9_put_52, eX9_put_55, eX9_put_56, eX9_put_59, eX9_put_61, eX9_put_62, eX9_put_63, eX9_put_66, eX9_put_68, eX9_put_69, eX9_put_70, eX9_put_73, eX9_put_74, eX9_put_75, eX9_put_77, eX9_put_80, eX9_put_82, eX9_put_83, eX9_put_84, eX9_put_88, eX9_put_89, eX9_put_92, eX9_put_93, eX9_put_96, eX9_put_97, eX9_put_100, eX9_put_102, eX9_put_103, eX9_put_104, eX9_put_106, eX9_put_107, eX9_put_108, eX9_put_109, eX9_put_111, eX9_put_112, eX9_put_113, eX9_put_114, eX9_put_117, eX9_put_118, eX9_put_119, eX9_put_120, eX9_put_123, eX9_put_126, eX9_put_127, eX9_put_128, eX9_put_131, eX9_put_132, eX9_put_133, eX9_put_136, eX9_put_137, eX9_put_140, if_pos, if_neg, if_true, if_false, Option.bind_some, Option.toList_some, Option.toList_none, List.cons_append, List.nil_append, ha, c, hz1]
        · simp (disch := omega) only [eX9_put_0, eX9_put_1, eX9_put_2, eX9_put_3, eX9_put_6, eX9_put_8, eX9_put_11, eX9_put_13, eX9_put_16, eX9_put_17, eX9_put_18, eX9_put_19, eX9_put_22, eX9_put_24, eX9_put_27, eX9_put_28, eX9_put_29, eX9_put_31, eX9_put_33, eX9_put_36, eX9_put_39, eX9_put_41, eX9_put_42, eX9_put_45, eX9_put_47, eX9_put_49, eX9_put_50, eX9_put_52, eX9_put_55, eX9_put_56, eX9_put_59, eX9_put_61, eX9_put_62, eX9_put_63, eX9_put_66, eX9_put_68, eX9_put_69, eX9_put_70, eX9_put_73, eX9_put_74, eX9_put_75, eX9_put_77, eX9_put_80, eX9_put_82, eX9_put_83, eX9_put_84, eX9_put_88, eX9_put_89, eX9_put_92, eX9_put_93, eX9_put_96, eX9_put_97, eX9_put_100, eX9_put_102, eX9_put_103, eX9_put_104, eX9_put_106, eX9_put_107, eX9_put_108, eX9_put_109, eX9_put_111, eX9_put_112, eX9_put_113, eX9_put_114, eX9_put_117, eX9_put_118, eX9_put_119, eX9_put_120, eX9_put_123, eX9_put_126, eX9_put_127, eX9_put_128, eX9_put_131, eX9_put_132, eX9_put_133, eX9_put_136, eX9_put_137, eX9_put_140, if_pos, if_neg, if_true, if_false, Option.bind_some, Option.toList_some, Option.toList_none, List.cons_append, List.nil_append, ha, c, hz1]
    · rw [if_neg c]
      obtain ⟨z1, hz1, hz2⟩ : ∃ z : Int, (if sgn (byt u i) < sgn 0 then (-1 : Int) else 1) = z ∧ (z = -1 ∨ z = 1) := ⟨_, rfl, by split <;> omega⟩
      by_cases d : 33 ≤ byt u i ∧ byt u i ≤ 126
      · rw [if_pos d]
        rw [if_pos (by omega)] at e2
        obtain ⟨ih1, ih2⟩ := ih (i + 1) (by omega)
        have e : rn xX9_put (5, [some (vR 593), some (vJ u), none, some (vI (i : Int)), some (vJ (u / 2 ^ (8 * i))), none, none], [], S) = rn xX9_put (5, [some (vR 593), some (vJ u), none, some (vI ((i + 1 : Nat) : Int)), some (vJ (u / 2 ^ (8 * (i + 1)))), none, none], [], S) := by
          rw [eX9_put_5]
          simp (disch := omega) only [eX9_put_0, eX9_put_1, eX9_put_2, eX9_put_3, eX9_put_6, eX9_put_8, eX9_put_11, eX9_put_13, eX9_put_16, eX9_put_17, eX9_put_18, eX9_put_19, eX9_put_22, eX9_put_24, eX9_put_27, eX9_put_28, eX9_put_29, eX9_put_31, eX9_put_33, eX9_put_36, eX9_put_39, eX9_put_41, eX9_put_42, eX9_put_45, eX9_put_47, eX9_put_49, eX9_put_50, eX9_put_52, eX9_put_55, eX9_put_56, eX9_put_59, eX9_put_61, eX9_put_62, eX9_put_63, eX9_put_66, eX9_put_68, eX9_put_69, eX9_put_70, eX9_put_73, eX9_put_74, eX9_put_75, eX9_put_77, eX9_put_80, eX9_put_82, eX9_put_83, eX9_put_84, eX9_put_88, eX9_put_89, eX9_put_92, eX9_put_93, eX9_put_96, eX9_put_97, eX9_put_100, eX9_put_102, eX9_put_103, eX9_put_104, eX9_put_106, eX9_put_107, eX9_put_108, eX9_put_109, eX9_put_111, eX9_put_112, eX9_put_113, eX9_put_114, eX9_put_117, eX9_put_118, eX9_put_119, eX9_put_120, eX9_put_123, eX9_put_126, eX9_put_127, eX9_put_128, eX9_put_131, eX9_put_132, eX9_put_133, eX9_put_136, eX9_put_137, eX9_put_140, if_pos, if_neg, if_true, if_false, Option.bind_some, Option.toList_some, Option.toList_none, List.cons_append, List.nil_append, ha, hz1, hm, e2, n8, hd]
          rw [show ((i : Int) + 1) = ((i + 1 : Nat) : Int) by omega]
        rw [e]
        exact ⟨ih1, ih2⟩
      · rw [if_neg d]
        rw [if_neg (by omega)] at e2
        refine ⟨fun _ => ?_, fun y => by omega⟩
        rw [eX9_put_5]
        simp (disch := omega) only [eX9_put_0, eX9_put_1, eX9_put_2, eX9_put_3, eX9_put_6, eX9_put_8, eX9_put_11, eX9_put_13, eX9_put_16, eX9_put_17, eX9_put_18, eX9_put_19, eX9_put_22, eX9_put_24, eX9_put_27, eX9_put_28, eX9_put_29, eX9_put_31, eX9_put_33, eX9_put_36, eX9_put_39, eX9_put_41, eX9_put_42, eX9_put_45, eX9_put_47, eX9_put_49, eX9_put_50, eX9_put_52, eX9_put_55, eX9_put_56, eX9_put_59, eX9_put_61, eX9_put_62, eX9_put_63, eX9_put_66, eX9_put_68, eX9_put_69, eX9_put_70, eX9_put_73, eX9_put_74, eX9_put_75, eX9_put_77, eX9_put_80, eX9_put_82, eX9_put_83, eX9_put_84, eX9_put_88, eX9_put_89, eX9_put_92, eX9_put_93, eX9_put_96, eX9_put_97, eX9_put_100, eX9_put_102, eX9_put_103, eX9_put_104, eX9_put_106, eX9_put_107, eX9_put_108, eX9_put_109, eX9_put_111, eX9_put_112, eX9_put_113, eX9_put_114, eX9_put_117, eX9_put_118, eX9_put_119, eX9_put_120, eX9_put_123, eX9_put_126, eX9_put_127, eX9_put_128, eX9_put_131, eX9_put_132, eX9_put_133, eX9_put_136, eX9_put_137, eX9_put_140, if_pos, if_neg, if_true, if_false, Option.bind_some, Option.toList_some, Option.toList_none, List.cons_append, List.nil_append, ha, hz1, hm, e2]
theorem byt_s {u i : Nat} (hu : u < 18446744073709551616) (hi : i < 8) : (sgn u / 2 ^ (8 * i) % 18446744073709551616).toNat &&& 255 = byt u i := by
  have ha : (sgn u / 2 ^ (8 * i) % 18446744073709551616).toNat &&& 255 = (sgn u / 2 ^ (8 * i) % 18446744073709551616).toNat % 256 := Nat.and_two_pow_sub_one_eq_mod _ 8
  rw [ha]
  unfold byt sgn
  rw [Int.bmod_def]
  rcases (show i = 0 ∨ i = 1 ∨ i = 2 ∨ i = 3 ∨ i = 4 ∨ i = 5 ∨ i = 6 ∨ i = 7 by omega) with rfl | rfl | rfl | rfl | rfl | rfl | rfl | rfl
  all_goals
    simp only [Nat.reduceMul, Nat.reducePow, Int.reducePow]
    split <;> omega
theorem l_mPut {u r x : Nat} (hu : u < 18446744073709551616) (hr : r ≤ 8) (hn : n + r ≤ 80) : ∀ (f k : Nat) (T : MM), k + f = r → T 593 11 = (n : Int) → (∀ j, j < n + k → T 600 j = putP P n u r j) → ∃ S', rn xX9_put (86, [some (vR 593), some (vJ u), none, some (vI (r : Int)), some (vJ x), none, some (vI (k : Int))], [], T) = some (some (vI ((n : Int) + (r : Int))), S') ∧ S' 593 11 = (n : Int) + (r : Int) ∧ (∀ j, j < n + r → S' 600 j = putP P n u r j) ∧ (∀ j, j ≠ 11 → S' 593 j = T 593 j) ∧ (∀ a, a ≠ 593 → a ≠ 600 → S' a = T a) := by
  obtain ⟨k9, k6, a6, -⟩ := k9_
  intro f
  induction f with
  | zero =>
    intro k T hk h1 h2
    have e : k = r := by omega
    subst e
    refine ⟨updM T 593 11 ((n : Int) + (k : Int)), ?_, by rw [updM_eq, up_eq], fun j hj => by rw [updM_ne (by omega)]; exact h2 j hj, fun j hj => by rw [updM_eq, up_ne hj], fun a y1 y2 => updM_ne y1⟩
    have q11 : updM T 593 11 ((n : Int) + (k : Int)) 593 11 = (n : Int) + (k : Int) := by rw [updM_eq, up_eq]
    rw [eX9_put_86]
    simp (disch := omega) only [eX9_put_0, eX9_put_1, eX9_put_2, eX9_put_3, eX9_put_6, eX9_put_8, eX9_put_11, eX9_put_13, eX9_put_16, eX9_put_17, eX9_put_18, eX9_put_19, eX9_put_22, eX9_put_24, eX9_put_27, eX9_put_28, eX9_put_29, eX9_put_31, eX9_put_33, eX9_put_36, eX9_put_39, eX9_put_41, eX9_put_42, eX9_put_45, eX9_put_47, eX9_put_49, eX9_put_50, eX9_put_52, eX9_put_55, eX9_put_56, eX9_put_59, eX9_put_61, eX9_put_62, eX9_put_63, eX9_put_66, eX9_put_68, eX9_put_69, eX9_put_70, eX9_put_73, eX9_put_74, eX9_put_75, eX9_put_77, eX9_put_80, eX9_put_82, eX9_put_83, eX9_put_84, eX9_put_88, eX9_put_89, eX9_put_92, eX9_put_93, eX9_put_96, eX9_put_97, eX9_put_100, eX9_put_102, eX9_put_103, eX9_put_104, eX9_put_106, eX9_put_107, eX9_put_108, eX9_put_109, eX9_put_111, eX9_put_112, eX9_put_113, eX9_put_114, eX9_put_117, eX9_put_118, eX9_put_119, eX9_put_120, eX9_put_123, eX9_put_126, eX9_put_127, eX9_put_128, eX9_put_131, eX9_put_132, eX9_put_133, eX9_put_136, eX9_put_137, eX9_put_140, if_pos, if_neg, if_true, if_false, Option.bind_some, Option.toList_some, Option.toList_none, List.cons_append, List.nil_append, h1, q11]
  | succ f ih =>
    intro k T hk h1 h2
    obtain ⟨c, hc⟩ : ∃ c, byt u (r - 1 - k) = c := ⟨_, rfl⟩
    have hb : c < 256 := by rw [← hc]; exact byt_b u (r - 1 - k)
    have e1 : ((n : Int) + (k : Int)).toNat = n + k := by omega
    have e2 : ((8 : Int) * ((r : Int) - 1 - (k : Int))).toNat = 8 * (r - 1 - k) := by omega
    obtain ⟨w, hw1, hw2, hw3⟩ : ∃ w : Nat, (sgn u / 2 ^ (8 * (r - 1 - k)) % 18446744073709551616).toNat = w ∧ w &&& 255 = c ∧ w < 18446744073709551616 := by
      refine ⟨_, rfl, ?_, ?_⟩
      · rw [← hc]
        exact byt_s (i := r - 1 - k) hu (by omega)
      · have e4 : ∀ z : Int, (z % 18446744073709551616).toNat < 18446744073709551616 := fun z => by omega
        exact e4 _
    have hm : Int.bmod (c : Int) 4294967296 = (c : Int) := by
      rw [Int.bmod_def]
      split <;> omega
    obtain ⟨S', w1, w2, w3, w4, w5⟩ := ih (k + 1) (updM T 600 (n + k) (c : Int)) (by omega) (by rw [updM_ne (by omega)]; exact h1) (fun j hj => by
      rw [updM_eq]
      by_cases c : j = n + k
      · rw [c, up_eq]
        unfold putP
        rw [if_neg (by omega), show r - 1 - (n + k - n) = r - 1 - k by omega, hc]
      · rw [up_ne c]
        exact h2 j (by omega))
    refine ⟨S', ?_, w2, w3, fun j hj => by rw [w4 j hj, updM_ne (by omega)], fun a y1 y2 => by rw [w5 a y1 y2, updM_ne y2]⟩
    clear ih w2 w3 w4 w5 hc h2
    rw [← w1, eX9_put_86]
    simp (disch := omega) only [eX9_put_0, eX9_put_1, eX9_put_2, eX9_put_3, eX9_put_6, eX9_put_8, eX9_put_11, eX9_put_13, eX9_put_16, eX9_put_17, eX9_put_18, eX9_put_19, eX9_put_22, eX9_put_24, eX9_put_27, eX9_put_28, eX9_put_29, eX9_put_31, eX9_put_33, eX9_put_36, eX9_put_39, eX9_put_41, eX9_put_42, eX9_put_45, eX9_put_47, eX9_put_49, eX9_put_50, eX9_put_52, eX9_put_55, eX9_put_56, eX9_put_59, eX9_put_61, eX9_put_62, eX9_put_63, eX9_put_66, eX9_put_68, eX9_put_69, eX9_put_70, eX9_put_73, eX9_put_74, eX9_put_75, eX9_put_77, eX9_put_80, eX9_put_82, eX9_put_83, eX9_put_84, eX9_put_88, eX9_put_89, eX9_put_92, eX9_put_93, eX9_put_96, eX9_put_97, eX9_put_100, eX9_put_102, eX9_put_103, eX9_put_104, eX9_put_106, eX9_put_107, eX9_put_108, eX9_put_109, eX9_put_111, eX9_put_112, eX9_put_113, eX9_put_114, eX9_put_117, eX9_put_118, eX9_put_119, eX9_put_120, eX9_put_123, eX9_put_126, eX9_put_127, eX9_put_128, eX9_put_131, eX9_put_132, eX9_put_133, eX9_put_136, eX9_put_137, eX9_put_140, if_pos, if_neg, if_true, if_false, Option.bind_some, Option.toList_some, Option.toList_none, List.cons_append, List.nil_append, h1, e1, e2, hw1, hw2]
    have hcc : c < 18446744073709551616 := Nat.lt_of_lt_of_le hb (by decide)
    rw [eX9_put_118 hcc]
    clear hw1 hw2 hw3 e2 hcc
    simp (disch := omega) only [eX9_put_0, eX9_put_1, eX9_put_2, eX9_put_3, eX9_put_6, eX9_put_8, eX9_put_11, eX9_put_13, eX9_put_16, eX9_put_17, eX9_put_18, eX9_put_19, eX9_put_22, eX9_put_24, eX9_put_27, eX9_put_28, eX9_put_29, eX9_put_31, eX9_put_33, eX9_put_36, eX9_put_39, eX9_put_41, eX9_put_42, eX9_put_45, eX9_put_47, eX9_put_49, eX9_put_50, eX9_put_52, eX9_put_55, eX9_put_56, eX9_put_59, eX9_put_61, eX9_put_62, eX9_put_63, eX9_put_66, eX9_put_68, eX9_put_69, eX9_put_70, eX9_put_73, eX9_put_74, eX9_put_75, eX9_put_77, eX9_put_80, eX9_put_82, eX9_put_83, eX9_put_84, eX9_put_88, eX9_put_89, eX9_put_92, eX9_put_93, eX9_put_96, eX9_put_97, eX9_put_100, eX9_put_102, eX9_put_103, eX9_put_104, eX9_put_106, eX9_put_107, eX9_put_108, eX9_put_109, eX9_put_111, eX9_put_112, eX9_put_113, eX9_put_114, eX9_put_117, eX9_put_118, eX9_put_119, eX9_put_120, eX9_put_123, eX9_put_126, eX9_put_127, eX9_put_128, eX9_put_131, eX9_put_132, eX9_put_133, eX9_put_136, eX9_put_137, eX9_put_140, if_pos, if_neg, if_true, if_false, Option.bind_some, Option.toList_some, Option.toList_none, List.cons_append, List.nil_append, h1, e1, hm]
    rw [show ((k : Int) + 1) = ((k + 1 : Nat) : Int) by omega]
theorem z_putIn {u : Nat} : fX9_put [vR 593, vJ u] S = rn xX9_put (5, [some (vR 593), some (vJ u), none, some (vI ((0 : Nat) : Int)), some (vJ (u / 2 ^ (8 * 0))), none, none], [], S) := by
  rw [uX9_put, show u / 2 ^ (8 * 0) = u by rw [Nat.mul_zero, Nat.pow_zero, Nat.div_one]]
  simp (disch := omega) only [eX9_put_0, eX9_put_1, eX9_put_2, eX9_put_3, eX9_put_6, eX9_put_8, eX9_put_11, eX9_put_13, eX9_put_16, eX9_put_17, eX9_put_18, eX9_put_19, eX9_put_22, eX9_put_24, eX9_put_27, eX9_put_28, eX9_put_29, eX9_put_31, eX9_put_33, eX9_put_36, eX9_put_39, eX9_put_41, eX9_put_42, eX9_put_45, eX9_put_47, eX9_put_49, eX9_put_50, eX9_put_52, eX9_put_55, eX9_put_56, eX9_put_59, eX9_put_61, eX9_put_62, eX9_put_63, eX9_put_66, eX9_put_68, eX9_put_69, eX9_put_70, eX9_put_73, eX9_put_74, eX9_put_75, eX9_put_77, eX9_put_80, eX9_put_82, eX9_put_83, eX9_put_84, eX9_put_88, eX9_put_89, eX9_put_92, eX9_put_93, eX9_put_96, eX9_put_97, eX9_put_100, eX9_put_102, eX9_put_103, eX9_put_104, eX9_put_106, eX9_put_107, eX9_put_108, eX9_put_109, eX9_put_111, eX9_put_112, eX9_put_113, eX9_put_114, eX9_put_117, eX9_put_118, eX9_put_119, eX9_put_120, eX9_put_123, eX9_put_126, eX9_put_127, eX9_put_128, eX9_put_131, eX9_put_132, eX9_put_133, eX9_put_136, eX9_put_137, eX9_put_140, if_pos, if_neg, if_true, if_false, Option.bind_some, Option.toList_some, Option.toList_none, List.cons_append, List.nil_append]
  rfl
theorem zz_putX {u : Nat} (hu : u < 18446744073709551616) (hr : siF u 8 0 < 1) : fX9_put [vR 593, vJ u] S = some (some (vI (-2)), S) := by
  rw [z_putIn]
  exact (l_mSigns hu 8 0 rfl).1 hr
theorem zz_putT {u : Nat} (h : MIs S A m H K V P n) (hu : u < 18446744073709551616) (hr : 1 ≤ siF u 8 0) (ht : 80 < (n : Int) + siF u 8 0) : fX9_put [vR 593, vJ u] S = some (some (vI (-4)), S) := by
  obtain ⟨k9, -⟩ := k9_
  obtain ⟨x, e⟩ := (l_mSigns (S := S) hu 8 0 rfl).2 hr
  have h11 := h.2.2.2.1
  have hn := h.2.2.2.2.1
  have hb : siF u 8 0 ≤ 8 := by
    rcases siF_b (u := u) (f := 8) (i := 0) rfl with y | y
    · omega
    · exact y.2.1
  rw [z_putIn, e]
  simp (disch := omega) only [eX9_put_0, eX9_put_1, eX9_put_2, eX9_put_3, eX9_put_6, eX9_put_8, eX9_put_11, eX9_put_13, eX9_put_16, eX9_put_17, eX9_put_18, eX9_put_19, eX9_put_22, eX9_put_24, eX9_put_27, eX9_put_28, eX9_put_29, eX9_put_31, eX9_put_33, eX9_put_36, eX9_put_39, eX9_put_41, eX9_put_42, eX9_put_45, eX9_put_47, eX9_put_49, eX9_put_50, eX9_put_52, eX9_put_55, eX9_put_56, eX9_put_59, eX9_put_61, eX9_put_62, eX9_put_63, eX9_put_66, eX9_put_68, eX9_put_69, eX9_put_70, eX9_put_73, eX9_put_74, eX9_put_75, eX9_put_77, eX9_put_80, eX9_put_82, eX9_put_83, eX9_put_84, eX9_put_88, eX9_put_89, eX9_put_92, eX9_put_93, eX9_put_96, eX9_put_97, eX9_put_100, eX9_put_102, eX9_put_103, eX9_put_104, eX9_put_106, eX9_put_107, eX9_put_108, eX9_put_109, eX9_put_111, eX9_put_112, eX9_put_113, eX9_put_114, eX9_put_117, eX9_put_118, eX9_put_119, eX9_put_120, eX9_put_123, eX9_put_126, eX9_put_127, eX9_put_128, eX9_put_131, eX9_put_132, eX9_put_133, eX9_put_136, eX9_put_137, eX9_put_140, if_pos, if_neg, if_true, if_false, Option.bind_some, Option.toList_some, Option.toList_none, List.cons_append, List.nil_append, h11]
theorem zz_put {u : Nat} (h : MIs S A m H K V P n) (hu : u < 18446744073709551616) (hr : 1 ≤ siF u 8 0) (ht : (n : Int) + siF u 8 0 ≤ 80) : ∃ S', fX9_put [vR 593, vJ u] S = some (some (vI ((n : Int) + siF u 8 0)), S') ∧ MIs S' A m H K V (putP P n u (siF u 8 0).toNat) (n + (siF u 8 0).toNat) ∧ FR S S' := by
  obtain ⟨k9, -⟩ := k9_
  obtain ⟨x, e⟩ := (l_mSigns (S := S) hu 8 0 rfl).2 hr
  have hb : siF u 8 0 ≤ 8 ∧ ∀ j : Nat, (j : Int) < siF u 8 0 → 33 ≤ byt u j ∧ byt u j ≤ 126 := by
    rcases siF_b (u := u) (f := 8) (i := 0) rfl with y | y
    · omega
    · exact ⟨y.2.1, fun j hj => y.2.2 j (by omega) hj⟩
  obtain ⟨r, hrr⟩ : ∃ r : Nat, siF u 8 0 = (r : Int) := ⟨(siF u 8 0).toNat, by omega⟩
  rw [hrr] at e hr ht hb ⊢
  rw [Int.toNat_natCast]
  obtain ⟨h0, hP, hq, h11, hn, h6⟩ := id h
  obtain ⟨S', w1, w2, w3, w4, w5⟩ := l_mPut (P := P) (n := n) (u := u) (r := r) (x := x) hu (by omega) (by omega) r 0 S (by omega) h11 (fun j hj => by
    unfold putP
    rw [if_pos (by omega)]
    exact (h6 j (by omega)).1)
  refine ⟨S', ?_, ?_, FR.of (fun a y3 _ _ _ _ _ _ y1 _ => w5 a y3 y1)⟩
  · rw [z_putIn, e, ← w1]
    simp (disch := omega) only [eX9_put_0, eX9_put_1, eX9_put_2, eX9_put_3, eX9_put_6, eX9_put_8, eX9_put_11, eX9_put_13, eX9_put_16, eX9_put_17, eX9_put_18, eX9_put_19, eX9_put_22, eX9_put_24, eX9_put_27, eX9_put_28, eX9_put_29, eX9_put_31, eX9_put_33, eX9_put_36, eX9_put_39, eX9_put_41, eX9_put_42, eX9_put_45, eX9_put_47, eX9_put_49, eX9_put_50, eX9_put_52, eX9_put_55, eX9_put_56, eX9_put_59, eX9_put_61, eX9_put_62, eX9_put_63, eX9_put_66, eX9_put_68, eX9_put_69, eX9_put_70, eX9_put_73, eX9_put_74, eX9_put_75, eX9_put_77, eX9_put_80, eX9_put_82, eX9_put_83, eX9_put_84, eX9_put_88, eX9_put_89, eX9_put_92, eX9_put_93, eX9_put_96, eX9_put_97, eX9_put_100, eX9_put_102, eX9_put_103, eX9_put_104, eX9_put_106, eX9_put_107, eX9_put_108, eX9_put_109, eX9_put_111, eX9_put_112, eX9_put_113, eX9_put_114, eX9_put_117, eX9_put_118, eX9_put_119, eX9_put_120, eX9_put_123, eX9_put_126, eX9_put_127, eX9_put_128, eX9_put_131, eX9_put_132, eX9_put_133, eX9_put_136, eX9_put_137, eX9_put_140, if_pos, if_neg, if_true, if_false, Option.bind_some, Option.toList_some, Option.toList_none, List.cons_append, List.nil_append, h11]
    rfl
  · obtain ⟨pf, p1, p2, p3, p4, p5⟩ := hP
    refine ⟨by rw [w5 594 (by omega) (by omega)]; exact h0, ⟨pf, by rw [w4 2 (by omega)]; exact p1, p2, by rw [w4 3 (by omega)]; exact p3, p4, fun j k hj hk => by rw [w5 595 (by omega) (by omega)]; exact p5 j k hj hk⟩, fun i hi => by rw [w5 597 (by omega) (by omega), w5 596 (by omega) (by omega)]; exact hq i hi, by rw [w2]; omega, by omega, fun k hk => ⟨w3 k hk, ?_⟩⟩
    unfold putP
    by_cases y : k < n
    · rw [if_pos y]
      exact (h6 k y).2
    · rw [if_neg y]
      have := hb.2 (r - 1 - (k - n)) (by omega)
      omega
theorem zz_wipe (h : MIs S A m H K V P n) : ∃ S', fX9_wipe [vR 593] S = some (some (vI (n : Int)), S') ∧ MIs S' A m H K V P 0 ∧ FR S S' := by
  obtain ⟨k9, -⟩ := k9_
  have h11 := h.2.2.2.1
  refine ⟨updM S 593 11 0, ?_, h.wipe, fun a ha => updM_ne (by omega)⟩
  rw [uX9_wipe]
  simp (disch := omega) only [eX9_wipe_0, eX9_wipe_1, eX9_wipe_4, eX9_wipe_5, eX9_wipe_6, eX9_wipe_7, eX9_wipe_10, eX9_wipe_11, if_pos, if_neg, if_true, if_false, Option.bind_some, Option.toList_some, Option.toList_none, List.cons_append, List.nil_append, h11]
theorem zz_fault (h : MIs S A m H K V P n) : ∃ S', fX9_fault [vR 593] S = some (some (vI (fltF P n)), S') ∧ MIs S' A m H K V P n ∧ FR S S' := by
  obtain ⟨S', e, w1, w2, -⟩ := z_fault h
  exact ⟨S', e, w1, w2⟩
/-! undo -/
theorem l_mUndo {pl : Nat} (hp : pl < 6) : ∀ (f k : Nat) (T : MM), k + f = 4825 → T 595 = S 595 → (∀ y : Nat, T 594 y = if y < k then S 595 (4825 * pl + y) else S 594 y) → (∀ a, a ≠ 594 → T a = S a) → ∃ S', rn xX9_undo (35, [some (vR 593), some (vI (pl : Int)), some (vI (k : Int))], [], T) = some (some (vI (S 593 3)), S') ∧ (∀ y : Nat, S' 594 y = if y < 4825 then S 595 (4825 * pl + y) else S 594 y) ∧ (∀ a, a ≠ 594 → S' a = S a) := by
  obtain ⟨k0, a0, k1, a1, -⟩ := mk
  obtain ⟨k9, -⟩ := k9_
  intro f
  induction f with
  | zero =>
    intro k T hk h5 h4 ha
    have e : k = 4825 := by omega
    subst e
    refine ⟨T, ?_, h4, ha⟩
    have q3 : T 593 3 = S 593 3 := by rw [ha 593 (by omega)]
    rw [eX9_undo_35]
    simp (disch := omega) only [eX9_undo_0, eX9_undo_1, eX9_undo_4, eX9_undo_7, eX9_undo_9, eX9_undo_10, eX9_undo_11, eX9_undo_12, eX9_undo_15, eX9_undo_16, eX9_undo_17, eX9_undo_20, eX9_undo_21, eX9_undo_24, eX9_undo_25, eX9_undo_28, eX9_undo_29, eX9_undo_31, eX9_undo_32, eX9_undo_33, eX9_undo_34, eX9_undo_36, eX9_undo_39, eX9_undo_42, eX9_undo_43, eX9_undo_46, eX9_undo_47, eX9_undo_48, eX9_undo_51, eX9_undo_54, eX9_undo_55, eX9_undo_56, eX9_undo_57, eX9_undo_58, eX9_undo_58x, eX9_undo_58y, eX9_undo_59, eX9_undo_60, eX9_undo_63, eX9_undo_66, eX9_undo_67, eX9_undo_70, if_pos, if_neg, if_true, if_false, Option.bind_some, Option.toList_some, Option.toList_none, List.cons_append, List.nil_append, q3]
  | succ f ih =>
    intro k T hk h5 h4 ha
    have e1 : ((4825 : Int) * (pl : Int) + (k : Int)).toNat = 4825 * pl + k := by omega
    obtain ⟨S', w1, w2⟩ := ih (k + 1) (updM T 594 k (T 595 (4825 * pl + k))) (by omega) (by rw [updM_ne (by omega)]; exact h5) (fun y => by
      rw [updM_eq]
      by_cases c : y = k
      · rw [c, up_eq, if_pos (by omega), h5]
      · rw [up_ne c, h4 y]
        by_cases d : y < k
        · rw [if_pos d, if_pos (by omega)]
        · rw [if_neg d, if_neg (by omega)]) (fun a y1 => by rw [updM_ne y1]; exact ha a y1)
    refine ⟨S', ?_, w2⟩
    rw [← w1, eX9_undo_35]
    simp (disch := omega) only [eX9_undo_0, eX9_undo_1, eX9_undo_4, eX9_undo_7, eX9_undo_9, eX9_undo_10, eX9_undo_11, eX9_undo_12, eX9_undo_15, eX9_undo_16, eX9_undo_17, eX9_undo_20, eX9_undo_21, eX9_undo_24, eX9_undo_25, eX9_undo_28, eX9_undo_29, eX9_undo_31, eX9_undo_32, eX9_undo_33, eX9_undo_34, eX9_undo_36, eX9_undo_39, eX9_undo_42, eX9_undo_43, eX9_undo_46, eX9_undo_47, eX9_undo_48, eX9_undo_51, eX9_undo_54, eX9_undo_55, eX9_undo_56, eX9_undo_57, eX9_undo_58, eX9_undo_58x, eX9_undo_58y, eX9_undo_59, eX9_undo_60, eX9_undo_63, eX9_undo_66, eX9_undo_67, eX9_undo_70, if_pos, if_neg, if_true, if_false, Option.bind_some, Option.toList_some, Option.toList_none, List.cons_append, List.nil_append, e1, Int.toNat_natCast]
    rw [show ((k : Int) + 1) = ((k + 1 : Nat) : Int) by omega]
theorem zz_undo (h : MIs S A m H K V P n) (hm : 0 < m) : ∃ (S' : MM) (A' : Nat → Int), fX9_undo [vR 593] S = some (some (vI ((m : Int) - 1)), S') ∧ MIs S' A' (m - 1) H K V P n ∧ (∀ k, k < 4825 → A' k = H (m - 1) k) ∧ FR S S' := by
  obtain ⟨k9, -⟩ := k9_
  obtain ⟨h0, ⟨pf, p1, p2, p3, p4, p5⟩, hq, h11, hn, h6⟩ := h
  obtain ⟨T, hT⟩ : ∃ T, updM S 593 3 ((m : Int) - 1) = T := ⟨_, rfl⟩
  have q3 : T 593 3 = (m : Int) - 1 := by rw [← hT, updM_eq, up_eq]
  have q2 : T 593 2 = (pf : Int) := by rw [← hT, updM_eq, up_ne (by omega)]; exact p1
  have fT : ∀ a, a ≠ 593 → T a = S a := fun a ha => by rw [← hT, updM_ne ha]
  have em : ((pf : Int) + ((m : Int) - 1)) % 6 = (((pf + (m - 1)) % 6 : Nat) : Int) := by omega
  obtain ⟨S', w1, w2, w3⟩ := l_mUndo (S := T) (pl := (pf + (m - 1)) % 6) (Nat.mod_lt _ (by omega)) 4825 0 T rfl rfl (fun y => by rw [if_neg (by omega)]) (fun _ _ => rfl)
  rw [q3] at w1
  refine ⟨S', S' 594, ?_, ⟨rfl, ⟨pf, by rw [w3 593 (by omega)]; exact q2, p2, by rw [w3 593 (by omega), q3]; omega, by omega, fun j k hj hk => by rw [w3 595 (by omega), fT 595 (by omega)]; exact p5 j k (by omega) hk⟩, fun i hi => by rw [w3 597 (by omega), w3 596 (by omega), fT 597 (by omega), fT 596 (by omega)]; exact hq i hi, by rw [w3 593 (by omega), ← hT, updM_eq, up_ne (by omega)]; exact h11, hn, fun k hk => by rw [w3 600 (by omega), fT 600 (by omega)]; exact h6 k hk⟩, fun k hk => by rw [w2, if_pos hk, fT 595 (by omega)]; exact p5 (m - 1) k (by omega) hk, fun a ha => by rw [w3 a (by omega), fT a (by omega)]⟩
  rw [← w1, uX9_undo]
  simp (disch := omega) only [eX9_undo_0, eX9_undo_1, eX9_undo_4, eX9_undo_7, eX9_undo_9, eX9_undo_10, eX9_undo_11, eX9_undo_12, eX9_undo_15, eX9_undo_16, eX9_undo_17, eX9_undo_20, eX9_undo_21, eX9_undo_24, eX9_undo_25, eX9_undo_28, eX9_undo_29, eX9_undo_31, eX9_undo_32, eX9_undo_33, eX9_undo_34, eX9_undo_36, eX9_undo_39, eX9_undo_42, eX9_undo_43, eX9_undo_46, eX9_undo_47, eX9_undo_48, eX9_undo_51, eX9_undo_54, eX9_undo_55, eX9_undo_56, eX9_undo_57, eX9_undo_58, eX9_undo_58x, eX9_undo_58y, eX9_undo_59, eX9_undo_60, eX9_undo_63, eX9_undo_66, eX9_undo_67, eX9_undo_70, if_pos, if_neg, if_true, if_false, Option.bind_some, Option.toList_some, Option.toList_none, List.cons_append, List.nil_append, p3, hT, q2, q3, em]
  rfl
theorem zz_undo0 (h : MIs S A 0 H K V P n) : fX9_undo [vR 593] S = some (some (vI (-5)), S) := by
  obtain ⟨k9, -⟩ := k9_
  obtain ⟨h0, ⟨pf, p1, p2, p3, p4, p5⟩, hq⟩ := h
  rw [uX9_undo]
  simp (disch := omega) only [eX9_undo_0, eX9_undo_1, eX9_undo_4, eX9_undo_7, eX9_undo_9, eX9_undo_10, eX9_undo_11, eX9_undo_12, eX9_undo_15, eX9_undo_16, eX9_undo_17, eX9_undo_20, eX9_undo_21, eX9_undo_24, eX9_undo_25, eX9_undo_28, eX9_undo_29, eX9_undo_31, eX9_undo_32, eX9_undo_33, eX9_undo_34, eX9_undo_36, eX9_undo_39, eX9_undo_42, eX9_undo_43, eX9_undo_46, eX9_undo_47, eX9_undo_48, eX9_undo_51, eX9_undo_54, eX9_undo_55, eX9_undo_56, eX9_undo_57, eX9_undo_58, eX9_undo_58x, eX9_undo_58y, eX9_undo_59, eX9_undo_60, eX9_undo_63, eX9_undo_66, eX9_undo_67, eX9_undo_70, if_pos, if_neg, if_true, if_false, Option.bind_some, Option.toList_some, Option.toList_none, List.cons_append, List.nil_append, p3]
/-! slots -/
theorem l_mSave {i : Nat} (hi : i < 2) : ∀ (f k : Nat) (T : MM), k + f = 4825 → T 594 = S 594 → (∀ y : Nat, T 596 y = if 4825 * i ≤ y ∧ y < 4825 * i + k then S 594 (y - 4825 * i) else S 596 y) → (∀ a, a ≠ 596 → T a = S a) → ∃ S', rn xX9_save (14, [some (vR 593), some (vI (i : Int)), some (vI (k : Int))], [], T) = rn xX9_save (45, [some (vR 593), some (vI (i : Int)), some (vI 4825)], [], S') ∧ (∀ y : Nat, S' 596 y = if 4825 * i ≤ y ∧ y < 4825 * i + 4825 then S 594 (y - 4825 * i) else S 596 y) ∧ (∀ a, a ≠ 596 → S' a = S a) := by
  obtain ⟨k0, a0, k1, a1, k2, a2, -⟩ := mk
  intro f
  induction f with
  | zero =>
    intro k T hk h4 h5 ha
    have e : k = 4825 := by omega
    subst e
    refine ⟨T, ?_, h5, ha⟩
    rw [eX9_save_14]
    simp (disch := omega) only [eX9_save_0, eX9_save_1, eX9_save_2, eX9_save_3, eX9_save_6, eX9_save_9, eX9_save_11, eX9_save_12, eX9_save_13, eX9_save_15, eX9_save_18, eX9_save_21, eX9_save_22, eX9_save_25, eX9_save_28, eX9_save_29, eX9_save_30, eX9_save_31, eX9_save_32, eX9_save_33, eX9_save_36, eX9_save_37, eX9_save_37x, eX9_save_37y, eX9_save_38, eX9_save_39, eX9_save_42, eX9_save_45, eX9_save_46, eX9_save_49, eX9_save_50, eX9_save_51, eX9_save_52, eX9_save_53, eX9_save_54, eX9_save_57, if_pos, if_neg, if_true, if_false, Option.bind_some, Option.toList_some, Option.toList_none, List.cons_append, List.nil_append]
    rfl
  | succ f ih =>
    intro k T hk h4 h5 ha
    have e1 : ((4825 : Int) * (i : Int) + (k : Int)).toNat = 4825 * i + k := by omega
    obtain ⟨S', w1, w2⟩ := ih (k + 1) (updM T 596 (4825 * i + k) (T 594 k)) (by omega) (by rw [updM_ne (by omega)]; exact h4) (fun y => by
      rw [updM_eq]
      by_cases c : y = 4825 * i + k
      · rw [c, up_eq, if_pos (by omega), h4, show 4825 * i + k - 4825 * i = k by omega]
      · rw [up_ne c, h5 y]
        by_cases d : 4825 * i ≤ y ∧ y < 4825 * i + k
        · rw [if_pos d, if_pos (by omega)]
        · rw [if_neg d, if_neg (by omega)]) (fun a y1 => by rw [updM_ne y1]; exact ha a y1)
    refine ⟨S', ?_, w2⟩
    rw [← w1, eX9_save_14]
    simp (disch := omega) only [eX9_save_0, eX9_save_1, eX9_save_2, eX9_save_3, eX9_save_6, eX9_save_9, eX9_save_11, eX9_save_12, eX9_save_13, eX9_save_15, eX9_save_18, eX9_save_21, eX9_save_22, eX9_save_25, eX9_save_28, eX9_save_29, eX9_save_30, eX9_save_31, eX9_save_32, eX9_save_33, eX9_save_36, eX9_save_37, eX9_save_37x, eX9_save_37y, eX9_save_38, eX9_save_39, eX9_save_42, eX9_save_45, eX9_save_46, eX9_save_49, eX9_save_50, eX9_save_51, eX9_save_52, eX9_save_53, eX9_save_54, eX9_save_57, if_pos, if_neg, if_true, if_false, Option.bind_some, Option.toList_some, Option.toList_none, List.cons_append, List.nil_append, e1, Int.toNat_natCast]
    rw [show ((k : Int) + 1) = ((k + 1 : Nat) : Int) by omega]
theorem zz_saveX {i : Int} (hi : rng i) (hn : ¬ (0 ≤ i ∧ i ≤ 1)) : fX9_save [vR 593, vI i] S = some (some (vI (-2)), S) := by
  have e1 := z_in (S := S) (a := i) (b := 0) (c := 1) hi ⟨by omega, by omega⟩ ⟨by omega, by omega⟩
  rw [if_neg hn] at e1
  rw [uX9_save]
  simp (disch := omega) only [eX9_save_0, eX9_save_1, eX9_save_2, eX9_save_3, eX9_save_6, eX9_save_9, eX9_save_11, eX9_save_12, eX9_save_13, eX9_save_15, eX9_save_18, eX9_save_21, eX9_save_22, eX9_save_25, eX9_save_28, eX9_save_29, eX9_save_30, eX9_save_31, eX9_save_32, eX9_save_33, eX9_save_36, eX9_save_37, eX9_save_37x, eX9_save_37y, eX9_save_38, eX9_save_39, eX9_save_42, eX9_save_45, eX9_save_46, eX9_save_49, eX9_save_50, eX9_save_51, eX9_save_52, eX9_save_53, eX9_save_54, eX9_save_57, if_pos, if_neg, if_true, if_false, Option.bind_some, Option.toList_some, Option.toList_none, List.cons_append, List.nil_append, e1]
theorem zz_save {i : Nat} (h : MIs S A m H K V P n) (ok : AOk A) (hi : i < 2) : ∃ S', fX9_save [vR 593, vI (i : Int)] S = some (some (vI (sumR A)), S') ∧ MIs S' A m H (up K i 1) (fun j => if j = i then A else V j) P n ∧ FR S S' := by
  obtain ⟨k0, a0, k1, a1, k2, a2, k3, a3, -⟩ := mk
  have e1 := z_in (S := S) (a := (i : Int)) (b := 0) (c := 1) ⟨by omega, by omega⟩ ⟨by omega, by omega⟩ ⟨by omega, by omega⟩
  rw [if_pos (by omega)] at e1
  obtain ⟨T, w1, w2, w3⟩ := l_mSave (S := S) hi 4825 0 S rfl rfl (fun y => by rw [if_neg (by omega)]) (fun _ _ => rfl)
  obtain ⟨S', hS'⟩ : ∃ U, updM T 597 i 1 = U := ⟨_, rfl⟩
  have fr : ∀ a, a ≠ 596 → a ≠ 597 → S' a = S a := fun a y1 y2 => by rw [← hS', updM_ne y2, w3 a y1]
  have hM : MIs S' A m H (up K i 1) (fun j => if j = i then A else V j) P n := by
    obtain ⟨h0, hP, hq, h11, hn, h6⟩ := h
    have g9 := fr 593 (by omega) (by omega)
    refine ⟨by rw [fr 594 (by omega) (by omega)]; exact h0, by rw [g9, fr 595 (by omega) (by omega)]; exact hP, fun j hj => ?_, by rw [g9]; exact h11, hn, fun k hk => by rw [fr 600 (by omega) (by omega)]; exact h6 k hk⟩
    obtain ⟨g1, g2, g3⟩ := hq j hj
    have e6 : S' 596 = T 596 := by rw [← hS', updM_ne (by omega)]
    by_cases c : j = i
    · subst c
      rw [up_eq]
      refine ⟨by rw [← hS', updM_eq, up_eq], Or.inr rfl, fun _ k hk => ?_⟩
      simp only [if_pos]
      rw [e6, w2, if_pos (by omega), show 4825 * j + k - 4825 * j = k by omega, h0]
    · rw [up_ne c]
      refine ⟨by rw [← hS', updM_eq, up_ne c, w3 597 (by omega)]; exact g1, g2, fun y k hk => ?_⟩
      simp only [if_neg c]
      rw [e6, w2, if_neg (by omega)]
      exact g3 y k hk
  have e2 := zz_count (what := 0) hM ok ⟨by omega, by omega⟩
  have e3 : cntF A m n 0 = sumR A := rfl
  rw [e3] at e2
  refine ⟨S', ?_, hM, fun a ha => fr a (by omega) (by omega)⟩
  rw [show ((0 : Nat) : Int) = 0 from rfl] at w1
  rw [uX9_save]
  simp (disch := omega) only [eX9_save_0, eX9_save_1, eX9_save_2, eX9_save_3, eX9_save_6, eX9_save_9, eX9_save_11, eX9_save_12, eX9_save_13, eX9_save_15, eX9_save_18, eX9_save_21, eX9_save_22, eX9_save_25, eX9_save_28, eX9_save_29, eX9_save_30, eX9_save_31, eX9_save_32, eX9_save_33, eX9_save_36, eX9_save_37, eX9_save_37x, eX9_save_37y, eX9_save_38, eX9_save_39, eX9_save_42, eX9_save_45, eX9_save_46, eX9_save_49, eX9_save_50, eX9_save_51, eX9_save_52, eX9_save_53, eX9_save_54, eX9_save_57, if_pos, if_neg, if_true, if_false, Option.bind_some, Option.toList_some, Option.toList_none, List.cons_append, List.nil_append, e1]
  rw [w1]
  simp (disch := omega) only [eX9_save_0, eX9_save_1, eX9_save_2, eX9_save_3, eX9_save_6, eX9_save_9, eX9_save_11, eX9_save_12, eX9_save_13, eX9_save_15, eX9_save_18, eX9_save_21, eX9_save_22, eX9_save_25, eX9_save_28, eX9_save_29, eX9_save_30, eX9_save_31, eX9_save_32, eX9_save_33, eX9_save_36, eX9_save_37, eX9_save_37x, eX9_save_37y, eX9_save_38, eX9_save_39, eX9_save_42, eX9_save_45, eX9_save_46, eX9_save_49, eX9_save_50, eX9_save_51, eX9_save_52, eX9_save_53, eX9_save_54, eX9_save_57, if_pos, if_neg, if_true, if_false, Option.bind_some, Option.toList_some, Option.toList_none, List.cons_append, List.nil_append, Int.toNat_natCast, hS', e2]
theorem l_mRest {i : Nat} (hi : i < 2) : ∀ (f k : Nat) (T : MM), k + f = 4825 → T 596 = S 596 → (∀ y : Nat, T 594 y = if y < k then S 596 (4825 * i + y) else S 594 y) → (∀ a, a ≠ 594 → T a = S a) → ∃ S', rn xX9_restore (30, [some (vR 593), some (vI (i : Int)), some (vI (k : Int))], [], T) = rn xX9_restore (61, [some (vR 593), some (vI (i : Int)), some (vI 4825)], [], S') ∧ (∀ y : Nat, S' 594 y = if y < 4825 then S 596 (4825 * i + y) else S 594 y) ∧ (∀ a, a ≠ 594 → S' a = S a) := by
  obtain ⟨k0, a0, k1, a1, k2, a2, -⟩ := mk
  intro f
  induction f with
  | zero =>
    intro k T hk h5 h4 ha
    have e : k = 4825 := by omega
    subst e
    refine ⟨T, ?_, h4, ha⟩
    rw [eX9_restore_30]
    simp (disch := omega) only [eX9_restore_0, eX9_restore_1, eX9_restore_2, eX9_restore_3, eX9_restore_6, eX9_restore_9, eX9_restore_11, eX9_restore_12, eX9_restore_13, eX9_restore_16, eX9_restore_17, eX9_restore_18, eX9_restore_21, eX9_restore_23, eX9_restore_24, eX9_restore_25, eX9_restore_28, eX9_restore_29, eX9_restore_31, eX9_restore_34, eX9_restore_37, eX9_restore_38, eX9_restore_41, eX9_restore_42, eX9_restore_43, eX9_restore_46, eX9_restore_49, eX9_restore_50, eX9_restore_51, eX9_restore_52, eX9_restore_53, eX9_restore_53x, eX9_restore_53y, eX9_restore_54, eX9_restore_55, eX9_restore_58, eX9_restore_61, eX9_restore_62, eX9_restore_63, eX9_restore_66, if_pos, if_neg, if_true, if_false, Option.bind_some, Option.toList_some, Option.toList_none, List.cons_append, List.nil_append]
    rfl
  | succ f ih =>
    intro k T hk h5 h4 ha
    have e1 : ((4825 : Int) * (i : Int) + (k : Int)).toNat = 4825 * i + k := by omega
    obtain ⟨S', w1, w2⟩ := ih (k + 1) (updM T 594 k (T 596 (4825 * i + k))) (by omega) (by rw [updM_ne (by omega)]; exact h5) (fun y => by
      rw [updM_eq]
      by_cases c : y = k
      · rw [c, up_eq, if_pos (by omega), h5]
      · rw [up_ne c, h4 y]
        by_cases d : y < k
        · rw [if_pos d, if_pos (by omega)]
        · rw [if_neg d, if_neg (by omega)]) (fun a y1 => by rw [updM_ne y1]; exact ha a y1)
    refine ⟨S', ?_, w2⟩
    rw [← w1, eX9_restore_30]
    simp (disch := omega) only [eX9_restore_0, eX9_restore_1, eX9_restore_2, eX9_restore_3, eX9_restore_6, eX9_restore_9, eX9_restore_11, eX9_restore_12, eX9_restore_13, eX9_restore_16, eX9_restore_17, eX9_restore_18, eX9_restore_21, eX9_restore_23, eX9_restore_24, eX9_restore_25, eX9_restore_28, eX9_restore_29, eX9_restore_31, eX9_restore_34, eX9_restore_37, eX9_restore_38, eX9_restore_41, eX9_restore_42, eX9_restore_43, eX9_restore_46, eX9_restore_49, eX9_restore_50, eX9_restore_51, eX9_restore_52, eX9_restore_53, eX9_restore_53x, eX9_restore_53y, eX9_restore_54, eX9_restore_55, eX9_restore_58, eX9_restore_61, eX9_restore_62, eX9_restore_63, eX9_restore_66, if_pos, if_neg, if_true, if_false, Option.bind_some, Option.toList_some, Option.toList_none, List.cons_append, List.nil_append, e1, Int.toNat_natCast]
    rw [show ((k : Int) + 1) = ((k + 1 : Nat) : Int) by omega]
theorem zz_restoreX {i : Int} (hi : rng i) (hn : ¬ (0 ≤ i ∧ i ≤ 1)) : fX9_restore [vR 593, vI i] S = some (some (vI (-2)), S) := by
  have e1 := z_in (S := S) (a := i) (b := 0) (c := 1) hi ⟨by omega, by omega⟩ ⟨by omega, by omega⟩
  rw [if_neg hn] at e1
  rw [uX9_restore]
  simp (disch := omega) only [eX9_restore_0, eX9_restore_1, eX9_restore_2, eX9_restore_3, eX9_restore_6, eX9_restore_9, eX9_restore_11, eX9_restore_12, eX9_restore_13, eX9_restore_16, eX9_restore_17, eX9_restore_18, eX9_restore_21, eX9_restore_23, eX9_restore_24, eX9_restore_25, eX9_restore_28, eX9_restore_29, eX9_restore_31, eX9_restore_34, eX9_restore_37, eX9_restore_38, eX9_restore_41, eX9_restore_42, eX9_restore_43, eX9_restore_46, eX9_restore_49, eX9_restore_50, eX9_restore_51, eX9_restore_52, eX9_restore_53, eX9_restore_53x, eX9_restore_53y, eX9_restore_54, eX9_restore_55, eX9_restore_58, eX9_restore_61, eX9_restore_62, eX9_restore_63, eX9_restore_66, if_pos, if_neg, if_true, if_false, Option.bind_some, Option.toList_some, Option.toList_none, List.cons_append, List.nil_append, e1]
theorem zz_restoreN {i : Nat} (h : MIs S A m H K V P n) (hi : i < 2) (hk : K i = 0) : fX9_restore [vR 593, vI (i : Int)] S = some (some (vI (-5)), S) := by
  obtain ⟨k0, a0, k1, a1, k2, a2, k3, a3, -⟩ := mk
  have e1 := z_in (S := S) (a := (i : Int)) (b := 0) (c := 1) ⟨by omega, by omega⟩ ⟨by omega, by omega⟩ ⟨by omega, by omega⟩
  rw [if_pos (by omega)] at e1
  have e2 := (h.2.2.1 i hi).1
  rw [hk] at e2
  rw [uX9_restore]
  simp (disch := omega) only [eX9_restore_0, eX9_restore_1, eX9_restore_2, eX9_restore_3, eX9_restore_6, eX9_restore_9, eX9_restore_11, eX9_restore_12, eX9_restore_13, eX9_restore_16, eX9_restore_17, eX9_restore_18, eX9_restore_21, eX9_restore_23, eX9_restore_24, eX9_restore_25, eX9_restore_28, eX9_restore_29, eX9_restore_31, eX9_restore_34, eX9_restore_37, eX9_restore_38, eX9_restore_41, eX9_restore_42, eX9_restore_43, eX9_restore_46, eX9_restore_49, eX9_restore_50, eX9_restore_51, eX9_restore_52, eX9_restore_53, eX9_restore_53x, eX9_restore_53y, eX9_restore_54, eX9_restore_55, eX9_restore_58, eX9_restore_61, eX9_restore_62, eX9_restore_63, eX9_restore_66, if_pos, if_neg, if_true, if_false, Option.bind_some, Option.toList_some, Option.toList_none, List.cons_append, List.nil_append, e1, Int.toNat_natCast, e2]
theorem zz_restore {i : Nat} (h : MIs S A m H K V P n) (hi : i < 2) (hk : K i = 1) (hV : ∀ A', (∀ k, k < 4825 → A' k = V i k) → AOk A') : ∃ (S' : MM) (A' : Nat → Int), fX9_restore [vR 593, vI (i : Int)] S = some (some (vI (sumR A')), S') ∧ MIs S' A' (mM m) (mH m H A) K V P n ∧ (∀ k, k < 4825 → A' k = V i k) ∧ FR S S' := by
  obtain ⟨k0, a0, k1, a1, k2, a2, k3, a3, -⟩ := mk
  have e1 := z_in (S := S) (a := (i : Int)) (b := 0) (c := 1) ⟨by omega, by omega⟩ ⟨by omega, by omega⟩ ⟨by omega, by omega⟩
  rw [if_pos (by omega)] at e1
  have e2 := (h.2.2.1 i hi).1
  rw [hk] at e2
  obtain ⟨S1, e3, m1, j1, f1⟩ := zk h
  obtain ⟨S', w1, w2, w3⟩ := l_mRest (S := S1) hi 4825 0 S1 rfl rfl (fun y => by rw [if_neg (by omega)]) (fun _ _ => rfl)
  have hA' : ∀ k, k < 4825 → S' 594 k = V i k := fun k hk2 => by
    rw [w2, if_pos hk2]
    exact (m1.2.2.1 i hi).2.2 hk k hk2
  have g9 := w3 593 (by omega)
  have hM : MIs S' (S' 594) (mM m) (mH m H A) K V P n := m1.to rfl (by rw [g9]) (by rw [g9]) (by rw [g9]) (w3 _ (by omega)) (w3 _ (by omega)) (w3 _ (by omega)) (w3 _ (by omega))
  have e4 := zz_count (what := 0) hM (hV _ hA') ⟨by omega, by omega⟩
  have e5 : cntF (S' 594) (mM m) n 0 = sumR (S' 594) := rfl
  rw [e5] at e4
  refine ⟨S', S' 594, ?_, hM, hA', fun a ha => by rw [w3 a (by omega), f1 a (by omega) (by omega)]⟩
  rw [show ((0 : Nat) : Int) = 0 from rfl] at w1
  rw [uX9_restore]
  simp (disch := omega) only [eX9_restore_0, eX9_restore_1, eX9_restore_2, eX9_restore_3, eX9_restore_6, eX9_restore_9, eX9_restore_11, eX9_restore_12, eX9_restore_13, eX9_restore_16, eX9_restore_17, eX9_restore_18, eX9_restore_21, eX9_restore_23, eX9_restore_24, eX9_restore_25, eX9_restore_28, eX9_restore_29, eX9_restore_31, eX9_restore_34, eX9_restore_37, eX9_restore_38, eX9_restore_41, eX9_restore_42, eX9_restore_43, eX9_restore_46, eX9_restore_49, eX9_restore_50, eX9_restore_51, eX9_restore_52, eX9_restore_53, eX9_restore_53x, eX9_restore_53y, eX9_restore_54, eX9_restore_55, eX9_restore_58, eX9_restore_61, eX9_restore_62, eX9_restore_63, eX9_restore_66, if_pos, if_neg, if_true, if_false, Option.bind_some, Option.toList_some, Option.toList_none, List.cons_append, List.nil_append, e1, Int.toNat_natCast, e2, e3]
  rw [w1]
  simp (disch := omega) only [eX9_restore_0, eX9_restore_1, eX9_restore_2, eX9_restore_3, eX9_restore_6, eX9_restore_9, eX9_restore_11, eX9_restore_12, eX9_restore_13, eX9_restore_16, eX9_restore_17, eX9_restore_18, eX9_restore_21, eX9_restore_23, eX9_restore_24, eX9_restore_25, eX9_restore_28, eX9_restore_29, eX9_restore_31, eX9_restore_34, eX9_restore_37, eX9_restore_38, eX9_restore_41, eX9_restore_42, eX9_restore_43, eX9_restore_46, eX9_restore_49, eX9_restore_50, eX9_restore_51, eX9_restore_52, eX9_restore_53, eX9_restore_53x, eX9_restore_53y, eX9_restore_54, eX9_restore_55, eX9_restore_58, eX9_restore_61, eX9_restore_62, eX9_restore_63, eX9_restore_66, if_pos, if_neg, if_true, if_false, Option.bind_some, Option.toList_some, Option.toList_none, List.cons_append, List.nil_append, e4]
end MO28

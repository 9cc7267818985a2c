/-! carrying a text out: orders -/
section CO2
variable {S S' : MM} {A A' : Nat → Int} {m : Nat} {H : Nat → Nat → Int} {K : Nat → Int} {V : Nat → Nat → Int} {P : Nat → Int} {n : Nat}
theorem crO_d : crO (100, 0, []) A = if errDry A < 0 then (false, A) else (true, mDry A) := by
  unfold crO
  rw [if_neg (show ¬ ((100 : Int) = 115) by decide), if_neg (show ¬ ((100 : Int) = 102) by decide), if_pos (show (100 : Int) = 100 from rfl)]
theorem crO_g : crO (103, 0, []) A = (true, mBegin A) := by
  unfold crO
  rw [if_neg (show ¬ ((103 : Int) = 115) by decide), if_neg (show ¬ ((103 : Int) = 102) by decide), if_neg (show ¬ ((103 : Int) = 100) by decide), if_pos (show (103 : Int) = 103 from rfl)]
theorem crO_l : crO (108, 0, []) A = if A 4 = 1 then (true, mLeap A (RA A)) else (false, A) := by
  unfold crO
  rw [if_neg (show ¬ ((108 : Int) = 115) by decide), if_neg (show ¬ ((108 : Int) = 102) by decide), if_neg (show ¬ ((108 : Int) = 100) by decide), if_neg (show ¬ ((108 : Int) = 103) by decide)]
theorem crO_f {w a b t : Int} : crO (102, w, [(a, b, t)]) A = if errFl w a b < 0 then (false, A) else (true, mTake A w a b) := by
  unfold crO
  rw [if_neg (show ¬ ((102 : Int) = 115) by decide), if_pos (show (102 : Int) = 102 from rfl)]
  rfl
theorem crO_s {w : Int} {l : List (Int × Int × Int)} : crO (115, w, l) A = crL w l A := by
  unfold crO
  rw [if_pos (show (115 : Int) = 115 from rfl)]
theorem s_carryA {c : Int} (hc : c = 100 ∨ c = 103 ∨ c = 108) (hk : S 69 3 = c) (h : SceneIs S 1 A) (hT : TNS S) : ∃ S', fX8_carryOrder [vR 0] S = some (some (vI (if (crO (c, 0, []) A).1 = true then 1 else 0)), S') ∧ SceneIs S' 1 (crO (c, 0, []) A).2 ∧ (∀ c, c < 1 ∨ 65 ≤ c → S' c = S c) := by
  have k0 := k69
  have e1 := g_kind (S := S) (by omega)
  rw [hk] at e1
  have hs := scn0
  have hc' := hs.2.2.2.2
  obtain ⟨k1, -⟩ := id hs
  obtain ⟨⟨c0, -⟩, -⟩ := id hc'
  rw [uX8_carryOrder]
  rcases hc with rfl | rfl | rfl
  · rw [crO_d]
    have e2 := s_errorOfDrying (S := S) hs h
    rcases errDry_v (A := A) with z | ⟨z, z2⟩
    · have hz : ¬ errDry A < 0 := by omega
      rw [if_neg hz, if_pos rfl]
      rw [z] at e2
      obtain ⟨T, e3, g1, g2⟩ := s_giveBack hs h z
      refine ⟨T, ?_, g1, fun c hc => g2 c (by omega)⟩
      simp (disch := omega) only [eX8_carryOrder_0, eX8_carryOrder_1, eX8_carryOrder_4, eX8_carryOrder_7, eX8_carryOrder_8, eX8_carryOrder_9, eX8_carryOrder_11, eX8_carryOrder_14, eX8_carryOrder_15, eX8_carryOrder_18, eX8_carryOrder_19, eX8_carryOrder_22, eX8_carryOrder_25, eX8_carryOrder_26, eX8_carryOrder_29, eX8_carryOrder_32, eX8_carryOrder_33, eX8_carryOrder_36, eX8_carryOrder_39, eX8_carryOrder_42, eX8_carryOrder_45, eX8_carryOrder_46, eX8_carryOrder_49, eX8_carryOrder_50, eX8_carryOrder_51, eX8_carryOrder_52, eX8_carryOrder_55, eX8_carryOrder_56, eX8_carryOrder_59, eX8_carryOrder_60, eX8_carryOrder_63, eX8_carryOrder_66, eX8_carryOrder_67, eX8_carryOrder_70, eX8_carryOrder_73, eX8_carryOrder_74, eX8_carryOrder_77, eX8_carryOrder_80, eX8_carryOrder_83, eX8_carryOrder_84, eX8_carryOrder_85, eX8_carryOrder_86, eX8_carryOrder_87, eX8_carryOrder_89, eX8_carryOrder_92, eX8_carryOrder_93, eX8_carryOrder_96, eX8_carryOrder_99, eX8_carryOrder_102, eX8_carryOrder_103, eX8_carryOrder_106, eX8_carryOrder_107, eX8_carryOrder_108, eX8_carryOrder_109, eX8_carryOrder_112, eX8_carryOrder_113, eX8_carryOrder_116, eX8_carryOrder_119, eX8_carryOrder_120, eX8_carryOrder_121, eX8_carryOrder_122, eX8_carryOrder_123, eX8_carryOrder_125, eX8_carryOrder_128, eX8_carryOrder_129, eX8_carryOrder_132, eX8_carryOrder_135, eX8_carryOrder_136, eX8_carryOrder_137, eX8_carryOrder_138, eX8_carryOrder_139, eX8_carryOrder_141, eX8_carryOrder_144, eX8_carryOrder_145, eX8_carryOrder_148, eX8_carryOrder_151, eX8_carryOrder_154, eX8_carryOrder_155, eX8_carryOrder_156, eX8_carryOrder_159, eX8_carryOrder_160, eX8_carryOrder_163, eX8_carryOrder_166, eX8_carryOrder_167, eX8_carryOrder_168, eX8_carryOrder_169, eX8_carryOrder_170, eX8_carryOrder_173, if_pos, if_neg, if_true, if_false, Option.bind_some, Option.toList_some, Option.toList_none, List.cons_append, List.nil_append, e1, e2, e3]
    · rw [if_pos z, if_neg (fun q => ft q)]
      refine ⟨S, ?_, h, fun _ _ => rfl⟩
      simp (disch := omega) only [eX8_carryOrder_0, eX8_carryOrder_1, eX8_carryOrder_4, eX8_carryOrder_7, eX8_carryOrder_8, eX8_carryOrder_9, eX8_carryOrder_11, eX8_carryOrder_14, eX8_carryOrder_15, eX8_carryOrder_18, eX8_carryOrder_19, eX8_carryOrder_22, eX8_carryOrder_25, eX8_carryOrder_26, eX8_carryOrder_29, eX8_carryOrder_32, eX8_carryOrder_33, eX8_carryOrder_36, eX8_carryOrder_39, eX8_carryOrder_42, eX8_carryOrder_45, eX8_carryOrder_46, eX8_carryOrder_49, eX8_carryOrder_50, eX8_carryOrder_51, eX8_carryOrder_52, eX8_carryOrder_55, eX8_carryOrder_56, eX8_carryOrder_59, eX8_carryOrder_60, eX8_carryOrder_63, eX8_carryOrder_66, eX8_carryOrder_67, eX8_carryOrder_70, eX8_carryOrder_73, eX8_carryOrder_74, eX8_carryOrder_77, eX8_carryOrder_80, eX8_carryOrder_83, eX8_carryOrder_84, eX8_carryOrder_85, eX8_carryOrder_86, eX8_carryOrder_87, eX8_carryOrder_89, eX8_carryOrder_92, eX8_carryOrder_93, eX8_carryOrder_96, eX8_carryOrder_99, eX8_carryOrder_102, eX8_carryOrder_103, eX8_carryOrder_106, eX8_carryOrder_107, eX8_carryOrder_108, eX8_carryOrder_109, eX8_carryOrder_112, eX8_carryOrder_113, eX8_carryOrder_116, eX8_carryOrder_119, eX8_carryOrder_120, eX8_carryOrder_121, eX8_carryOrder_122, eX8_carryOrder_123, eX8_carryOrder_125, eX8_carryOrder_128, eX8_carryOrder_129, eX8_carryOrder_132, eX8_carryOrder_135, eX8_carryOrder_136, eX8_carryOrder_137, eX8_carryOrder_138, eX8_carryOrder_139, eX8_carryOrder_141, eX8_carryOrder_144, eX8_carryOrder_145, eX8_carryOrder_148, eX8_carryOrder_151, eX8_carryOrder_154, eX8_carryOrder_155, eX8_carryOrder_156, eX8_carryOrder_159, eX8_carryOrder_160, eX8_carryOrder_163, eX8_carryOrder_166, eX8_carryOrder_167, eX8_carryOrder_168, eX8_carryOrder_169, eX8_carryOrder_170, eX8_carryOrder_173, if_pos, if_neg, if_true, if_false, Option.bind_some, Option.toList_some, Option.toList_none, List.cons_append, List.nil_append, e1, e2]
  · rw [crO_g, if_pos rfl]
    obtain ⟨T, e3, g1, g2⟩ := s_scStart hs h hT (by omega)
    refine ⟨T, ?_, g1, fun c hc => g2 c (by omega)⟩
    simp (disch := omega) only [eX8_carryOrder_0, eX8_carryOrder_1, eX8_carryOrder_4, eX8_carryOrder_7, eX8_carryOrder_8, eX8_carryOrder_9, eX8_carryOrder_11, eX8_carryOrder_14, eX8_carryOrder_15, eX8_carryOrder_18, eX8_carryOrder_19, eX8_carryOrder_22, eX8_carryOrder_25, eX8_carryOrder_26, eX8_carryOrder_29, eX8_carryOrder_32, eX8_carryOrder_33, eX8_carryOrder_36, eX8_carryOrder_39, eX8_carryOrder_42, eX8_carryOrder_45, eX8_carryOrder_46, eX8_carryOrder_49, eX8_carryOrder_50, eX8_carryOrder_51, eX8_carryOrder_52, eX8_carryOrder_55, eX8_carryOrder_56, eX8_carryOrder_59, eX8_carryOrder_60, eX8_carryOrder_63, eX8_carryOrder_66, eX8_carryOrder_67, eX8_carryOrder_70, eX8_carryOrder_73, eX8_carryOrder_74, eX8_carryOrder_77, eX8_carryOrder_80, eX8_carryOrder_83, eX8_carryOrder_84, eX8_carryOrder_85, eX8_carryOrder_86, eX8_carryOrder_87, eX8_carryOrder_89, eX8_carryOrder_92, eX8_carryOrder_93, eX8_carryOrder_96, eX8_carryOrder_99, eX8_carryOrder_102, eX8_carryOrder_103, eX8_carryOrder_106, eX8_carryOrder_107, eX8_carryOrder_108, eX8_carryOrder_109, eX8_carryOrder_112, eX8_carryOrder_113, eX8_carryOrder_116, eX8_carryOrder_119, eX8_carryOrder_120, eX8_carryOrder_121, eX8_carryOrder_122, eX8_carryOrder_123, eX8_carryOrder_125, eX8_carryOrder_128, eX8_carryOrder_129, eX8_carryOrder_132, eX8_carryOrder_135, eX8_carryOrder_136, eX8_carryOrder_137, eX8_carryOrder_138, eX8_carryOrder_139, eX8_carryOrder_141, eX8_carryOrder_144, eX8_carryOrder_145, eX8_carryOrder_148, eX8_carryOrder_151, eX8_carryOrder_154, eX8_carryOrder_155, eX8_carryOrder_156, eX8_carryOrder_159, eX8_carryOrder_160, eX8_carryOrder_163, eX8_carryOrder_166, eX8_carryOrder_167, eX8_carryOrder_168, eX8_carryOrder_169, eX8_carryOrder_170, eX8_carryOrder_173, if_pos, if_neg, if_true, if_false, Option.bind_some, Option.toList_some, Option.toList_none, List.cons_append, List.nil_append, e1, e3]
  · rw [crO_l]
    have e2 := s_goesOn hc' h.2.2.2.2.2.1
    by_cases z : A 4 = 1
    · rw [if_pos z] at e2
      rw [if_pos z, if_pos rfl]
      obtain ⟨T, e3, g1, g2⟩ := s_scStep hs h hT (by omega) z
      refine ⟨T, ?_, g1, fun c hc => g2 c (by omega)⟩
      simp (disch := omega) only [eX8_carryOrder_0, eX8_carryOrder_1, eX8_carryOrder_4, eX8_carryOrder_7, eX8_carryOrder_8, eX8_carryOrder_9, eX8_carryOrder_11, eX8_carryOrder_14, eX8_carryOrder_15, eX8_carryOrder_18, eX8_carryOrder_19, eX8_carryOrder_22, eX8_carryOrder_25, eX8_carryOrder_26, eX8_carryOrder_29, eX8_carryOrder_32, eX8_carryOrder_33, eX8_carryOrder_36, eX8_carryOrder_39, eX8_carryOrder_42, eX8_carryOrder_45, eX8_carryOrder_46, eX8_carryOrder_49, eX8_carryOrder_50, eX8_carryOrder_51, eX8_carryOrder_52, eX8_carryOrder_55, eX8_carryOrder_56, eX8_carryOrder_59, eX8_carryOrder_60, eX8_carryOrder_63, eX8_carryOrder_66, eX8_carryOrder_67, eX8_carryOrder_70, eX8_carryOrder_73, eX8_carryOrder_74, eX8_carryOrder_77, eX8_carryOrder_80, eX8_carryOrder_83, eX8_carryOrder_84, eX8_carryOrder_85, eX8_carryOrder_86, eX8_carryOrder_87, eX8_carryOrder_89, eX8_carryOrder_92, eX8_carryOrder_93, eX8_carryOrder_96, eX8_carryOrder_99, eX8_carryOrder_102, eX8_carryOrder_103, eX8_carryOrder_106, eX8_carryOrder_107, eX8_carryOrder_108, eX8_carryOrder_109, eX8_carryOrder_112, eX8_carryOrder_113, eX8_carryOrder_116, eX8_carryOrder_119, eX8_carryOrder_120, eX8_carryOrder_121, eX8_carryOrder_122, eX8_carryOrder_123, eX8_carryOrder_125, eX8_carryOrder_128, eX8_carryOrder_129, eX8_carryOrder_132, eX8_carryOrder_135, eX8_carryOrder_136, eX8_carryOrder_137, eX8_carryOrder_138, eX8_carryOrder_139, eX8_carryOrder_141, eX8_carryOrder_144, eX8_carryOrder_145, eX8_carryOrder_148, eX8_carryOrder_151, eX8_carryOrder_154, eX8_carryOrder_155, eX8_carryOrder_156, eX8_carryOrder_159, eX8_carryOrder_160, eX8_carryOrder_163, eX8_carryOrder_166, eX8_carryOrder_167, eX8_carryOrder_168, eX8_carryOrder_169, eX8_carryOrder_170, eX8_carryOrder_173, if_pos, if_neg, if_true, if_false, Option.bind_some, Option.toList_some, Option.toList_none, List.cons_append, List.nil_append, e1, e2, e3]
    · rw [if_neg z] at e2
      rw [if_neg z, if_neg (fun q => ft q)]
      refine ⟨S, ?_, h, fun _ _ => rfl⟩
      simp (disch := omega) only [eX8_carryOrder_0, eX8_carryOrder_1, eX8_carryOrder_4, eX8_carryOrder_7, eX8_carryOrder_8, eX8_carryOrder_9, eX8_carryOrder_11, eX8_carryOrder_14, eX8_carryOrder_15, eX8_carryOrder_18, eX8_carryOrder_19, eX8_carryOrder_22, eX8_carryOrder_25, eX8_carryOrder_26, eX8_carryOrder_29, eX8_carryOrder_32, eX8_carryOrder_33, eX8_carryOrder_36, eX8_carryOrder_39, eX8_carryOrder_42, eX8_carryOrder_45, eX8_carryOrder_46, eX8_carryOrder_49, eX8_carryOrder_50, eX8_carryOrder_51, eX8_carryOrder_52, eX8_carryOrder_55, eX8_carryOrder_56, eX8_carryOrder_59, eX8_carryOrder_60, eX8_carryOrder_63, eX8_carryOrder_66, eX8_carryOrder_67, eX8_carryOrder_70, eX8_carryOrder_73, eX8_carryOrder_74, eX8_carryOrder_77, eX8_carryOrder_80, eX8_carryOrder_83, eX8_carryOrder_84, eX8_carryOrder_85, eX8_carryOrder_86, eX8_carryOrder_87, eX8_carryOrder_89, eX8_carryOrder_92, eX8_carryOrder_93, eX8_carryOrder_96, eX8_carryOrder_99, eX8_carryOrder_102, eX8_carryOrder_103, eX8_carryOrder_106, eX8_carryOrder_107, eX8_carryOrder_108, eX8_carryOrder_109, eX8_carryOrder_112, eX8_carryOrder_113, eX8_carryOrder_116, eX8_carryOrder_119, eX8_carryOrder_120, eX8_carryOrder_121, eX8_carryOrder_122, eX8_carryOrder_123, eX8_carryOrder_125, eX8_carryOrder_128, eX8_carryOrder_129, eX8_carryOrder_132, eX8_carryOrder_135, eX8_carryOrder_136, eX8_carryOrder_137, eX8_carryOrder_138, eX8_carryOrder_139, eX8_carryOrder_141, eX8_carryOrder_144, eX8_carryOrder_145, eX8_carryOrder_148, eX8_carryOrder_151, eX8_carryOrder_154, eX8_carryOrder_155, eX8_carryOrder_156, eX8_carryOrder_159, eX8_carryOrder_160, eX8_carryOrder_163, eX8_carryOrder_166, eX8_carryOrder_167, eX8_carryOrder_168, eX8_carryOrder_169, eX8_carryOrder_170, eX8_carryOrder_173, if_pos, if_neg, if_true, if_false, Option.bind_some, Option.toList_some, Option.toList_none, List.cons_append, List.nil_append, e1, e2]
theorem s_carryB {w a b t : Int} (hk : S 69 3 = 102) (h4 : S 69 4 = w) (h5 : S 69 5 = a) (h6 : S 69 6 = b) (hw : w = -6 ∨ (0 ≤ w ∧ w ≤ 2)) (ha : 0 ≤ a ∧ a ≤ 299) (hb : 0 ≤ b ∧ b ≤ 299) (h : SceneIs S 1 A) : ∃ S', fX8_carryOrder [vR 0] S = some (some (vI (if (crO (102, w, [(a, b, t)]) A).1 = true then 1 else 0)), S') ∧ SceneIs S' 1 (crO (102, w, [(a, b, t)]) A).2 ∧ (∀ c, c < 1 ∨ 65 ≤ c → S' c = S c) := by
  have k0 := k69
  have e1 := g_kind (S := S) (by omega)
  have e4 := g_walker (S := S)
  have e5 := g_from (S := S)
  have e6 := g_to (S := S)
  rw [hk] at e1
  rw [h4] at e4
  rw [h5] at e5
  rw [h6] at e6
  have hs := scn0
  obtain ⟨k1, -⟩ := id hs
  have e2 := s_errorOfFlooding (S := S) (w := w) (a := a) (b := b) hs ⟨by omega, by omega⟩ ⟨by omega, by omega⟩ ⟨by omega, by omega⟩
  rw [show (if w ≠ -6 ∧ ¬ (0 ≤ w ∧ w ≤ 2) then (-1 : Int) else if (0 ≤ a ∧ a ≤ 299) ∧ a ≤ b ∧ b ≤ 299 then 0 else -2) = errFl w a b from rfl] at e2
  have hO : crO (102, w, [(a, b, t)]) A = if errFl w a b < 0 then (false, A) else (true, mTake A w a b) := crO_f
  rw [hO, uX8_carryOrder]
  rcases errFl_v (w := w) (a := a) (b := b) with ⟨z, q1, q2, q3⟩ | ⟨z, z2⟩
  · have hz : ¬ errFl w a b < 0 := by omega
    rw [if_neg hz, if_pos rfl]
    rw [z] at e2
    obtain ⟨T, e3, g1, g2⟩ := s_takeAway hs h q2 q3 q1
    refine ⟨T, ?_, g1, fun c hc => g2 c (by omega)⟩
    simp (disch := omega) only [eX8_carryOrder_0, eX8_carryOrder_1, eX8_carryOrder_4, eX8_carryOrder_7, eX8_carryOrder_8, eX8_carryOrder_9, eX8_carryOrder_11, eX8_carryOrder_14, eX8_carryOrder_15, eX8_carryOrder_18, eX8_carryOrder_19, eX8_carryOrder_22, eX8_carryOrder_25, eX8_carryOrder_26, eX8_carryOrder_29, eX8_carryOrder_32, eX8_carryOrder_33, eX8_carryOrder_36, eX8_carryOrder_39, eX8_carryOrder_42, eX8_carryOrder_45, eX8_carryOrder_46, eX8_carryOrder_49, eX8_carryOrder_50, eX8_carryOrder_51, eX8_carryOrder_52, eX8_carryOrder_55, eX8_carryOrder_56, eX8_carryOrder_59, eX8_carryOrder_60, eX8_carryOrder_63, eX8_carryOrder_66, eX8_carryOrder_67, eX8_carryOrder_70, eX8_carryOrder_73, eX8_carryOrder_74, eX8_carryOrder_77, eX8_carryOrder_80, eX8_carryOrder_83, eX8_carryOrder_84, eX8_carryOrder_85, eX8_carryOrder_86, eX8_carryOrder_87, eX8_carryOrder_89, eX8_carryOrder_92, eX8_carryOrder_93, eX8_carryOrder_96, eX8_carryOrder_99, eX8_carryOrder_102, eX8_carryOrder_103, eX8_carryOrder_106, eX8_carryOrder_107, eX8_carryOrder_108, eX8_carryOrder_109, eX8_carryOrder_112, eX8_carryOrder_113, eX8_carryOrder_116, eX8_carryOrder_119, eX8_carryOrder_120, eX8_carryOrder_121, eX8_carryOrder_122, eX8_carryOrder_123, eX8_carryOrder_125, eX8_carryOrder_128, eX8_carryOrder_129, eX8_carryOrder_132, eX8_carryOrder_135, eX8_carryOrder_136, eX8_carryOrder_137, eX8_carryOrder_138, eX8_carryOrder_139, eX8_carryOrder_141, eX8_carryOrder_144, eX8_carryOrder_145, eX8_carryOrder_148, eX8_carryOrder_151, eX8_carryOrder_154, eX8_carryOrder_155, eX8_carryOrder_156, eX8_carryOrder_159, eX8_carryOrder_160, eX8_carryOrder_163, eX8_carryOrder_166, eX8_carryOrder_167, eX8_carryOrder_168, eX8_carryOrder_169, eX8_carryOrder_170, eX8_carryOrder_173, if_pos, if_neg, if_true, if_false, Option.bind_some, Option.toList_some, Option.toList_none, List.cons_append, List.nil_append, e1, e4, e5, e6, e2, e3]
  · rw [if_pos z, if_neg (fun q => ft q)]
    refine ⟨S, ?_, h, fun _ _ => rfl⟩
    simp (disch := omega) only [eX8_carryOrder_0, eX8_carryOrder_1, eX8_carryOrder_4, eX8_carryOrder_7, eX8_carryOrder_8, eX8_carryOrder_9, eX8_carryOrder_11, eX8_carryOrder_14, eX8_carryOrder_15, eX8_carryOrder_18, eX8_carryOrder_19, eX8_carryOrder_22, eX8_carryOrder_25, eX8_carryOrder_26, eX8_carryOrder_29, eX8_carryOrder_32, eX8_carryOrder_33, eX8_carryOrder_36, eX8_carryOrder_39, eX8_carryOrder_42, eX8_carryOrder_45, eX8_carryOrder_46, eX8_carryOrder_49, eX8_carryOrder_50, eX8_carryOrder_51, eX8_carryOrder_52, eX8_carryOrder_55, eX8_carryOrder_56, eX8_carryOrder_59, eX8_carryOrder_60, eX8_carryOrder_63, eX8_carryOrder_66, eX8_carryOrder_67, eX8_carryOrder_70, eX8_carryOrder_73, eX8_carryOrder_74, eX8_carryOrder_77, eX8_carryOrder_80, eX8_carryOrder_83, eX8_carryOrder_84, eX8_carryOrder_85, eX8_carryOrder_86, eX8_carryOrder_87, eX8_carryOrder_89, eX8_carryOrder_92, eX8_carryOrder_93, eX8_carryOrder_96, eX8_carryOrder_99, eX8_carryOrder_102, eX8_carryOrder_103, eX8_carryOrder_106, eX8_carryOrder_107, eX8_carryOrder_108, eX8_carryOrder_109, eX8_carryOrder_112, eX8_carryOrder_113, eX8_carryOrder_116, eX8_carryOrder_119, eX8_carryOrder_120, eX8_carryOrder_121, eX8_carryOrder_122, eX8_carryOrder_123, eX8_carryOrder_125, eX8_carryOrder_128, eX8_carryOrder_129, eX8_carryOrder_132, eX8_carryOrder_135, eX8_carryOrder_136, eX8_carryOrder_137, eX8_carryOrder_138, eX8_carryOrder_139, eX8_carryOrder_141, eX8_carryOrder_144, eX8_carryOrder_145, eX8_carryOrder_148, eX8_carryOrder_151, eX8_carryOrder_154, eX8_carryOrder_155, eX8_carryOrder_156, eX8_carryOrder_159, eX8_carryOrder_160, eX8_carryOrder_163, eX8_carryOrder_166, eX8_carryOrder_167, eX8_carryOrder_168, eX8_carryOrder_169, eX8_carryOrder_170, eX8_carryOrder_173, if_pos, if_neg, if_true, if_false, Option.bind_some, Option.toList_some, Option.toList_none, List.cons_append, List.nil_append, e1, e4, e5, e6, e2]
/-- reading an order's head and carrying it out -/
theorem s_order {p : Nat} (hT : TX S P n) (hp : S 69 2 = (p : Int)) (hpn : p ≤ n) (h : SceneIs S 1 A) (hN : TNS S) (hok : (Od P n p).1 = true) : ∃ S1 S2 : MM, fX2_readOrder [vR 69] S = some (some (vI 1), S1) ∧ fX8_carryOrder [vR 0] S1 = some (some (vI (if (crO (Od P n p).2.2 A).1 = true then 1 else 0)), S2) ∧ SceneIs S2 1 (crO (Od P n p).2.2 A).2 ∧ ((crO (Od P n p).2.2 A).1 = true → S2 69 2 = ((Od P n p).2.1 : Int)) ∧ S2 69 1 = S 69 1 ∧ (∀ c, c ≠ 69 → c < 1 ∨ 65 ≤ c → S2 c = S c) := by
  have k0 := k69
  have hn8 := hT.2.1
  have hb := nx_b hT p
  unfold Od at hok ⊢
  by_cases cA : nx P n p = 100 ∨ nx P n p = 103 ∨ nx P n p = 108
  · rw [if_pos cA]
    obtain ⟨T, e1, t1, t2, t3, t4⟩ := s_readOrderA hT hp (by omega) cA
    obtain ⟨U, e2, u1, u2⟩ := s_carryA cA t2 (h.rows (fun a _ _ => t4 a (by omega))) (hN.keep (t4 602 (by omega)) (t4 604 (by omega)))
    exact ⟨T, U, e1, e2, u1, fun _ => by rw [u2 69 (by omega)]; exact t1, by rw [u2 69 (by omega), t3], fun c y1 y2 => by rw [u2 c y2, t4 c y1]⟩
  · rw [if_neg cA] at hok ⊢
    by_cases cB : nx P n p = 102
    · rw [if_pos cB] at hok ⊢
      have hpn1 := nx_in2 cB (by omega)
      obtain ⟨b, T, e1, t1, t2, t3, t4, t5, t6⟩ := s_readOrderB hT hp (by omega) cB
      obtain ⟨b1, f4, f5, f6⟩ := t2 hok
      subst b1
      obtain ⟨-, -, g3⟩ := Fl_b (P := P) (n := n) (p := p + 1) (by omega)
      obtain ⟨g4, g5, g6⟩ := g3 hok
      obtain ⟨U, e2, u1, u2⟩ := s_carryB (t := 0) t4 f4 f5 f6 g4 g5 g6 (h.rows (fun a _ _ => t6 a (by omega)))
      exact ⟨T, U, e1, e2, u1, fun _ => by rw [u2 69 (by omega)]; exact t1, by rw [u2 69 (by omega), t5], fun c y1 y2 => by rw [u2 c y2, t6 c y1]⟩
    · rw [if_neg cB] at hok ⊢
      by_cases cC : 48 ≤ nx P n p ∧ nx P n p ≤ 50
      · rw [if_pos cC] at hok ⊢
        obtain ⟨T, e1, t1, t2, t3, t4, t5⟩ := s_readOrderC hT hp (by omega) cC
        by_cases d : nx P n (p + 1) = 58
        · rw [if_pos d] at hok ⊢
          rw [if_pos d] at e1 t1
          have h0 := nx_in2 d (by omega)
          obtain ⟨U, e2, u1, u2, u3, u4⟩ := l_carryS (P := P) (n := n) (w := nx P n p - 48) (by omega) 80 0 T (p + 2) A rfl (hT.row t4 (t5 70 (by omega))) t1 (by omega) t2 (h.rows (fun a _ _ => t5 a (by omega))) hok
          have e3 := g_kind (S := T) (by omega)
          rw [t3] at e3
          have hO : crO (115, nx P n p - 48, (Lst P n 80 (p + 2)).2.2) A = crL (nx P n p - 48) (Lst P n 80 (p + 2)).2.2 A := crO_s
          show ∃ S1 S2 : MM, _ ∧ fX8_carryOrder [vR 0] S1 = some (some (vI (if (crO (115, nx P n p - 48, (Lst P n 80 (p + 2)).2.2) A).1 = true then 1 else 0)), S2) ∧ SceneIs S2 1 (crO (115, nx P n p - 48, (Lst P n 80 (p + 2)).2.2) A).2 ∧ ((crO (115, nx P n p - 48, (Lst P n 80 (p + 2)).2.2) A).1 = true → S2 69 2 = ((Lst P n 80 (p + 2)).2.1 : Int)) ∧ _
          rw [hO]
          have e5 : fX8_carryStones [vR 0] T = some (some (vI (if (crL (nx P n p - 48) (Lst P n 80 (p + 2)).2.2 A).1 = true then 1 else 0)), U) := by
            rw [← e2, uX8_carryStones]
            simp (disch := omega) only [eX8_carryStones_0, eX8_carryStones_1, eX8_carryStones_3, eX8_carryStones_5, eX8_carryStones_8, eX8_carryStones_9, eX8_carryStones_12, eX8_carryStones_15, eX8_carryStones_18, eX8_carryStones_19, eX8_carryStones_20, eX8_carryStones_23, eX8_carryStones_26, eX8_carryStones_27, eX8_carryStones_30, eX8_carryStones_33, eX8_carryStones_34, eX8_carryStones_37, eX8_carryStones_40, eX8_carryStones_41, eX8_carryStones_44, eX8_carryStones_47, eX8_carryStones_50, eX8_carryStones_53, eX8_carryStones_54, eX8_carryStones_55, eX8_carryStones_56, eX8_carryStones_59, eX8_carryStones_61, eX8_carryStones_64, eX8_carryStones_67, eX8_carryStones_68, eX8_carryStones_69, eX8_carryStones_72, eX8_carryStones_75, eX8_carryStones_76, if_pos, if_neg, if_true, if_false, Option.bind_some, Option.toList_some, Option.toList_none, List.cons_append, List.nil_append]
            rfl
          refine ⟨T, U, e1, ?_, u1, u2, by rw [u3, t4], fun c y1 y2 => by rw [u4 c y1 y2, t5 c y1]⟩
          have hz : (if (crL (nx P n p - 48) (Lst P n 80 (p + 2)).2.2 A).1 = true then (1 : Int) else 0) = 0 ∨ (if (crL (nx P n p - 48) (Lst P n 80 (p + 2)).2.2 A).1 = true then (1 : Int) else 0) = 1 := by
            split
            · exact Or.inr rfl
            · exact Or.inl rfl
          generalize (if (crL (nx P n p - 48) (Lst P n 80 (p + 2)).2.2 A).1 = true then (1 : Int) else 0) = z at e5 hz ⊢
          rw [uX8_carryOrder]
          simp (disch := omega) only [eX8_carryOrder_0, eX8_carryOrder_1, eX8_carryOrder_4, eX8_carryOrder_7, eX8_carryOrder_8, eX8_carryOrder_9, eX8_carryOrder_11, eX8_carryOrder_14, eX8_carryOrder_15, eX8_carryOrder_18, eX8_carryOrder_19, eX8_carryOrder_22, eX8_carryOrder_25, eX8_carryOrder_26, eX8_carryOrder_29, eX8_carryOrder_32, eX8_carryOrder_33, eX8_carryOrder_36, eX8_carryOrder_39, eX8_carryOrder_42, eX8_carryOrder_45, eX8_carryOrder_46, eX8_carryOrder_49, eX8_carryOrder_50, eX8_carryOrder_51, eX8_carryOrder_52, eX8_carryOrder_55, eX8_carryOrder_56, eX8_carryOrder_59, eX8_carryOrder_60, eX8_carryOrder_63, eX8_carryOrder_66, eX8_carryOrder_67, eX8_carryOrder_70, eX8_carryOrder_73, eX8_carryOrder_74, eX8_carryOrder_77, eX8_carryOrder_80, eX8_carryOrder_83, eX8_carryOrder_84, eX8_carryOrder_85, eX8_carryOrder_86, eX8_carryOrder_87, eX8_carryOrder_89, eX8_carryOrder_92, eX8_carryOrder_93, eX8_carryOrder_96, eX8_carryOrder_99, eX8_carryOrder_102, eX8_carryOrder_103, eX8_carryOrder_106, eX8_carryOrder_107, eX8_carryOrder_108, eX8_carryOrder_109, eX8_carryOrder_112, eX8_carryOrder_113, eX8_carryOrder_116, eX8_carryOrder_119, eX8_carryOrder_120, eX8_carryOrder_121, eX8_carryOrder_122, eX8_carryOrder_123, eX8_carryOrder_125, eX8_carryOrder_128, eX8_carryOrder_129, eX8_carryOrder_132, eX8_carryOrder_135, eX8_carryOrder_136, eX8_carryOrder_137, eX8_carryOrder_138, eX8_carryOrder_139, eX8_carryOrder_141, eX8_carryOrder_144, eX8_carryOrder_145, eX8_carryOrder_148, eX8_carryOrder_151, eX8_carryOrder_154, eX8_carryOrder_155, eX8_carryOrder_156, eX8_carryOrder_159, eX8_carryOrder_160, eX8_carryOrder_163, eX8_carryOrder_166, eX8_carryOrder_167, eX8_carryOrder_168, eX8_carryOrder_169, eX8_carryOrder_170, eX8_carryOrder_173, if_pos, if_neg, if_true, if_false, Option.bind_some, Option.toList_some, Option.toList_none, List.cons_append, List.nil_append, e3, e5]
        · rw [if_neg d] at hok
          exact ft hok
      · rw [if_neg cC] at hok
        exact ft hok
theorem l_carryT : ∀ (f i : Nat) (c : Int) (S : MM) (p : Nat) (A : Nat → Int), i + f = 80 → (0 ≤ c ∧ c ≤ i) → TX S P n → S 69 2 = (p : Int) → p ≤ n → SceneIs S 1 A → TNS S → (Tx P n f p).1 = true → ∃ (S' : MM) (x : Option VV), rn xX8_carryOut (30, [some (vR 0), some (vI c), some (vI i)], [], S) = rn xX8_carryOut (80, [some (vR 0), some (vI (c + (crT (Tx P n f p).2.2 A).1)), x], [], S') ∧ SceneIs S' 1 (crT (Tx P n f p).2.2 A).2 ∧ (∀ c, c ≠ 69 → c < 1 ∨ 65 ≤ c → S' c = S c) := by
  intro f
  induction f with
  | zero => intro i c S p A _ _ _ _ _ _ _ hok; exact ft hok
  | succ f ih =>
    intro i c S p A hi hc hT hp hpn h hN hok
    have k0 := k69
    have hn8 := hT.2.1
    obtain ⟨g1, g2, g3⟩ := Od_b (P := P) hpn
    rw [Tx] at hok ⊢
    rw [eX8_carryOut_30]
    by_cases o : (Od P n p).1 = true
    · rw [if_pos o] at hok ⊢
      have g4 := g3 o
      obtain ⟨T, U, e1, e2, u1, u2, u3, u4⟩ := s_order hT hp hpn h hN o
      have hTU : TX U P n := hT.row u3 (u4 70 (by omega) (by omega))
      have hNU : TNS U := hN.keep (u4 602 (by omega) (by omega)) (u4 604 (by omega) (by omega))
      by_cases cr : (crO (Od P n p).2.2 A).1 = true
      · rw [if_pos cr] at e2
        have hpU := u2 cr
        have e3 := s_pass hTU hpU (by omega) (c := 59) (by omega)
        by_cases l : (Od P n p).2.1 < n
        · rw [if_pos l] at hok ⊢
          by_cases d : nx P n (Od P n p).2.1 = 59
          · rw [if_pos d] at e3 hok ⊢
            have hcr : crT ((Od P n p).2.2 :: (Tx P n f ((Od P n p).2.1 + 1)).2.2) A = ((crT (Tx P n f ((Od P n p).2.1 + 1)).2.2 (crO (Od P n p).2.2 A).2).1 + 1, (crT (Tx P n f ((Od P n p).2.1 + 1)).2.2 (crO (Od P n p).2.2 A).2).2) := by rw [crT, if_pos cr]
            show ∃ (S' : MM) (x : Option VV), _ = rn xX8_carryOut (80, [some (vR 0), some (vI (c + (crT ((Od P n p).2.2 :: (Tx P n f ((Od P n p).2.1 + 1)).2.2) A).1)), x], [], S') ∧ SceneIs S' 1 (crT ((Od P n p).2.2 :: (Tx P n f ((Od P n p).2.1 + 1)).2.2) A).2 ∧ _
            rw [hcr]
            obtain ⟨S', x, w1, w2, w3'⟩ := ih (i + 1) (c + 1) (updM U 69 2 (((Od P n p).2.1 + 1 : Nat) : Int)) ((Od P n p).2.1 + 1) (crO (Od P n p).2.2 A).2 (by omega) (by omega) (hTU.up (by omega)) (by rw [updM_eq, up_eq]) (by omega) (u1.rows (fun a _ _ => updM_ne (by omega))) (hNU.keep (updM_ne (by omega)) (updM_ne (by omega))) hok
            refine ⟨S', x, ?_, w2, fun c y1 y2 => by rw [w3' c y1 y2, updM_ne y1, u4 c y1 y2]⟩
            rw [show c + (((crT (Tx P n f ((Od P n p).2.1 + 1)).2.2 (crO (Od P n p).2.2 A).2).1 + 1 : Nat) : Int) = c + 1 + ((crT (Tx P n f ((Od P n p).2.1 + 1)).2.2 (crO (Od P n p).2.2 A).2).1 : Int) by omega, ← w1]
            simp (disch := omega) only [eX8_carryOut_0, eX8_carryOut_1, eX8_carryOut_4, eX8_carryOut_7, eX8_carryOut_9, eX8_carryOut_12, eX8_carryOut_14, eX8_carryOut_15, eX8_carryOut_16, eX8_carryOut_19, eX8_carryOut_20, eX8_carryOut_21, eX8_carryOut_22, eX8_carryOut_25, eX8_carryOut_28, eX8_carryOut_29, eX8_carryOut_31, eX8_carryOut_33, eX8_carryOut_36, eX8_carryOut_37, eX8_carryOut_40, eX8_carryOut_43, eX8_carryOut_46, eX8_carryOut_47, eX8_carryOut_50, eX8_carryOut_53, eX8_carryOut_56, eX8_carryOut_59, eX8_carryOut_60, eX8_carryOut_63, eX8_carryOut_65, eX8_carryOut_68, eX8_carryOut_71, eX8_carryOut_74, eX8_carryOut_77, eX8_carryOut_80, eX8_carryOut_81, eX8_carryOut_84, eX8_carryOut_87, eX8_carryOut_88, if_pos, if_neg, if_true, if_false, Option.bind_some, Option.toList_some, Option.toList_none, List.cons_append, List.nil_append, e1, e2, e3]
            rw [show ((i : Int) + 1) = ((i + 1 : Nat) : Int) by omega]
          · rw [if_neg d] at hok
            exact ft hok
        · rw [if_neg l] at hok ⊢
          have d : nx P n (Od P n p).2.1 = 0 := by unfold nx; rw [if_neg l]
          rw [if_neg (by omega)] at e3
          have hcr : crT [(Od P n p).2.2] A = (1, (crO (Od P n p).2.2 A).2) := by rw [crT, if_pos cr, crT]
          show ∃ (S' : MM) (x : Option VV), _ = rn xX8_carryOut (80, [some (vR 0), some (vI (c + (crT [(Od P n p).2.2] A).1)), x], [], S') ∧ SceneIs S' 1 (crT [(Od P n p).2.2] A).2 ∧ _
          rw [hcr]
          refine ⟨U, some (vI i), ?_, u1, u4⟩
          simp (disch := omega) only [eX8_carryOut_0, eX8_carryOut_1, eX8_carryOut_4, eX8_carryOut_7, eX8_carryOut_9, eX8_carryOut_12, eX8_carryOut_14, eX8_carryOut_15, eX8_carryOut_16, eX8_carryOut_19, eX8_carryOut_20, eX8_carryOut_21, eX8_carryOut_22, eX8_carryOut_25, eX8_carryOut_28, eX8_carryOut_29, eX8_carryOut_31, eX8_carryOut_33, eX8_carryOut_36, eX8_carryOut_37, eX8_carryOut_40, eX8_carryOut_43, eX8_carryOut_46, eX8_carryOut_47, eX8_carryOut_50, eX8_carryOut_53, eX8_carryOut_56, eX8_carryOut_59, eX8_carryOut_60, eX8_carryOut_63, eX8_carryOut_65, eX8_carryOut_68, eX8_carryOut_71, eX8_carryOut_74, eX8_carryOut_77, eX8_carryOut_80, eX8_carryOut_81, eX8_carryOut_84, eX8_carryOut_87, eX8_carryOut_88, if_pos, if_neg, if_true, if_false, Option.bind_some, Option.toList_some, Option.toList_none, List.cons_append, List.nil_append, e1, e2, e3]
          rfl
      · rw [if_neg cr] at e2
        have hcr : ∀ l, crT ((Od P n p).2.2 :: l) A = (0, (crO (Od P n p).2.2 A).2) := fun l => by rw [crT, if_neg cr]
        have run : rn xX8_carryOut (31, [some (vR 0), some (vI c), some (vI i)], [vI i], S) = rn xX8_carryOut (80, [some (vR 0), some (vI (c + ((0 : Nat) : Int))), some (vI i)], [], U) := by
          rw [show c + ((0 : Nat) : Int) = c by omega]
          simp (disch := omega) only [eX8_carryOut_0, eX8_carryOut_1, eX8_carryOut_4, eX8_carryOut_7, eX8_carryOut_9, eX8_carryOut_12, eX8_carryOut_14, eX8_carryOut_15, eX8_carryOut_16, eX8_carryOut_19, eX8_carryOut_20, eX8_carryOut_21, eX8_carryOut_22, eX8_carryOut_25, eX8_carryOut_28, eX8_carryOut_29, eX8_carryOut_31, eX8_carryOut_33, eX8_carryOut_36, eX8_carryOut_37, eX8_carryOut_40, eX8_carryOut_43, eX8_carryOut_46, eX8_carryOut_47, eX8_carryOut_50, eX8_carryOut_53, eX8_carryOut_56, eX8_carryOut_59, eX8_carryOut_60, eX8_carryOut_63, eX8_carryOut_65, eX8_carryOut_68, eX8_carryOut_71, eX8_carryOut_74, eX8_carryOut_77, eX8_carryOut_80, eX8_carryOut_81, eX8_carryOut_84, eX8_carryOut_87, eX8_carryOut_88, if_pos, if_neg, if_true, if_false, Option.bind_some, Option.toList_some, Option.toList_none, List.cons_append, List.nil_append, e1, e2]
        by_cases l : (Od P n p).2.1 < n
        · rw [if_pos l] at hok ⊢
          by_cases d : nx P n (Od P n p).2.1 = 59
          · rw [if_pos d]
            show ∃ (S' : MM) (x : Option VV), _ = rn xX8_carryOut (80, [some (vR 0), some (vI (c + (crT ((Od P n p).2.2 :: (Tx P n f ((Od P n p).2.1 + 1)).2.2) A).1)), x], [], S') ∧ SceneIs S' 1 (crT ((Od P n p).2.2 :: (Tx P n f ((Od P n p).2.1 + 1)).2.2) A).2 ∧ _
            rw [hcr]
            exact ⟨U, some (vI i), run, u1, u4⟩
          · rw [if_neg d] at hok
            exact ft hok
        · rw [if_neg l]
          show ∃ (S' : MM) (x : Option VV), _ = rn xX8_carryOut (80, [some (vR 0), some (vI (c + (crT [(Od P n p).2.2] A).1)), x], [], S') ∧ SceneIs S' 1 (crT [(Od P n p).2.2] A).2 ∧ _
          rw [hcr]
          exact ⟨U, some (vI i), run, u1, u4⟩
    · rw [if_neg o] at hok
      exact ft hok
theorem s_carryOutX (h : XIs S A m H K V P n) (hn : ¬ (Tx P n 80 0).1 = true) : ∃ S', fX8_carryOut [vR 0] S = some (some (vI (-3)), S') ∧ XIs S' A m H K V P n ∧ (∀ a, 593 ≤ a → S' a = S a) := by
  have k0 := k69
  obtain ⟨S1, e1, g1, g2⟩ := s_firstFault h.2.2.2.2.2
  rw [if_neg hn] at e1
  refine ⟨S1, ?_, h.pad g1 g2, fun a ha => g2 a (by omega)⟩
  have hr : 0 ≤ (((Tx P n 80 0).2.1 : Nat) : Int) := by omega
  have hr2 : (((Tx P n 80 0).2.1 : Nat) : Int) ≤ 80 := by
    have hn8 := h.2.2.2.2.2.2.1
    have : ∀ (f p : Nat), p ≤ n → (Tx P n f p).2.1 ≤ n := by
      intro f
      induction f with
      | zero => intro p hp; exact hp
      | succ f ih =>
        intro p hp
        obtain ⟨g1, g2, g3⟩ := Od_b (P := P) hp
        rw [Tx]
        split
        · split
          · split
            · exact ih _ (by omega)
            · exact g2
          · exact g2
        · exact g2
    have := this 80 0 (by omega)
    omega
  rw [uX8_carryOut]
  simp (disch := omega) only [eX8_carryOut_0, eX8_carryOut_1, eX8_carryOut_4, eX8_carryOut_7, eX8_carryOut_9, eX8_carryOut_12, eX8_carryOut_14, eX8_carryOut_15, eX8_carryOut_16, eX8_carryOut_19, eX8_carryOut_20, eX8_carryOut_21, eX8_carryOut_22, eX8_carryOut_25, eX8_carryOut_28, eX8_carryOut_29, eX8_carryOut_31, eX8_carryOut_33, eX8_carryOut_36, eX8_carryOut_37, eX8_carryOut_40, eX8_carryOut_43, eX8_carryOut_46, eX8_carryOut_47, eX8_carryOut_50, eX8_carryOut_53, eX8_carryOut_56, eX8_carryOut_59, eX8_carryOut_60, eX8_carryOut_63, eX8_carryOut_65, eX8_carryOut_68, eX8_carryOut_71, eX8_carryOut_74, eX8_carryOut_77, eX8_carryOut_80, eX8_carryOut_81, eX8_carryOut_84, eX8_carryOut_87, eX8_carryOut_88, if_pos, if_neg, if_true, if_false, Option.bind_some, Option.toList_some, Option.toList_none, List.cons_append, List.nil_append, e1]
theorem s_carryOut (h : XIs S A m H K V P n) (hok : (Tx P n 80 0).1 = true) : ∃ S', fX8_carryOut [vR 0] S = some (some (vI ((crT (Tx P n 80 0).2.2 A).1 : Int)), S') ∧ XIs S' (crT (Tx P n 80 0).2.2 A).2 (mM m) (mH m H A) K V P 0 ∧ (∀ a, 593 ≤ a → S' a = S a) := by
  have k0 := k69
  obtain ⟨S1, e1, g1, g2⟩ := s_firstFault h.2.2.2.2.2
  rw [if_pos hok] at e1
  have h1 := h.pad g1 g2
  obtain ⟨S2, e2, h2, g3⟩ := s_remember h1
  have e3 : fX2_rewind [vR 69] S2 = some (none, updM S2 69 2 0) := by
    rw [uX2_rewind]
    simp (disch := omega) only [eX2_rewind_0, eX2_rewind_1, eX2_rewind_2, eX2_rewind_5, if_pos, if_neg, if_true, if_false, Option.bind_some, Option.toList_some, Option.toList_none, List.cons_append, List.nil_append]
  have h3 : XIs (updM S2 69 2 0) A (mM m) (mH m H A) K V P n := h2.pad (by rw [updM_eq, up_ne (by omega)]) (fun a ha => updM_ne ha)
  obtain ⟨S4, x, e4, g4, g5⟩ := l_carryT (P := P) (n := n) 80 0 0 (updM S2 69 2 0) 0 A rfl (by omega) h3.2.2.2.2.2 (by rw [updM_eq, up_eq]; rfl) (by omega) h3.1 h3.2.1 hok
  have e5 : fX2_clear [vR 69] S4 = some (none, updM (updM S4 69 1 0) 69 2 0) := by
    rw [uX2_clear]
    simp (disch := omega) only [eX2_clear_0, eX2_clear_1, eX2_clear_2, eX2_clear_5, eX2_clear_6, eX2_clear_7, eX2_clear_10, if_pos, if_neg, if_true, if_false, Option.bind_some, Option.toList_some, Option.toList_none, List.cons_append, List.nil_append]
  have fr : ∀ a, a ≠ 69 → a < 1 ∨ 65 ≤ a → updM (updM S4 69 1 0) 69 2 0 a = S2 a := fun a y1 y2 => by rw [updM_ne y1, updM_ne y1, g5 a y1 y2, updM_ne y1]
  have hN : SceneIs (updM (updM S4 69 1 0) 69 2 0) 1 (crT (Tx P n 80 0).2.2 A).2 := g4.rows (fun a _ _ => by rw [updM_ne (by omega), updM_ne (by omega)])
  obtain ⟨i1, i2, i3, i4, i5, i6⟩ := h2
  refine ⟨updM (updM S4 69 1 0) 69 2 0, ?_, ⟨hN, i2.keep (fr _ (by omega) (by omega)) (fr _ (by omega) (by omega)), i3.rows (fun a _ _ _ _ => fr a (by omega) (by omega)), i4.rows (fr _ (by omega) (by omega)) (fun a _ _ => fr a (by omega) (by omega)), ⟨hN.2.2.2.1.1, fun i hi => by rw [fr _ (by omega) (by omega)]; exact i5.2 i hi⟩, ⟨by rw [updM_eq, up_ne (by omega), updM_eq, up_eq]; rfl, by omega, fun k hk => by omega, fun k hk => by omega⟩⟩, fun a ha => by rw [fr a (by omega) (by omega), g3 a ha, g2 a (by omega)]⟩
  rw [uX8_carryOut]
  simp (disch := omega) only [eX8_carryOut_0, eX8_carryOut_1, eX8_carryOut_4, eX8_carryOut_7, eX8_carryOut_9, eX8_carryOut_12, eX8_carryOut_14, eX8_carryOut_15, eX8_carryOut_16, eX8_carryOut_19, eX8_carryOut_20, eX8_carryOut_21, eX8_carryOut_22, eX8_carryOut_25, eX8_carryOut_28, eX8_carryOut_29, eX8_carryOut_31, eX8_carryOut_33, eX8_carryOut_36, eX8_carryOut_37, eX8_carryOut_40, eX8_carryOut_43, eX8_carryOut_46, eX8_carryOut_47, eX8_carryOut_50, eX8_carryOut_53, eX8_carryOut_56, eX8_carryOut_59, eX8_carryOut_60, eX8_carryOut_63, eX8_carryOut_65, eX8_carryOut_68, eX8_carryOut_71, eX8_carryOut_74, eX8_carryOut_77, eX8_carryOut_80, eX8_carryOut_81, eX8_carryOut_84, eX8_carryOut_87, eX8_carryOut_88, if_pos, if_neg, if_true, if_false, Option.bind_some, Option.toList_some, Option.toList_none, List.cons_append, List.nil_append, e1, e2, e3]
  rw [show ((0 : Nat) : Int) = 0 from rfl] at e4
  rw [e4]
  simp (disch := omega) only [eX8_carryOut_0, eX8_carryOut_1, eX8_carryOut_4, eX8_carryOut_7, eX8_carryOut_9, eX8_carryOut_12, eX8_carryOut_14, eX8_carryOut_15, eX8_carryOut_16, eX8_carryOut_19, eX8_carryOut_20, eX8_carryOut_21, eX8_carryOut_22, eX8_carryOut_25, eX8_carryOut_28, eX8_carryOut_29, eX8_carryOut_31, eX8_carryOut_33, eX8_carryOut_36, eX8_carryOut_37, eX8_carryOut_40, eX8_carryOut_43, eX8_carryOut_46, eX8_carryOut_47, eX8_carryOut_50, eX8_carryOut_53, eX8_carryOut_56, eX8_carryOut_59, eX8_carryOut_60, eX8_carryOut_63, eX8_carryOut_65, eX8_carryOut_68, eX8_carryOut_71, eX8_carryOut_74, eX8_carryOut_77, eX8_carryOut_80, eX8_carryOut_81, eX8_carryOut_84, eX8_carryOut_87, eX8_carryOut_88, if_pos, if_neg, if_true, if_false, Option.bind_some, Option.toList_some, Option.toList_none, List.cons_append, List.nil_append, e5]
  rw [Int.zero_add]
end CO2

/-! the reference: a leap -/
section MO15
variable {S : MM}
theorem plc_trn {o q : Int} (ho : 0 ≤ o ∧ o ≤ 5) (hq : 0 ≤ q ∧ q ≤ 2) : plc o (trn o q) = q := by
  have key : ∀ (o : Fin 6) (w : Fin 3), plc (o.val : Int) (trn (o.val : Int) (w.val : Int)) = (w.val : Int) := by
    unfold plc trn tv
    decide
  have h := key ⟨o.toNat, by omega⟩ ⟨q.toNat, by omega⟩
  have e1 : ((o.toNat : Nat) : Int) = o := by omega
  have e2 : ((q.toNat : Nat) : Int) = q := by omega
  simp only [e1, e2] at h
  exact h
theorem st_mkLeap {p : Int} {l2 l3 l4 : Option VV} (hA : StgR (S 594)) (hr : RunR (S 594)) (hp : 0 ≤ p ∧ p ≤ 2) : rn xX9_makeLeap (12, [some (vR 593), some (vI p), l2, l3, l4], [], S) = if S 594 (20 + (trn (S 594 3) p).toNat) < S 594 5 then rn xX9_makeLeap (39, [some (vR 593), some (vI p), l2, l3, l4], [], S) else rn xX9_makeLeap (12, [some (vR 593), some (vI ((p + 1) % 3)), l2, l3, l4], [], S) := by
  obtain ⟨k0, a0, -⟩ := mk
  have e1 := z_inTurn (S := S) (p := p) rfl hA.2.2.2 hp
  have hb := trn_b (S 594 3) p
  obtain ⟨u, hu⟩ : ∃ u : Nat, trn (S 594 3) p = (u : Int) := ⟨(trn (S 594 3) p).toNat, by omega⟩
  rw [hu] at e1 hb ⊢
  have e2 := z_stands (S := S) (w := u) (by omega)
  have hs := (hr.2.2.2.2 u (by omega)).1
  have h5 := hr.1
  have n5 : (5 : Int).toNat = 5 := rfl
  rw [Int.toNat_natCast, eX9_makeLeap_12]
  by_cases c : S 594 (20 + u) < S 594 5
  · rw [if_pos c]
    simp (disch := omega) only [eX9_makeLeap_0, eX9_makeLeap_1, eX9_makeLeap_2, eX9_makeLeap_5, eX9_makeLeap_7, eX9_makeLeap_7x, eX9_makeLeap_7y, eX9_makeLeap_8, eX9_makeLeap_11, eX9_makeLeap_13, eX9_makeLeap_14, eX9_makeLeap_15, eX9_makeLeap_18, eX9_makeLeap_21, eX9_makeLeap_22, eX9_makeLeap_25, eX9_makeLeap_26, eX9_makeLeap_26x, eX9_makeLeap_26y, eX9_makeLeap_27, eX9_makeLeap_30, eX9_makeLeap_31, eX9_makeLeap_32, eX9_makeLeap_33, eX9_makeLeap_34, eX9_makeLeap_35, eX9_makeLeap_36, eX9_makeLeap_39, eX9_makeLeap_40, eX9_makeLeap_41, eX9_makeLeap_44, eX9_makeLeap_45, eX9_makeLeap_46, eX9_makeLeap_49, eX9_makeLeap_51, eX9_makeLeap_52, eX9_makeLeap_53, eX9_makeLeap_54, eX9_makeLeap_54x, eX9_makeLeap_54y, eX9_makeLeap_55, eX9_makeLeap_56, eX9_makeLeap_57, eX9_makeLeap_60, eX9_makeLeap_61, eX9_makeLeap_62, eX9_makeLeap_63, eX9_makeLeap_66, eX9_makeLeap_68, eX9_makeLeap_69, eX9_makeLeap_70, eX9_makeLeap_71, eX9_makeLeap_71x, eX9_makeLeap_71y, eX9_makeLeap_72, eX9_makeLeap_73, eX9_makeLeap_74, eX9_makeLeap_75, eX9_makeLeap_76, eX9_makeLeap_77, eX9_makeLeap_80, eX9_makeLeap_81, eX9_makeLeap_82, eX9_makeLeap_83, eX9_makeLeap_84, eX9_makeLeap_87, eX9_makeLeap_88, eX9_makeLeap_88x, eX9_makeLeap_88y, eX9_makeLeap_89, eX9_makeLeap_92, eX9_makeLeap_94, eX9_makeLeap_95, eX9_makeLeap_98, eX9_makeLeap_100, eX9_makeLeap_101, eX9_makeLeap_102, eX9_makeLeap_104, eX9_makeLeap_105, eX9_makeLeap_107, eX9_makeLeap_110, eX9_makeLeap_113, eX9_makeLeap_115, eX9_makeLeap_116, eX9_makeLeap_117, eX9_makeLeap_118, eX9_makeLeap_121, eX9_makeLeap_123, eX9_makeLeap_124, eX9_makeLeap_125, eX9_makeLeap_125x, eX9_makeLeap_125y, eX9_makeLeap_126, eX9_makeLeap_129, eX9_makeLeap_130, eX9_makeLeap_133, eX9_makeLeap_135, eX9_makeLeap_136, eX9_makeLeap_137, eX9_makeLeap_139, eX9_makeLeap_140, eX9_makeLeap_141, eX9_makeLeap_142, eX9_makeLeap_143, eX9_makeLeap_146, eX9_makeLeap_148, eX9_makeLeap_149, eX9_makeLeap_150, eX9_makeLeap_151, eX9_makeLeap_152, eX9_makeLeap_153, eX9_makeLeap_154, eX9_makeLeap_157, eX9_makeLeap_158, eX9_makeLeap_159, eX9_makeLeap_162, eX9_makeLeap_163, if_pos, if_neg, if_true, if_false, Option.bind_some, Option.toList_some, Option.toList_none, List.cons_append, List.nil_append, e1, e2, n5]
  · rw [if_neg c]
    simp (disch := omega) only [eX9_makeLeap_0, eX9_makeLeap_1, eX9_makeLeap_2, eX9_makeLeap_5, eX9_makeLeap_7, eX9_makeLeap_7x, eX9_makeLeap_7y, eX9_makeLeap_8, eX9_makeLeap_11, eX9_makeLeap_13, eX9_makeLeap_14, eX9_makeLeap_15, eX9_makeLeap_18, eX9_makeLeap_21, eX9_makeLeap_22, eX9_makeLeap_25, eX9_makeLeap_26, eX9_makeLeap_26x, eX9_makeLeap_26y, eX9_makeLeap_27, eX9_makeLeap_30, eX9_makeLeap_31, eX9_makeLeap_32, eX9_makeLeap_33, eX9_makeLeap_34, eX9_makeLeap_35, eX9_makeLeap_36, eX9_makeLeap_39, eX9_makeLeap_40, eX9_makeLeap_41, eX9_makeLeap_44, eX9_makeLeap_45, eX9_makeLeap_46, eX9_makeLeap_49, eX9_makeLeap_51, eX9_makeLeap_52, eX9_makeLeap_53, eX9_makeLeap_54, eX9_makeLeap_54x, eX9_makeLeap_54y, eX9_makeLeap_55, eX9_makeLeap_56, eX9_makeLeap_57, eX9_makeLeap_60, eX9_makeLeap_61, eX9_makeLeap_62, eX9_makeLeap_63, eX9_makeLeap_66, eX9_makeLeap_68, eX9_makeLeap_69, eX9_makeLeap_70, eX9_makeLeap_71, eX9_makeLeap_71x, eX9_makeLeap_71y, eX9_makeLeap_72, eX9_makeLeap_73, eX9_makeLeap_74, eX9_makeLeap_75, eX9_makeLeap_76, eX9_makeLeap_77, eX9_makeLeap_80, eX9_makeLeap_81, eX9_makeLeap_82, eX9_makeLeap_83, eX9_makeLeap_84, eX9_makeLeap_87, eX9_makeLeap_88, eX9_makeLeap_88x, eX9_makeLeap_88y, eX9_makeLeap_89, eX9_makeLeap_92, eX9_makeLeap_94, eX9_makeLeap_95, eX9_makeLeap_98, eX9_makeLeap_100, eX9_makeLeap_101, eX9_makeLeap_102, eX9_makeLeap_104, eX9_makeLeap_105, eX9_makeLeap_107, eX9_makeLeap_110, eX9_makeLeap_113, eX9_makeLeap_115, eX9_makeLeap_116, eX9_makeLeap_117, eX9_makeLeap_118, eX9_makeLeap_121, eX9_makeLeap_123, eX9_makeLeap_124, eX9_makeLeap_125, eX9_makeLeap_125x, eX9_makeLeap_125y, eX9_makeLeap_126, eX9_makeLeap_129, eX9_makeLeap_130, eX9_makeLeap_133, eX9_makeLeap_135, eX9_makeLeap_136, eX9_makeLeap_137, eX9_makeLeap_139, eX9_makeLeap_140, eX9_makeLeap_141, eX9_makeLeap_142, eX9_makeLeap_143, eX9_makeLeap_146, eX9_makeLeap_148, eX9_makeLeap_149, eX9_makeLeap_150, eX9_makeLeap_151, eX9_makeLeap_152, eX9_makeLeap_153, eX9_makeLeap_154, eX9_makeLeap_157, eX9_makeLeap_158, eX9_makeLeap_159, eX9_makeLeap_162, eX9_makeLeap_163, if_pos, if_neg, if_true, if_false, Option.bind_some, Option.toList_some, Option.toList_none, List.cons_append, List.nil_append, e1, e2, n5]
theorem l_mkLeap (hA : StgR (S 594)) (hr : RunR (S 594)) (hs : RunS (S 594) (RA (S 594))) (h4 : S 594 4 = 1) : ∃ q : Int, (0 ≤ q ∧ q ≤ 2) ∧ trn (S 594 3) q = nxtW (S 594) ∧ rn xX9_makeLeap (12, [some (vR 593), some (vI (plc (S 594 3) (S 594 6))), none, none, none], [], S) = rn xX9_makeLeap (39, [some (vR 593), some (vI q), none, none, none], [], S) := by
  have hb := plc_b (S 594 3) (S 594 6)
  have hsh := nxtW_short hA hs h4
  obtain ⟨p, hp⟩ : ∃ p, p = plc (S 594 3) (S 594 6) := ⟨_, rfl⟩
  have b0 : bhd (S 594 3) (S 594 6) 0 = trn (S 594 3) p := by unfold bhd; rw [← hp, show (p + 0) % 3 = p by omega]
  have b1 : bhd (S 594 3) (S 594 6) 1 = trn (S 594 3) ((p + 1) % 3) := by unfold bhd; rw [← hp]
  have b2 : bhd (S 594 3) (S 594 6) 2 = trn (S 594 3) (((p + 1) % 3 + 1) % 3) := by unfold bhd; rw [← hp, show ((p + 1) % 3 + 1) % 3 = (p + 2) % 3 by omega]
  have s0 := st_mkLeap (S := S) (p := p) (l2 := none) (l3 := none) (l4 := none) hA hr (by omega)
  have s1 := st_mkLeap (S := S) (p := (p + 1) % 3) (l2 := none) (l3 := none) (l4 := none) hA hr (by omega)
  have s2 := st_mkLeap (S := S) (p := ((p + 1) % 3 + 1) % 3) (l2 := none) (l3 := none) (l4 := none) hA hr (by omega)
  rw [← b0] at s0
  rw [← b1] at s1
  rw [← b2] at s2
  rw [← hp]
  unfold nxtW at hsh ⊢
  by_cases c0 : S 594 (20 + (bhd (S 594 3) (S 594 6) 0).toNat) < S 594 5
  · rw [if_pos c0] at s0 ⊢
    exact ⟨p, by omega, b0.symm, s0⟩
  · rw [if_neg c0] at s0 hsh ⊢
    by_cases c1 : S 594 (20 + (bhd (S 594 3) (S 594 6) 1).toNat) < S 594 5
    · rw [if_pos c1] at s1 ⊢
      exact ⟨(p + 1) % 3, by omega, b1.symm, s0.trans s1⟩
    · rw [if_neg c1] at s1 hsh ⊢
      rw [if_pos hsh] at s2
      exact ⟨((p + 1) % 3 + 1) % 3, by omega, b2.symm, s0.trans (s1.trans s2)⟩
theorem z_makeLeap (hA : StgR (S 594)) (hr : RunR (S 594)) (hs : RunS (S 594) (RA (S 594))) (h4 : S 594 4 = 1) (hR : RB (RA (S 594))) (h40 : ∀ u : Nat, u < 3 → cnt (RA (S 594) u) 300 ≤ 40) : ∃ S', fX9_makeLeap [vR 593] S = some (some (vI (nxtW (S 594))), S') ∧ S' 594 = mLeap (S 594) (RA (S 594)) ∧ (∀ j, j ≠ 8 → j ≠ 9 → S' 593 j = S 593 j) ∧ (∀ a, a ≠ 593 → a ≠ 594 → a ≠ 599 → S' a = S a) := by
  obtain ⟨k0, a0, -⟩ := mk
  obtain ⟨q, hq, hqw, e1⟩ := l_mkLeap hA hr hs h4
  have hsh := nxtW_short hA hs h4
  have hwb := nxtW_b (S 594)
  obtain ⟨u, hu⟩ : ∃ u : Nat, nxtW (S 594) = (u : Int) := ⟨(nxtW (S 594)).toNat, by omega⟩
  rw [hu] at hsh hwb hqw
  rw [Int.toNat_natCast] at hsh
  have hu3 : u < 3 := by omega
  obtain ⟨g1, g2, g3, g4, g5⟩ := id hr
  obtain ⟨c1, c2, c3, c4⟩ := g5 u hu3
  obtain ⟨l1, l2, l3⟩ := (hs.2.1 h4).1 u hu3
  obtain ⟨k, hk⟩ : ∃ k : Nat, S 594 (20 + u) = (k : Int) := ⟨(S 594 (20 + u)).toNat, by omega⟩
  rw [hk] at hsh l1 l2 l3
  rw [Int.toNat_natCast] at l3
  obtain ⟨g, hg⟩ : ∃ g : Nat, S 594 5 = (g : Int) := ⟨(S 594 5).toNat, by omega⟩
  obtain ⟨S1, e2, j1, f1⟩ := z_looksOf (S := S) (r := RA (S 594) u) (k := k) hu3 rfl hR (h40 u hu3) g1 hA.2.2.1 hk (by omega) l3
  have hlb := lks_b (S 594 2) (cnt (RA (S 594) u) k : Int) (cnt (RA (S 594) u) 300 : Int) (cnt (RA (S 594) u) (S 594 5).toNat : Int)
  rw [hg, Int.toNat_natCast] at e2 hlb
  obtain ⟨L, hL⟩ : ∃ L, L = lks (S 594 2) (cnt (RA (S 594) u) k : Int) (cnt (RA (S 594) u) 300 : Int) (cnt (RA (S 594) u) g : Int) := ⟨_, rfl⟩
  rw [← hL] at e2 hlb
  have s4 : S1 594 = S 594 := f1 594 (by omega) (by omega)
  have x11 : ((11 : Int) + (u : Int)).toNat = 11 + u := by omega
  have x8 : ((8 : Int) + (u : Int)).toNat = 8 + u := by omega
  have x20 : ((20 : Int) + (u : Int)).toNat = 20 + u := by omega
  have x17 : ((17 : Int) + (u : Int)).toNat = 17 + u := by omega
  have n5 : (5 : Int).toNat = 5 := rfl
  have n6 : (6 : Int).toNat = 6 := rfl
  obtain ⟨T1, hT1⟩ : ∃ T, updM S1 594 (11 + u) (S 594 (11 + u) + L) = T := ⟨_, rfl⟩
  obtain ⟨T2, hT2⟩ : ∃ T, updM T1 594 (8 + u) (S 594 (8 + u) + 1) = T := ⟨_, rfl⟩
  have t18 : T1 594 (8 + u) = S 594 (8 + u) := by rw [← hT1, updM_eq, up_ne (by omega), s4]
  have t2k : ∀ j, T2 594 j = if j = 8 + u then S 594 j + 1 else if j = 11 + u then S 594 j + L else S 594 j := fun j => by
    rw [← hT2, updM_eq]
    by_cases y : j = 8 + u
    · rw [y, up_eq, if_pos rfl]
    · rw [up_ne y, if_neg y, ← hT1, updM_eq]
      by_cases y2 : j = 11 + u
      · rw [y2, up_eq, if_pos rfl]
      · rw [up_ne y2, if_neg y2, s4]
  have t2f : ∀ a, a ≠ 594 → T2 a = S1 a := fun a ha => by rw [← hT2, updM_ne ha, ← hT1, updM_ne ha]
  have t2R : ∀ v k', v < 3 → k' < 300 → RA (T2 594) v k' = RA (S 594) v k' := fun v k' hv hk' => by
    show T2 594 (25 + 300 * v + k') = S 594 (25 + 300 * v + k')
    rw [t2k, if_neg (by omega), if_neg (by omega)]
  have t25 : T2 594 5 = (g : Int) := by rw [t2k, if_neg (by omega), if_neg (by omega)]; exact hg
  have e3 := z_stands (S := T2) hu3
  rw [t2k, if_neg (by omega), if_neg (by omega), hk] at e3
  have e4 := z_firstFrom (S := T2) (k := g) hu3 (by omega) (fun v k' hv hk' => by rw [t2R v k' hv hk']; exact hR v k' hv hk')
  rw [fst_same (show g ≤ 300 by omega) (fun j hj => t2R u j hu3 hj)] at e4
  have hfs := fst_spec (RA (S 594) u) (show g ≤ 300 by omega)
  obtain ⟨to, hto⟩ : ∃ t, t = fst (RA (S 594) u) g := ⟨_, rfl⟩
  rw [← hto] at e4 hfs
  obtain ⟨T3, hT3⟩ : ∃ T, updM T2 594 (20 + u) (to : Int) = T := ⟨_, rfl⟩
  have t3k : ∀ j, T3 594 j = if j = 20 + u then (to : Int) else T2 594 j := fun j => by
    rw [← hT3, updM_eq]
    by_cases y : j = 20 + u
    · rw [y, up_eq, if_pos rfl]
    · rw [up_ne y, if_neg y]
  have t3f : ∀ a, a ≠ 594 → T3 a = S1 a := fun a ha => by rw [← hT3, updM_ne ha, t2f a ha]
  have t317 : T3 594 (17 + u) = S 594 (17 + u) := by rw [t3k, if_neg (by omega), t2k, if_neg (by omega), if_neg (by omega)]
  have tail : ∀ T4 : MM, (∀ j, j ≠ 6 → T4 594 j = mLeapW (S 594) (RA (S 594) u) u j) → (∀ a, a ≠ 594 → T4 a = S1 a) → ∃ S', rn xX9_makeLeap (142, [some (vR 593), some (vI q), some (vI (u : Int)), some (vI (k : Int)), some (vI (to : Int))], [], T4) = some (some (vI (u : Int)), S') ∧ S' 594 = mLeap (S 594) (RA (S 594)) ∧ (∀ j, j ≠ 8 → j ≠ 9 → S' 593 j = S 593 j) ∧ (∀ a, a ≠ 593 → a ≠ 594 → a ≠ 599 → S' a = S a) := by
    intro T4 hk4 hf4
    have q3 : T4 594 3 = S 594 3 := by rw [hk4 3 (by omega)]; exact mLeapW_k hu3 (by omega)
    have e5 := z_inTurn (S := T4) (p := (q + 1) % 3) q3 hA.2.2.2 (by omega)
    obtain ⟨T5, hT5⟩ : ∃ T, updM T4 594 6 (trn (S 594 3) ((q + 1) % 3)) = T := ⟨_, rfl⟩
    have t5 : T5 594 = mLeapW (S 594) (RA (S 594) u) u := by
      funext j
      rw [← hT5, updM_eq]
      by_cases y : j = 6
      · rw [y, up_eq]
        unfold mLeapW
        rw [if_pos rfl]
        unfold bhd
        rw [← hqw, plc_trn hA.2.2.2 hq]
      · rw [up_ne y, hk4 j y]
    obtain ⟨S', e6, z1, z2⟩ := z_lookRound (S := T5) (by rw [t5]; exact RunR_leapW (R := RA (S 594)) hu3 hr (by rw [hk]; exact hsh)) (by rw [t5, mLeapW_k hu3 (by omega)]; exact hs.1) (by rw [t5, mLeapW_k hu3 (by omega)]; exact hA.2.1)
    refine ⟨S', ?_, ?_, fun j y1 y2 => by rw [z2 593 (by omega), ← hT5, updM_ne (by omega), hf4 593 (by omega)]; exact j1 j y1 y2, fun a y1 y2 y3 => by rw [z2 a y2, ← hT5, updM_ne y2, hf4 a y2]; exact f1 a y1 y3⟩
    · simp (disch := omega) only [eX9_makeLeap_0, eX9_makeLeap_1, eX9_makeLeap_2, eX9_makeLeap_5, eX9_makeLeap_7, eX9_makeLeap_7x, eX9_makeLeap_7y, eX9_makeLeap_8, eX9_makeLeap_11, eX9_makeLeap_13, eX9_makeLeap_14, eX9_makeLeap_15, eX9_makeLeap_18, eX9_makeLeap_21, eX9_makeLeap_22, eX9_makeLeap_25, eX9_makeLeap_26, eX9_makeLeap_26x, eX9_makeLeap_26y, eX9_makeLeap_27, eX9_makeLeap_30, eX9_makeLeap_31, eX9_makeLeap_32, eX9_makeLeap_33, eX9_makeLeap_34, eX9_makeLeap_35, eX9_makeLeap_36, eX9_makeLeap_39, eX9_makeLeap_40, eX9_makeLeap_41, eX9_makeLeap_44, eX9_makeLeap_45, eX9_makeLeap_46, eX9_makeLeap_49, eX9_makeLeap_51, eX9_makeLeap_52, eX9_makeLeap_53, eX9_makeLeap_54, eX9_makeLeap_54x, eX9_makeLeap_54y, eX9_makeLeap_55, eX9_makeLeap_56, eX9_makeLeap_57, eX9_makeLeap_60, eX9_makeLeap_61, eX9_makeLeap_62, eX9_makeLeap_63, eX9_makeLeap_66, eX9_makeLeap_68, eX9_makeLeap_69, eX9_makeLeap_70, eX9_makeLeap_71, eX9_makeLeap_71x, eX9_makeLeap_71y, eX9_makeLeap_72, eX9_makeLeap_73, eX9_makeLeap_74, eX9_makeLeap_75, eX9_makeLeap_76, eX9_makeLeap_77, eX9_makeLeap_80, eX9_makeLeap_81, eX9_makeLeap_82, eX9_makeLeap_83, eX9_makeLeap_84, eX9_makeLeap_87, eX9_makeLeap_88, eX9_makeLeap_88x, eX9_makeLeap_88y, eX9_makeLeap_89, eX9_makeLeap_92, eX9_makeLeap_94, eX9_makeLeap_95, eX9_makeLeap_98, eX9_makeLeap_100, eX9_makeLeap_101, eX9_makeLeap_102, eX9_makeLeap_104, eX9_makeLeap_105, eX9_makeLeap_107, eX9_makeLeap_110, eX9_makeLeap_113, eX9_makeLeap_115, eX9_makeLeap_116, eX9_makeLeap_117, eX9_makeLeap_118, eX9_makeLeap_121, eX9_makeLeap_123, eX9_makeLeap_124, eX9_makeLeap_125, eX9_makeLeap_125x, eX9_makeLeap_125y, eX9_makeLeap_126, eX9_makeLeap_129, eX9_makeLeap_130, eX9_makeLeap_133, eX9_makeLeap_135, eX9_makeLeap_136, eX9_makeLeap_137, eX9_makeLeap_139, eX9_makeLeap_140, eX9_makeLeap_141, eX9_makeLeap_142, eX9_makeLeap_143, eX9_makeLeap_146, eX9_makeLeap_148, eX9_makeLeap_149, eX9_makeLeap_150, eX9_makeLeap_151, eX9_makeLeap_152, eX9_makeLeap_153, eX9_makeLeap_154, eX9_makeLeap_157, eX9_makeLeap_158, eX9_makeLeap_159, eX9_makeLeap_162, eX9_makeLeap_163, if_pos, if_neg, if_true, if_false, Option.bind_some, Option.toList_some, Option.toList_none, List.cons_append, List.nil_append, e5, n6, hT5, e6]
    · rw [z1, t5]
      unfold mLeap
      rw [hu, Int.toNat_natCast]
      refine mLook_R (fun v k' hv hk' => ?_)
      exact mLeapW_k hu3 (by omega)
  have b6 := hr.2.1
  have e0 := z_placeInTurn (S := S) (w := S 594 6) rfl hA.2.2.2 b6
  have e7 := z_inTurn (S := S) (p := q) rfl hA.2.2.2 hq
  rw [hqw] at e7
  have fin : ∀ T4 : MM, (∀ j, j ≠ 17 + u → T4 594 j = T3 594 j) → T4 594 (17 + u) = (if (to : Int) < 300 ∧ S 594 (17 + u) < (to : Int) - (k : Int) then (to : Int) - (k : Int) else S 594 (17 + u)) → ∀ j, j ≠ 6 → T4 594 j = mLeapW (S 594) (RA (S 594) u) u j := by
    intro T4 w1 w2 j y
    unfold mLeapW
    rw [if_neg y, hg, Int.toNat_natCast, ← hto, hk, Int.toNat_natCast, ← hL]
    by_cases y17 : j = 17 + u
    · rw [y17, if_neg (show ¬ 17 + u = 8 + u by omega), if_neg (show ¬ 17 + u = 11 + u by omega), if_pos rfl, w2]
    · rw [w1 j y17, t3k]
      by_cases y20 : j = 20 + u
      · rw [if_pos y20, if_neg (by omega), if_neg (by omega), if_neg y17, if_pos y20]
      · rw [if_neg y20, t2k]
        by_cases y8 : j = 8 + u
        · rw [if_pos y8, if_pos y8]
        · rw [if_neg y8, if_neg y8]
          by_cases y11 : j = 11 + u
          · rw [if_pos y11, if_pos y11]
          · rw [if_neg y11, if_neg y11, if_neg y17, if_neg y20]
  rw [hu, uX9_makeLeap]
  simp (disch := omega) only [eX9_makeLeap_0, eX9_makeLeap_1, eX9_makeLeap_2, eX9_makeLeap_5, eX9_makeLeap_7, eX9_makeLeap_7x, eX9_makeLeap_7y, eX9_makeLeap_8, eX9_makeLeap_11, eX9_makeLeap_13, eX9_makeLeap_14, eX9_makeLeap_15, eX9_makeLeap_18, eX9_makeLeap_21, eX9_makeLeap_22, eX9_makeLeap_25, eX9_makeLeap_26, eX9_makeLeap_26x, eX9_makeLeap_26y, eX9_makeLeap_27, eX9_makeLeap_30, eX9_makeLeap_31, eX9_makeLeap_32, eX9_makeLeap_33, eX9_makeLeap_34, eX9_makeLeap_35, eX9_makeLeap_36, eX9_makeLeap_39, eX9_makeLeap_40, eX9_makeLeap_41, eX9_makeLeap_44, eX9_makeLeap_45, eX9_makeLeap_46, eX9_makeLeap_49, eX9_makeLeap_51, eX9_makeLeap_52, eX9_makeLeap_53, eX9_makeLeap_54, eX9_makeLeap_54x, eX9_makeLeap_54y, eX9_makeLeap_55, eX9_makeLeap_56, eX9_makeLeap_57, eX9_makeLeap_60, eX9_makeLeap_61, eX9_makeLeap_62, eX9_makeLeap_63, eX9_makeLeap_66, eX9_makeLeap_68, eX9_makeLeap_69, eX9_makeLeap_70, eX9_makeLeap_71, eX9_makeLeap_71x, eX9_makeLeap_71y, eX9_makeLeap_72, eX9_makeLeap_73, eX9_makeLeap_74, eX9_makeLeap_75, eX9_makeLeap_76, eX9_makeLeap_77, eX9_makeLeap_80, eX9_makeLeap_81, eX9_makeLeap_82, eX9_makeLeap_83, eX9_makeLeap_84, eX9_makeLeap_87, eX9_makeLeap_88, eX9_makeLeap_88x, eX9_makeLeap_88y, eX9_makeLeap_89, eX9_makeLeap_92, eX9_makeLeap_94, eX9_makeLeap_95, eX9_makeLeap_98, eX9_makeLeap_100, eX9_makeLeap_101, eX9_makeLeap_102, eX9_makeLeap_104, eX9_makeLeap_105, eX9_makeLeap_107, eX9_makeLeap_110, eX9_makeLeap_113, eX9_makeLeap_115, eX9_makeLeap_116, eX9_makeLeap_117, eX9_makeLeap_118, eX9_makeLeap_121, eX9_makeLeap_123, eX9_makeLeap_124, eX9_makeLeap_125, eX9_makeLeap_125x, eX9_makeLeap_125y, eX9_makeLeap_126, eX9_makeLeap_129, eX9_makeLeap_130, eX9_makeLeap_133, eX9_makeLeap_135, eX9_makeLeap_136, eX9_makeLeap_137, eX9_makeLeap_139, eX9_makeLeap_140, eX9_makeLeap_141, eX9_makeLeap_142, eX9_makeLeap_143, eX9_makeLeap_146, eX9_makeLeap_148, eX9_makeLeap_149, eX9_makeLeap_150, eX9_makeLeap_151, eX9_makeLeap_152, eX9_makeLeap_153, eX9_makeLeap_154, eX9_makeLeap_157, eX9_makeLeap_158, eX9_makeLeap_159, eX9_makeLeap_162, eX9_makeLeap_163, if_pos, if_neg, if_true, if_false, Option.bind_some, Option.toList_some, Option.toList_none, List.cons_append, List.nil_append, n6, e0]
  rw [e1]
  have c17 := c4
  by_cases c : (to : Int) < 300 ∧ S 594 (17 + u) < (to : Int) - (k : Int)
  · obtain ⟨T4, hT4⟩ : ∃ T, updM T3 594 (17 + u) ((to : Int) - (k : Int)) = T := ⟨_, rfl⟩
    obtain ⟨S', w1, w2⟩ := tail T4 (fin T4 (fun j y => by rw [← hT4, updM_eq, up_ne y]) (by rw [← hT4, updM_eq, up_eq, if_pos c])) (fun a ha => by rw [← hT4, updM_ne ha, t3f a ha])
    refine ⟨S', ?_, w2⟩
    obtain ⟨d1, d2⟩ := c
    rw [← w1]
    simp (disch := omega) only [eX9_makeLeap_0, eX9_makeLeap_1, eX9_makeLeap_2, eX9_makeLeap_5, eX9_makeLeap_7, eX9_makeLeap_7x, eX9_makeLeap_7y, eX9_makeLeap_8, eX9_makeLeap_11, eX9_makeLeap_13, eX9_makeLeap_14, eX9_makeLeap_15, eX9_makeLeap_18, eX9_makeLeap_21, eX9_makeLeap_22, eX9_makeLeap_25, eX9_makeLeap_26, eX9_makeLeap_26x, eX9_makeLeap_26y, eX9_makeLeap_27, eX9_makeLeap_30, eX9_makeLeap_31, eX9_makeLeap_32, eX9_makeLeap_33, eX9_makeLeap_34, eX9_makeLeap_35, eX9_makeLeap_36, eX9_makeLeap_39, eX9_makeLeap_40, eX9_makeLeap_41, eX9_makeLeap_44, eX9_makeLeap_45, eX9_makeLeap_46, eX9_makeLeap_49, eX9_makeLeap_51, eX9_makeLeap_52, eX9_makeLeap_53, eX9_makeLeap_54, eX9_makeLeap_54x, eX9_makeLeap_54y, eX9_makeLeap_55, eX9_makeLeap_56, eX9_makeLeap_57, eX9_makeLeap_60, eX9_makeLeap_61, eX9_makeLeap_62, eX9_makeLeap_63, eX9_makeLeap_66, eX9_makeLeap_68, eX9_makeLeap_69, eX9_makeLeap_70, eX9_makeLeap_71, eX9_makeLeap_71x, eX9_makeLeap_71y, eX9_makeLeap_72, eX9_makeLeap_73, eX9_makeLeap_74, eX9_makeLeap_75, eX9_makeLeap_76, eX9_makeLeap_77, eX9_makeLeap_80, eX9_makeLeap_81, eX9_makeLeap_82, eX9_makeLeap_83, eX9_makeLeap_84, eX9_makeLeap_87, eX9_makeLeap_88, eX9_makeLeap_88x, eX9_makeLeap_88y, eX9_makeLeap_89, eX9_makeLeap_92, eX9_makeLeap_94, eX9_makeLeap_95, eX9_makeLeap_98, eX9_makeLeap_100, eX9_makeLeap_101, eX9_makeLeap_102, eX9_makeLeap_104, eX9_makeLeap_105, eX9_makeLeap_107, eX9_makeLeap_110, eX9_makeLeap_113, eX9_makeLeap_115, eX9_makeLeap_116, eX9_makeLeap_117, eX9_makeLeap_118, eX9_makeLeap_121, eX9_makeLeap_123, eX9_makeLeap_124, eX9_makeLeap_125, eX9_makeLeap_125x, eX9_makeLeap_125y, eX9_makeLeap_126, eX9_makeLeap_129, eX9_makeLeap_130, eX9_makeLeap_133, eX9_makeLeap_135, eX9_makeLeap_136, eX9_makeLeap_137, eX9_makeLeap_139, eX9_makeLeap_140, eX9_makeLeap_141, eX9_makeLeap_142, eX9_makeLeap_143, eX9_makeLeap_146, eX9_makeLeap_148, eX9_makeLeap_149, eX9_makeLeap_150, eX9_makeLeap_151, eX9_makeLeap_152, eX9_makeLeap_153, eX9_makeLeap_154, eX9_makeLeap_157, eX9_makeLeap_158, eX9_makeLeap_159, eX9_makeLeap_162, eX9_makeLeap_163, if_pos, if_neg, if_true, if_false, Option.bind_some, Option.toList_some, Option.toList_none, List.cons_append, List.nil_append, e7, x11, e2, hT1, x8, t18, hT2, e3, n5, t25, e4, x20, hT3, x17, t317, hT4]
  · obtain ⟨S', w1, w2⟩ := tail T3 (fin T3 (fun j y => rfl) (by rw [t317, if_neg c])) t3f
    refine ⟨S', ?_, w2⟩
    rw [← w1]
    by_cases d : (to : Int) < 300
    · have d2 : ¬ S 594 (17 + u) < (to : Int) - (k : Int) := fun y => c ⟨d, y⟩
      simp (disch := omega) only [eX9_makeLeap_0, eX9_makeLeap_1, eX9_makeLeap_2, eX9_makeLeap_5, eX9_makeLeap_7, eX9_makeLeap_7x, eX9_makeLeap_7y, eX9_makeLeap_8, eX9_makeLeap_11, eX9_makeLeap_13, eX9_makeLeap_14, eX9_makeLeap_15, eX9_makeLeap_18, eX9_makeLeap_21, eX9_makeLeap_22, eX9_makeLeap_25, eX9_makeLeap_26, eX9_makeLeap_26x, eX9_makeLeap_26y, eX9_makeLeap_27, eX9_makeLeap_30, eX9_makeLeap_31, eX9_makeLeap_32, eX9_makeLeap_33, eX9_makeLeap_34, eX9_makeLeap_35, eX9_makeLeap_36, eX9_makeLeap_39, eX9_makeLeap_40, eX9_makeLeap_41, eX9_makeLeap_44, eX9_makeLeap_45, eX9_makeLeap_46, eX9_makeLeap_49, eX9_makeLeap_51, eX9_makeLeap_52, eX9_makeLeap_53, eX9_makeLeap_54, eX9_makeLeap_54x, eX9_makeLeap_54y, eX9_makeLeap_55, eX9_makeLeap_56, eX9_makeLeap_57, eX9_makeLeap_60, eX9_makeLeap_61, eX9_makeLeap_62, eX9_makeLeap_63, eX9_makeLeap_66, eX9_makeLeap_68, eX9_makeLeap_69, eX9_makeLeap_70, eX9_makeLeap_71, eX9_makeLeap_71x, eX9_makeLeap_71y, eX9_makeLeap_72, eX9_makeLeap_73, eX9_makeLeap_74, eX9_makeLeap_75, eX9_makeLeap_76, eX9_makeLeap_77, eX9_makeLeap_80, eX9_makeLeap_81, eX9_makeLeap_82, eX9_makeLeap_83, eX9_makeLeap_84, eX9_makeLeap_87, eX9_makeLeap_88, eX9_makeLeap_88x, eX9_makeLeap_88y, eX9_makeLeap_89, eX9_makeLeap_92, eX9_makeLeap_94, eX9_makeLeap_95, eX9_makeLeap_98, eX9_makeLeap_100, eX9_makeLeap_101, eX9_makeLeap_102, eX9_makeLeap_104, eX9_makeLeap_105, eX9_makeLeap_107, eX9_makeLeap_110, eX9_makeLeap_113, eX9_makeLeap_115, eX9_makeLeap_116, eX9_makeLeap_117, eX9_makeLeap_118, eX9_makeLeap_121, eX9_makeLeap_123, eX9_makeLeap_124, eX9_makeLeap_125, eX9_makeLeap_125x, eX9_makeLeap_125y, eX9_makeLeap_126, eX9_makeLeap_129, eX9_makeLeap_130, eX9_makeLeap_133, eX9_makeLeap_135, eX9_makeLeap_136, eX9_makeLeap_137, eX9_makeLeap_139, eX9_makeLeap_140, eX9_makeLeap_141, eX9_makeLeap_142, eX9_makeLeap_143, eX9_makeLeap_146, eX9_makeLeap_148, eX9_makeLeap_149, eX9_makeLeap_150, eX9_makeLeap_151, eX9_makeLeap_152, eX9_makeLeap_153, eX9_makeLeap_154, eX9_makeLeap_157, eX9_makeLeap_158, eX9_makeLeap_159, eX9_makeLeap_162, eX9_makeLeap_163, if_pos, if_neg, if_true, if_false, Option.bind_some, Option.toList_some, Option.toList_none, List.cons_append, List.nil_append, e7, x11, e2, hT1, x8, t18, hT2, e3, n5, t25, e4, x20, hT3, x17, t317]
    · simp (disch := omega) only [eX9_makeLeap_0, eX9_makeLeap_1, eX9_makeLeap_2, eX9_makeLeap_5, eX9_makeLeap_7, eX9_makeLeap_7x, eX9_makeLeap_7y, eX9_makeLeap_8, eX9_makeLeap_11, eX9_makeLeap_13, eX9_makeLeap_14, eX9_makeLeap_15, eX9_makeLeap_18, eX9_makeLeap_21, eX9_makeLeap_22, eX9_makeLeap_25, eX9_makeLeap_26, eX9_makeLeap_26x, eX9_makeLeap_26y, eX9_makeLeap_27, eX9_makeLeap_30, eX9_makeLeap_31, eX9_makeLeap_32, eX9_makeLeap_33, eX9_makeLeap_34, eX9_makeLeap_35, eX9_makeLeap_36, eX9_makeLeap_39, eX9_makeLeap_40, eX9_makeLeap_41, eX9_makeLeap_44, eX9_makeLeap_45, eX9_makeLeap_46, eX9_makeLeap_49, eX9_makeLeap_51, eX9_makeLeap_52, eX9_makeLeap_53, eX9_makeLeap_54, eX9_makeLeap_54x, eX9_makeLeap_54y, eX9_makeLeap_55, eX9_makeLeap_56, eX9_makeLeap_57, eX9_makeLeap_60, eX9_makeLeap_61, eX9_makeLeap_62, eX9_makeLeap_63, eX9_makeLeap_66, eX9_makeLeap_68, eX9_makeLeap_69, eX9_makeLeap_70, eX9_makeLeap_71, eX9_makeLeap_71x, eX9_makeLeap_71y, eX9_makeLeap_72, eX9_makeLeap_73, eX9_makeLeap_74, eX9_makeLeap_75, eX9_makeLeap_76, eX9_makeLeap_77, eX9_makeLeap_80, eX9_makeLeap_81, eX9_makeLeap_82, eX9_makeLeap_83, eX9_makeLeap_84, eX9_makeLeap_87, eX9_makeLeap_88, eX9_makeLeap_88x, eX9_makeLeap_88y, eX9_makeLeap_89, eX9_makeLeap_92, eX9_makeLeap_94, eX9_makeLeap_95, eX9_makeLeap_98, eX9_makeLeap_100, eX9_makeLeap_101, eX9_makeLeap_102, eX9_makeLeap_104, eX9_makeLeap_105, eX9_makeLeap_107, eX9_makeLeap_110, eX9_makeLeap_113, eX9_makeLeap_115, eX9_makeLeap_116, eX9_makeLeap_117, eX9_makeLeap_118, eX9_makeLeap_121, eX9_makeLeap_123, eX9_makeLeap_124, eX9_makeLeap_125, eX9_makeLeap_125x, eX9_makeLeap_125y, eX9_makeLeap_126, eX9_makeLeap_129, eX9_makeLeap_130, eX9_makeLeap_133, eX9_makeLeap_135, eX9_makeLeap_136, eX9_makeLeap_137, eX9_makeLeap_139, eX9_makeLeap_140, eX9_makeLeap_141, eX9_makeLeap_142, eX9_makeLeap_143, eX9_makeLeap_146, eX9_makeLeap_148, eX9_makeLeap_149, eX9_makeLeap_150, eX9_makeLeap_151, eX9_makeLeap_152, eX9_makeLeap_153, eX9_makeLeap_154, eX9_makeLeap_157, eX9_makeLeap_158, eX9_makeLeap_159, eX9_makeLeap_162, eX9_makeLeap_163, if_pos, if_neg, if_true, if_false, Option.bind_some, Option.toList_some, Option.toList_none, List.cons_append, List.nil_append, e7, x11, e2, hT1, x8, t18, hT2, e3, n5, t25, e4, x20, hT3, x17, t317]
end MO15

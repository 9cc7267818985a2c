/-! the reference: a flood comes -/
section MO18
variable {S : MM} {A : Nat → Int} {w a b : Int}
theorem mSlipW_R {r r' : Nat → Int} {u : Nat} (hb : 0 ≤ A (20 + u) ∧ A (20 + u) ≤ 300) (h : ∀ j, j < 300 → r j = r' j) : mSlipW A r u = mSlipW A r' u := by
  unfold mSlipW
  by_cases c : A (20 + u) = 300
  · rw [if_neg (fun y => y.2.1 c), if_neg (fun y => y.2.1 c)]
  · rw [h _ (by omega), fst_same (k := (A (20 + u)).toNat) (by omega) h]
def FS (A : Nat → Int) (w a b : Int) (u : Nat) (T : MM) : Prop := (∀ x y, x < 3 → y < 300 → T 594 (25 + 300 * x + y) = if x < u then nR A w a b x y else RA A x y) ∧ (∀ x y, x < 3 → y < 300 → T 594 (1225 + 900 * fl0 A + 300 * x + y) = if x < u then nT A w a b x y else 0) ∧ (∀ k, (k < 25 ∨ (925 ≤ k ∧ k < 1225 + 900 * fl0 A) ∨ 2125 + 900 * fl0 A ≤ k) → T 594 k = dO A k)
theorem st_flood {u : Nat} {n : Int} {o : Int} (ok : AOk A) (hu : u < 3) (hw : w = -6 ∨ (0 ≤ w ∧ w ≤ 2)) (ha : 0 ≤ a ∧ a ≤ 299) (hb : a ≤ b ∧ b ≤ 299) (hF : FS A w a b u S) : ∃ S', rn xX9_tryFlood (83, [some (vR 593), some (vI w), some (vI a), some (vI b), some (vI o), some (vI n), some (vI (u : Int))], [], S) = rn xX9_tryFlood (83, [some (vR 593), some (vI w), some (vI a), some (vI b), some (vI o), some (vI (n + (cnt (nT A w a b u) 300 : Int))), some (vI ((u + 1 : Nat) : Int))], [], S') ∧ FS A w a b (u + 1) S' ∧ (∀ c, c ≠ 594 → S' c = S c) := by
  obtain ⟨F1, F2, F3⟩ := id hF
  have f3 := fl0_3 A ok.2.2.2.2.2.1
  by_cases z : w = -6 ∨ w = (u : Int)
  · obtain ⟨a', ea⟩ : ∃ i : Nat, a = (i : Int) := ⟨a.toNat, by omega⟩
    obtain ⟨b', eb⟩ : ∃ i : Nat, b = (i : Int) := ⟨b.toNat, by omega⟩
    subst ea
    subst eb
    have q7 : S 594 7 = (fl0 A : Int) := by
      rw [F3 7 (by omega)]
      unfold dO
      rw [if_pos rfl]
    have hBr : ∀ k, k < 300 → S 594 (25 + 300 * u + k) = RA A u k := fun k hk => by rw [F1 u k hu hk, if_neg (by omega)]
    obtain ⟨T, e1, g1, g2⟩ := z_take (S := S) (w := u) (a := a') (b := b') rfl q7 f3 hu (by omega) (by omega) (fun k hk => by rw [hBr k hk]; exact ok.2.2.2.1 u k hu hk)
    have ec : cnt (mIn (fun k => S 594 (25 + 300 * u + k)) a' b') 300 = cnt (nT A w a' b' u) 300 := cnt_congr (fun k hk => by
      unfold nT mIn
      rw [if_pos z]
      simp only
      rw [hBr k hk])
    rw [ec] at e1
    refine ⟨T, ?_, ⟨fun x y hx hy => ?_, fun x y hx hy => ?_, fun k hk => ?_⟩, g2⟩
    · have hle := cnt_le (nT A w a' b' u) 300
      rw [eX9_tryFlood_83]
      by_cases z6 : w = -6
      · simp (disch := omega) only [eX9_tryFlood_0, eX9_tryFlood_1, eX9_tryFlood_3, eX9_tryFlood_6, eX9_tryFlood_7, eX9_tryFlood_10, eX9_tryFlood_13, eX9_tryFlood_14, eX9_tryFlood_15, eX9_tryFlood_16, eX9_tryFlood_17, eX9_tryFlood_20, eX9_tryFlood_23, eX9_tryFlood_25, eX9_tryFlood_26, eX9_tryFlood_27, eX9_tryFlood_29, eX9_tryFlood_32, eX9_tryFlood_33, eX9_tryFlood_36, eX9_tryFlood_37, eX9_tryFlood_41, eX9_tryFlood_44, eX9_tryFlood_47, eX9_tryFlood_48, eX9_tryFlood_51, eX9_tryFlood_54, eX9_tryFlood_57, eX9_tryFlood_58, eX9_tryFlood_61, eX9_tryFlood_63, eX9_tryFlood_63x, eX9_tryFlood_63y, eX9_tryFlood_64, eX9_tryFlood_65, eX9_tryFlood_66, eX9_tryFlood_68, eX9_tryFlood_69, eX9_tryFlood_70, eX9_tryFlood_71, eX9_tryFlood_74, eX9_tryFlood_77, eX9_tryFlood_78, eX9_tryFlood_80, eX9_tryFlood_81, eX9_tryFlood_85, eX9_tryFlood_86, eX9_tryFlood_89, eX9_tryFlood_91, eX9_tryFlood_92, eX9_tryFlood_94, eX9_tryFlood_97, eX9_tryFlood_98, eX9_tryFlood_100, eX9_tryFlood_103, eX9_tryFlood_104, eX9_tryFlood_106, eX9_tryFlood_107, eX9_tryFlood_108, eX9_tryFlood_111, eX9_tryFlood_114, eX9_tryFlood_115, eX9_tryFlood_116, eX9_tryFlood_118, eX9_tryFlood_121, eX9_tryFlood_124, eX9_tryFlood_125, eX9_tryFlood_128, eX9_tryFlood_130, eX9_tryFlood_131, eX9_tryFlood_131x, eX9_tryFlood_131y, eX9_tryFlood_132, eX9_tryFlood_133, eX9_tryFlood_134, eX9_tryFlood_135, eX9_tryFlood_136, eX9_tryFlood_140, eX9_tryFlood_141, eX9_tryFlood_144, eX9_tryFlood_145, eX9_tryFlood_147, eX9_tryFlood_150, eX9_tryFlood_153, eX9_tryFlood_156, eX9_tryFlood_157, eX9_tryFlood_160, eX9_tryFlood_162, if_pos, if_neg, if_true, if_false, Option.bind_some, Option.toList_some, Option.toList_none, List.cons_append, List.nil_append, e1]
        rw [show ((u : Int) + 1) = ((u + 1 : Nat) : Int) by omega]
      · have z7 : w = (u : Int) := by omega
        simp (disch := omega) only [eX9_tryFlood_0, eX9_tryFlood_1, eX9_tryFlood_3, eX9_tryFlood_6, eX9_tryFlood_7, eX9_tryFlood_10, eX9_tryFlood_13, eX9_tryFlood_14, eX9_tryFlood_15, eX9_tryFlood_16, eX9_tryFlood_17, eX9_tryFlood_20, eX9_tryFlood_23, eX9_tryFlood_25, eX9_tryFlood_26, eX9_tryFlood_27, eX9_tryFlood_29, eX9_tryFlood_32, eX9_tryFlood_33, eX9_tryFlood_36, eX9_tryFlood_37, eX9_tryFlood_41, eX9_tryFlood_44, eX9_tryFlood_47, eX9_tryFlood_48, eX9_tryFlood_51, eX9_tryFlood_54, eX9_tryFlood_57, eX9_tryFlood_58, eX9_tryFlood_61, eX9_tryFlood_63, eX9_tryFlood_63x, eX9_tryFlood_63y, eX9_tryFlood_64, eX9_tryFlood_65, eX9_tryFlood_66, eX9_tryFlood_68, eX9_tryFlood_69, eX9_tryFlood_70, eX9_tryFlood_71, eX9_tryFlood_74, eX9_tryFlood_77, eX9_tryFlood_78, eX9_tryFlood_80, eX9_tryFlood_81, eX9_tryFlood_85, eX9_tryFlood_86, eX9_tryFlood_89, eX9_tryFlood_91, eX9_tryFlood_92, eX9_tryFlood_94, eX9_tryFlood_97, eX9_tryFlood_98, eX9_tryFlood_100, eX9_tryFlood_103, eX9_tryFlood_104, eX9_tryFlood_106, eX9_tryFlood_107, eX9_tryFlood_108, eX9_tryFlood_111, eX9_tryFlood_114, eX9_tryFlood_115, eX9_tryFlood_116, eX9_tryFlood_118, eX9_tryFlood_121, eX9_tryFlood_124, eX9_tryFlood_125, eX9_tryFlood_128, eX9_tryFlood_130, eX9_tryFlood_131, eX9_tryFlood_131x, eX9_tryFlood_131y, eX9_tryFlood_132, eX9_tryFlood_133, eX9_tryFlood_134, eX9_tryFlood_135, eX9_tryFlood_136, eX9_tryFlood_140, eX9_tryFlood_141, eX9_tryFlood_144, eX9_tryFlood_145, eX9_tryFlood_147, eX9_tryFlood_150, eX9_tryFlood_153, eX9_tryFlood_156, eX9_tryFlood_157, eX9_tryFlood_160, eX9_tryFlood_162, if_pos, if_neg, if_true, if_false, Option.bind_some, Option.toList_some, Option.toList_none, List.cons_append, List.nil_append, e1]
        rw [show ((u : Int) + 1) = ((u + 1 : Nat) : Int) by omega]
    · rw [g1]
      by_cases c : x = u
      · subst c
        rw [if_pos (show x < x + 1 by omega)]
        unfold nR mOut
        rw [if_pos z]
        by_cases d : a' ≤ y ∧ y ≤ b'
        · rw [if_pos (by omega), if_pos (by omega)]
        · rw [if_neg (by omega), if_neg (by omega), if_neg (by omega)]
          exact hBr y hy
      · rw [if_neg (by omega), if_neg (by omega), F1 x y hx hy]
        by_cases d : x < u
        · rw [if_pos d, if_pos (by omega)]
        · rw [if_neg d, if_neg (by omega)]
    · rw [g1, if_neg (by omega)]
      by_cases c : x = u
      · subst c
        rw [if_pos (show x < x + 1 by omega)]
        unfold nT mIn
        rw [if_pos z]
        by_cases d : a' ≤ y ∧ y ≤ b'
        · rw [if_pos (by omega), if_pos (by omega), show 1225 + 900 * fl0 A + 300 * x + y - (1225 + 900 * fl0 A + 300 * x) = y by omega]
          exact hBr y hy
        · rw [if_neg (by omega), if_neg (by omega), F2 x y hx hy, if_neg (by omega)]
      · rw [if_neg (by omega), F2 x y hx hy]
        by_cases d : x < u
        · rw [if_pos d, if_pos (by omega)]
        · rw [if_neg d, if_neg (by omega)]
    · rw [g1, if_neg (by omega), if_neg (by omega)]
      exact F3 k hk
  · have ec : cnt (nT A w a b u) 300 = 0 := cnt_zero (fun k hk => by
      unfold nT
      rw [if_neg z])
    refine ⟨S, ?_, ⟨fun x y hx hy => ?_, fun x y hx hy => ?_, F3⟩, fun _ _ => rfl⟩
    · have z6 : ¬ w = -6 := fun y => z (Or.inl y)
      have z7 : ¬ w = (u : Int) := fun y => z (Or.inr y)
      rw [ec, eX9_tryFlood_83]
      simp (disch := omega) only [eX9_tryFlood_0, eX9_tryFlood_1, eX9_tryFlood_3, eX9_tryFlood_6, eX9_tryFlood_7, eX9_tryFlood_10, eX9_tryFlood_13, eX9_tryFlood_14, eX9_tryFlood_15, eX9_tryFlood_16, eX9_tryFlood_17, eX9_tryFlood_20, eX9_tryFlood_23, eX9_tryFlood_25, eX9_tryFlood_26, eX9_tryFlood_27, eX9_tryFlood_29, eX9_tryFlood_32, eX9_tryFlood_33, eX9_tryFlood_36, eX9_tryFlood_37, eX9_tryFlood_41, eX9_tryFlood_44, eX9_tryFlood_47, eX9_tryFlood_48, eX9_tryFlood_51, eX9_tryFlood_54, eX9_tryFlood_57, eX9_tryFlood_58, eX9_tryFlood_61, eX9_tryFlood_63, eX9_tryFlood_63x, eX9_tryFlood_63y, eX9_tryFlood_64, eX9_tryFlood_65, eX9_tryFlood_66, eX9_tryFlood_68, eX9_tryFlood_69, eX9_tryFlood_70, eX9_tryFlood_71, eX9_tryFlood_74, eX9_tryFlood_77, eX9_tryFlood_78, eX9_tryFlood_80, eX9_tryFlood_81, eX9_tryFlood_85, eX9_tryFlood_86, eX9_tryFlood_89, eX9_tryFlood_91, eX9_tryFlood_92, eX9_tryFlood_94, eX9_tryFlood_97, eX9_tryFlood_98, eX9_tryFlood_100, eX9_tryFlood_103, eX9_tryFlood_104, eX9_tryFlood_106, eX9_tryFlood_107, eX9_tryFlood_108, eX9_tryFlood_111, eX9_tryFlood_114, eX9_tryFlood_115, eX9_tryFlood_116, eX9_tryFlood_118, eX9_tryFlood_121, eX9_tryFlood_124, eX9_tryFlood_125, eX9_tryFlood_128, eX9_tryFlood_130, eX9_tryFlood_131, eX9_tryFlood_131x, eX9_tryFlood_131y, eX9_tryFlood_132, eX9_tryFlood_133, eX9_tryFlood_134, eX9_tryFlood_135, eX9_tryFlood_136, eX9_tryFlood_140, eX9_tryFlood_141, eX9_tryFlood_144, eX9_tryFlood_145, eX9_tryFlood_147, eX9_tryFlood_150, eX9_tryFlood_153, eX9_tryFlood_156, eX9_tryFlood_157, eX9_tryFlood_160, eX9_tryFlood_162, if_pos, if_neg, if_true, if_false, Option.bind_some, Option.toList_some, Option.toList_none, List.cons_append, List.nil_append]
      rw [show ((u : Int) + 1) = ((u + 1 : Nat) : Int) by omega]
      rfl
    · rw [F1 x y hx hy]
      by_cases c : x = u
      · subst c
        rw [if_neg (by omega), if_pos (by omega)]
        unfold nR
        rw [if_neg z]
      · by_cases d : x < u
        · rw [if_pos d, if_pos (by omega)]
        · rw [if_neg d, if_neg (by omega)]
    · rw [F2 x y hx hy]
      by_cases c : x = u
      · subst c
        rw [if_neg (by omega), if_pos (by omega)]
        unfold nT
        rw [if_neg z]
      · by_cases d : x < u
        · rw [if_pos d, if_pos (by omega)]
        · rw [if_neg d, if_neg (by omega)]
theorem FS.fl {T : MM} (hF : FS A w a b 3 T) (h7 : 0 ≤ A 7 ∧ A 7 ≤ 4) : updM T 594 7 ((fl0 A : Int) + 1) 594 = mFl A w a b := by
  obtain ⟨F1, F2, F3⟩ := hF
  funext k
  rw [updM_eq]
  unfold mFl
  by_cases c7 : k = 7
  · rw [c7, up_eq, if_pos rfl]
  · rw [up_ne c7, if_neg c7]
    have hd : ∀ k, k ≠ 7 → ¬ (1225 ≤ k ∧ k < 1225 + 900 * fl0 A) → dO A k = A k := fun k y1 y2 => by
      unfold dO
      rw [if_neg y1, if_neg (fun y => y2 y.1)]
    by_cases c : k < 25
    · rw [if_pos c, F3 k (by omega)]
      exact hd k c7 (by omega)
    · rw [if_neg c]
      by_cases c2 : k < 925
      · rw [if_pos c2]
        have e := F1 ((k - 25) / 300) ((k - 25) % 300) (by omega) (by omega)
        rw [show 25 + 300 * ((k - 25) / 300) + (k - 25) % 300 = k by omega, if_pos (by omega)] at e
        exact e
      · rw [if_neg c2]
        by_cases c3 : k < 1225
        · rw [if_pos c3, F3 k (by omega)]
          exact hd k c7 (by omega)
        · rw [if_neg c3]
          by_cases c4 : k < 1225 + 900 * fl0 A
          · rw [if_pos c4, F3 k (by omega)]
            unfold dO
            rw [if_neg c7]
            by_cases c5 : A 7 < 4
            · rw [if_pos c5, if_neg (fun y => y.2 c5)]
            · rw [if_neg c5, if_pos ⟨by omega, c5⟩]
          · rw [if_neg c4]
            by_cases c5 : k < 2125 + 900 * fl0 A
            · rw [if_pos c5]
              have e := F2 ((k - 1225 - 900 * fl0 A) / 300) ((k - 1225 - 900 * fl0 A) % 300) (by omega) (by omega)
              rw [show 1225 + 900 * fl0 A + 300 * ((k - 1225 - 900 * fl0 A) / 300) + (k - 1225 - 900 * fl0 A) % 300 = k by omega, if_pos (by omega)] at e
              exact e
            · rw [if_neg c5, F3 k (by omega)]
              exact hd k c7 (by omega)
theorem st_flslip {T : MM} {u : Nat} {n : Int} {l1 l2 l3 : Option VV} {x : Int} (hu : u < 3) (hr : RunR (T 594)) (h4 : 0 ≤ T 594 4 ∧ T 594 4 ≤ 2) (hR : RB (RA (T 594))) : ∃ S', rn xX9_tryFlood (138, [some (vR 593), l1, l2, l3, some (vI x), some (vI n), some (vI (u : Int))], [], T) = rn xX9_tryFlood (138, [some (vR 593), l1, l2, l3, some (vI x), some (vI n), some (vI ((u + 1 : Nat) : Int))], [], S') ∧ S' 594 = mSlipW (T 594) (RA (T 594) u) u ∧ (∀ c, c ≠ 594 → S' c = T c) := by
  obtain ⟨S', e, g1, g2⟩ := z_slip (S := T) hu hr h4 hR
  refine ⟨S', ?_, g1, g2⟩
  rw [eX9_tryFlood_138]
  simp (disch := omega) only [eX9_tryFlood_0, eX9_tryFlood_1, eX9_tryFlood_3, eX9_tryFlood_6, eX9_tryFlood_7, eX9_tryFlood_10, eX9_tryFlood_13, eX9_tryFlood_14, eX9_tryFlood_15, eX9_tryFlood_16, eX9_tryFlood_17, eX9_tryFlood_20, eX9_tryFlood_23, eX9_tryFlood_25, eX9_tryFlood_26, eX9_tryFlood_27, eX9_tryFlood_29, eX9_tryFlood_32, eX9_tryFlood_33, eX9_tryFlood_36, eX9_tryFlood_37, eX9_tryFlood_41, eX9_tryFlood_44, eX9_tryFlood_47, eX9_tryFlood_48, eX9_tryFlood_51, eX9_tryFlood_54, eX9_tryFlood_57, eX9_tryFlood_58, eX9_tryFlood_61, eX9_tryFlood_63, eX9_tryFlood_63x, eX9_tryFlood_63y, eX9_tryFlood_64, eX9_tryFlood_65, eX9_tryFlood_66, eX9_tryFlood_68, eX9_tryFlood_69, eX9_tryFlood_70, eX9_tryFlood_71, eX9_tryFlood_74, eX9_tryFlood_77, eX9_tryFlood_78, eX9_tryFlood_80, eX9_tryFlood_81, eX9_tryFlood_85, eX9_tryFlood_86, eX9_tryFlood_89, eX9_tryFlood_91, eX9_tryFlood_92, eX9_tryFlood_94, eX9_tryFlood_97, eX9_tryFlood_98, eX9_tryFlood_100, eX9_tryFlood_103, eX9_tryFlood_104, eX9_tryFlood_106, eX9_tryFlood_107, eX9_tryFlood_108, eX9_tryFlood_111, eX9_tryFlood_114, eX9_tryFlood_115, eX9_tryFlood_116, eX9_tryFlood_118, eX9_tryFlood_121, eX9_tryFlood_124, eX9_tryFlood_125, eX9_tryFlood_128, eX9_tryFlood_130, eX9_tryFlood_131, eX9_tryFlood_131x, eX9_tryFlood_131y, eX9_tryFlood_132, eX9_tryFlood_133, eX9_tryFlood_134, eX9_tryFlood_135, eX9_tryFlood_136, eX9_tryFlood_140, eX9_tryFlood_141, eX9_tryFlood_144, eX9_tryFlood_145, eX9_tryFlood_147, eX9_tryFlood_150, eX9_tryFlood_153, eX9_tryFlood_156, eX9_tryFlood_157, eX9_tryFlood_160, eX9_tryFlood_162, if_pos, if_neg, if_true, if_false, Option.bind_some, Option.toList_some, Option.toList_none, List.cons_append, List.nil_append, e]
  rw [show ((u : Int) + 1) = ((u + 1 : Nat) : Int) by omega]
theorem z_tryFlood {S1 : MM} {x : Int} (e0 : fX9_keepIf [vR 593, vI x] S = some (none, S1)) (h0 : S1 594 = A) (ok : AOk A) (hw : rng w) (he : errFl w a b = 0) : ∃ S', fX9_tryFlood [vR 593, vI w, vI a, vI b, vI x] S = some (some (vI ((cnt (nT A w a b 0) 300 : Int) + cnt (nT A w a b 1) 300 + cnt (nT A w a b 2) 300)), S') ∧ S' 594 = mTake A w a b ∧ (∀ c, c ≠ 594 → S' c = S1 c) := by
  obtain ⟨k0, a0, -⟩ := mk
  have n7 : (7 : Int).toNat = 7 := rfl
  obtain ⟨o1, o2, o3, o4, o5, o6, o7⟩ := id ok
  obtain ⟨hw6, ha, hab⟩ : (w = -6 ∨ (0 ≤ w ∧ w ≤ 2)) ∧ (0 ≤ a ∧ a ≤ 299) ∧ a ≤ b ∧ b ≤ 299 := by
    rcases errFl_v (w := w) (a := a) (b := b) with y | y
    · exact y.2
    · omega
  have f3 := fl0_3 A o6
  obtain ⟨T1, e1, g1, f1⟩ := z_dropOldest h0 o6
  have d7 : dO A 7 = (fl0 A : Int) := by unfold dO; rw [if_pos rfl]
  obtain ⟨T2, e2, g2, f2⟩ := l_clear (q := fl0 A) f3 d7 (l1 := some (vI w)) (l2 := some (vI a)) (l3 := some (vI b)) (x := x) (l6 := none) 900 0 T1 rfl (fun j => by rw [g1, if_neg (by omega)])
  have F0 : FS A w a b 0 T2 := by
    refine ⟨fun x y hx hy => ?_, fun x y hx hy => ?_, fun k hk => by rw [g2, if_neg (by omega)]⟩
    · rw [g2, if_neg (by omega), if_neg (by omega)]
      unfold dO
      rw [if_neg (by omega), if_neg (by omega)]
      rfl
    · rw [g2, if_pos (by omega), if_neg (by omega)]
  obtain ⟨T3, e3, F3, f3'⟩ := st_flood (n := 0) (o := x) ok (u := 0) (by omega) hw6 ha hab F0
  obtain ⟨T4, e4, F4, f4⟩ := st_flood (n := 0 + (cnt (nT A w a b 0) 300 : Int)) (o := x) ok (u := 1) (by omega) hw6 ha hab F3
  obtain ⟨T5, e5, F5, f5⟩ := st_flood (n := 0 + (cnt (nT A w a b 0) 300 : Int) + (cnt (nT A w a b 1) 300 : Int)) (o := x) ok (u := 2) (by omega) hw6 ha hab F4
  have q7 : T5 594 7 = (fl0 A : Int) := by rw [F5.2.2 7 (by omega)]; exact d7
  obtain ⟨T6, hT6⟩ : ∃ T, updM T5 594 7 ((fl0 A : Int) + 1) = T := ⟨_, rfl⟩
  have h6 : T6 594 = mFl A w a b := by rw [← hT6]; exact F5.fl o6
  have hRB : RB (RA (mFl A w a b)) := fun u k hu hk => by
    rw [mFl_R hu hk]
    have := o4 u k hu hk
    unfold nR
    split
    · unfold mOut
      split
      · omega
      · exact this
    · exact this
  have hr6 : RunR (mFl A w a b) := o2.congr (fun k y1 y2 y3 => mFl_lo (by omega) (by omega)) (fun k y1 y2 => mFl_mt (by omega) (by omega))
  have m4 : mFl A w a b 4 = A 4 := mFl_lo (by omega) (by omega)
  have m1 : mFl A w a b 1 = A 1 := mFl_lo (by omega) (by omega)
  obtain ⟨T7, e7, g7, f7⟩ := st_flslip (T := T6) (u := 0) (n := 0 + (cnt (nT A w a b 0) 300 : Int) + (cnt (nT A w a b 1) 300 : Int) + (cnt (nT A w a b 2) 300 : Int)) (l1 := some (vI w)) (l2 := some (vI a)) (l3 := some (vI b)) (x := x) (by omega) (by rw [h6]; exact hr6) (by rw [h6, m4]; exact o3.1) (by rw [h6]; exact hRB)
  rw [h6] at g7
  obtain ⟨B0, hB0⟩ : ∃ B, B = mSlipW (mFl A w a b) (RA (mFl A w a b) 0) 0 := ⟨_, rfl⟩
  rw [← hB0] at g7
  have r0 : RunR B0 := by rw [hB0]; exact RunR_slipW (by omega) hr6
  have a0' : ∀ u k, u < 3 → k < 300 → RA B0 u k = RA (mFl A w a b) u k := fun u k hu hk => by rw [hB0]; exact mSlipW_k (by omega) (by omega)
  have c0 : B0 4 = A 4 ∧ B0 1 = A 1 := by rw [hB0, mSlipW_k (by omega) (by omega), mSlipW_k (by omega) (by omega)]; exact ⟨m4, m1⟩
  obtain ⟨T8, e8, g8, f8⟩ := st_flslip (T := T7) (u := 1) (n := 0 + (cnt (nT A w a b 0) 300 : Int) + (cnt (nT A w a b 1) 300 : Int) + (cnt (nT A w a b 2) 300 : Int)) (l1 := some (vI w)) (l2 := some (vI a)) (l3 := some (vI b)) (x := x) (by omega) (by rw [g7]; exact r0) (by rw [g7, c0.1]; exact o3.1) (by rw [g7]; exact fun u k hu hk => by rw [a0' u k hu hk]; exact hRB u k hu hk)
  rw [g7, mSlipW_R (r' := RA (mFl A w a b) 1) (r0.2.2.2.2 1 (by omega)).1 (fun j hj => a0' 1 j (by omega) hj)] at g8
  obtain ⟨B1, hB1⟩ : ∃ B, B = mSlipW B0 (RA (mFl A w a b) 1) 1 := ⟨_, rfl⟩
  rw [← hB1] at g8
  have r1 : RunR B1 := by rw [hB1]; exact RunR_slipW (by omega) r0
  have a1' : ∀ u k, u < 3 → k < 300 → RA B1 u k = RA (mFl A w a b) u k := fun u k hu hk => by rw [← a0' u k hu hk, hB1]; exact mSlipW_k (by omega) (by omega)
  have c1 : B1 4 = A 4 ∧ B1 1 = A 1 := by rw [hB1, mSlipW_k (by omega) (by omega), mSlipW_k (by omega) (by omega)]; exact c0
  obtain ⟨T9, e9, g9, f9⟩ := st_flslip (T := T8) (u := 2) (n := 0 + (cnt (nT A w a b 0) 300 : Int) + (cnt (nT A w a b 1) 300 : Int) + (cnt (nT A w a b 2) 300 : Int)) (l1 := some (vI w)) (l2 := some (vI a)) (l3 := some (vI b)) (x := x) (by omega) (by rw [g8]; exact r1) (by rw [g8, c1.1]; exact o3.1) (by rw [g8]; exact fun u k hu hk => by rw [a1' u k hu hk]; exact hRB u k hu hk)
  rw [g8, mSlipW_R (r' := RA (mFl A w a b) 2) (r1.2.2.2.2 2 (by omega)).1 (fun j hj => a1' 2 j (by omega) hj)] at g9
  have g9' : T9 594 = mSlip (mFl A w a b) (RA (mFl A w a b)) := by rw [g9, hB1, hB0]; rfl
  have r2 : RunR (mSlip (mFl A w a b) (RA (mFl A w a b))) := (slip_inv (R := RA (mFl A w a b)) hr6).1
  obtain ⟨S', eL, gL, fL⟩ := z_lookRound (S := T9) (by rw [g9']; exact r2) (by rw [g9', mSlip_k (by omega), m4]; exact o3.1) (by rw [g9', mSlip_k (by omega), m1]; exact o1.2.1)
  refine ⟨S', ?_, ?_, fun c hc => by rw [fL c hc, f9 c hc, f8 c hc, f7 c hc, ← hT6, updM_ne hc, f5 c hc, f4 c hc, f3' c hc, f2 c hc, f1 c hc]⟩
  · have eW := z_isWalker (S := S) hw
    have eG := z_isRange (S := S) (a := a) (b := b) ⟨by omega, by omega⟩ ⟨by omega, by omega⟩
    rw [if_pos ⟨ha, hab⟩] at eG
    have q0 := cnt_le (nT A w a b 0) 300
    have q1 := cnt_le (nT A w a b 1) 300
    have q2 := cnt_le (nT A w a b 2) 300
    have ea := e3.trans (e4.trans e5)
    have es := e7.trans (e8.trans e9)
    rw [show ((0 : Nat) : Int) = 0 from rfl] at ea es e2
    rw [show ∀ X Y Z : Int, 0 + X + Y + Z = X + Y + Z from fun X Y Z => by omega] at ea es
    have fin : rn xX9_tryFlood (26, [some (vR 593), some (vI w), some (vI a), some (vI b), some (vI x), none, none], [], S) = some (some (vI ((cnt (nT A w a b 0) 300 : Int) + cnt (nT A w a b 1) 300 + cnt (nT A w a b 2) 300)), S') := by
      simp (disch := omega) only [eX9_tryFlood_0, eX9_tryFlood_1, eX9_tryFlood_3, eX9_tryFlood_6, eX9_tryFlood_7, eX9_tryFlood_10, eX9_tryFlood_13, eX9_tryFlood_14, eX9_tryFlood_15, eX9_tryFlood_16, eX9_tryFlood_17, eX9_tryFlood_20, eX9_tryFlood_23, eX9_tryFlood_25, eX9_tryFlood_26, eX9_tryFlood_27, eX9_tryFlood_29, eX9_tryFlood_32, eX9_tryFlood_33, eX9_tryFlood_36, eX9_tryFlood_37, eX9_tryFlood_41, eX9_tryFlood_44, eX9_tryFlood_47, eX9_tryFlood_48, eX9_tryFlood_51, eX9_tryFlood_54, eX9_tryFlood_57, eX9_tryFlood_58, eX9_tryFlood_61, eX9_tryFlood_63, eX9_tryFlood_63x, eX9_tryFlood_63y, eX9_tryFlood_64, eX9_tryFlood_65, eX9_tryFlood_66, eX9_tryFlood_68, eX9_tryFlood_69, eX9_tryFlood_70, eX9_tryFlood_71, eX9_tryFlood_74, eX9_tryFlood_77, eX9_tryFlood_78, eX9_tryFlood_80, eX9_tryFlood_81, eX9_tryFlood_85, eX9_tryFlood_86, eX9_tryFlood_89, eX9_tryFlood_91, eX9_tryFlood_92, eX9_tryFlood_94, eX9_tryFlood_97, eX9_tryFlood_98, eX9_tryFlood_100, eX9_tryFlood_103, eX9_tryFlood_104, eX9_tryFlood_106, eX9_tryFlood_107, eX9_tryFlood_108, eX9_tryFlood_111, eX9_tryFlood_114, eX9_tryFlood_115, eX9_tryFlood_116, eX9_tryFlood_118, eX9_tryFlood_121, eX9_tryFlood_124, eX9_tryFlood_125, eX9_tryFlood_128, eX9_tryFlood_130, eX9_tryFlood_131, eX9_tryFlood_131x, eX9_tryFlood_131y, eX9_tryFlood_132, eX9_tryFlood_133, eX9_tryFlood_134, eX9_tryFlood_135, eX9_tryFlood_136, eX9_tryFlood_140, eX9_tryFlood_141, eX9_tryFlood_144, eX9_tryFlood_145, eX9_tryFlood_147, eX9_tryFlood_150, eX9_tryFlood_153, eX9_tryFlood_156, eX9_tryFlood_157, eX9_tryFlood_160, eX9_tryFlood_162, if_pos, if_neg, if_true, if_false, Option.bind_some, Option.toList_some, Option.toList_none, List.cons_append, List.nil_append, e0, e1]
      rw [e2]
      simp (disch := omega) only [eX9_tryFlood_0, eX9_tryFlood_1, eX9_tryFlood_3, eX9_tryFlood_6, eX9_tryFlood_7, eX9_tryFlood_10, eX9_tryFlood_13, eX9_tryFlood_14, eX9_tryFlood_15, eX9_tryFlood_16, eX9_tryFlood_17, eX9_tryFlood_20, eX9_tryFlood_23, eX9_tryFlood_25, eX9_tryFlood_26, eX9_tryFlood_27, eX9_tryFlood_29, eX9_tryFlood_32, eX9_tryFlood_33, eX9_tryFlood_36, eX9_tryFlood_37, eX9_tryFlood_41, eX9_tryFlood_44, eX9_tryFlood_47, eX9_tryFlood_48, eX9_tryFlood_51, eX9_tryFlood_54, eX9_tryFlood_57, eX9_tryFlood_58, eX9_tryFlood_61, eX9_tryFlood_63, eX9_tryFlood_63x, eX9_tryFlood_63y, eX9_tryFlood_64, eX9_tryFlood_65, eX9_tryFlood_66, eX9_tryFlood_68, eX9_tryFlood_69, eX9_tryFlood_70, eX9_tryFlood_71, eX9_tryFlood_74, eX9_tryFlood_77, eX9_tryFlood_78, eX9_tryFlood_80, eX9_tryFlood_81, eX9_tryFlood_85, eX9_tryFlood_86, eX9_tryFlood_89, eX9_tryFlood_91, eX9_tryFlood_92, eX9_tryFlood_94, eX9_tryFlood_97, eX9_tryFlood_98, eX9_tryFlood_100, eX9_tryFlood_103, eX9_tryFlood_104, eX9_tryFlood_106, eX9_tryFlood_107, eX9_tryFlood_108, eX9_tryFlood_111, eX9_tryFlood_114, eX9_tryFlood_115, eX9_tryFlood_116, eX9_tryFlood_118, eX9_tryFlood_121, eX9_tryFlood_124, eX9_tryFlood_125, eX9_tryFlood_128, eX9_tryFlood_130, eX9_tryFlood_131, eX9_tryFlood_131x, eX9_tryFlood_131y, eX9_tryFlood_132, eX9_tryFlood_133, eX9_tryFlood_134, eX9_tryFlood_135, eX9_tryFlood_136, eX9_tryFlood_140, eX9_tryFlood_141, eX9_tryFlood_144, eX9_tryFlood_145, eX9_tryFlood_147, eX9_tryFlood_150, eX9_tryFlood_153, eX9_tryFlood_156, eX9_tryFlood_157, eX9_tryFlood_160, eX9_tryFlood_162, if_pos, if_neg, if_true, if_false, Option.bind_some, Option.toList_some, Option.toList_none, List.cons_append, List.nil_append]
      rw [ea, eX9_tryFlood_83]
      simp (disch := omega) only [eX9_tryFlood_0, eX9_tryFlood_1, eX9_tryFlood_3, eX9_tryFlood_6, eX9_tryFlood_7, eX9_tryFlood_10, eX9_tryFlood_13, eX9_tryFlood_14, eX9_tryFlood_15, eX9_tryFlood_16, eX9_tryFlood_17, eX9_tryFlood_20, eX9_tryFlood_23, eX9_tryFlood_25, eX9_tryFlood_26, eX9_tryFlood_27, eX9_tryFlood_29, eX9_tryFlood_32, eX9_tryFlood_33, eX9_tryFlood_36, eX9_tryFlood_37, eX9_tryFlood_41, eX9_tryFlood_44, eX9_tryFlood_47, eX9_tryFlood_48, eX9_tryFlood_51, eX9_tryFlood_54, eX9_tryFlood_57, eX9_tryFlood_58, eX9_tryFlood_61, eX9_tryFlood_63, eX9_tryFlood_63x, eX9_tryFlood_63y, eX9_tryFlood_64, eX9_tryFlood_65, eX9_tryFlood_66, eX9_tryFlood_68, eX9_tryFlood_69, eX9_tryFlood_70, eX9_tryFlood_71, eX9_tryFlood_74, eX9_tryFlood_77, eX9_tryFlood_78, eX9_tryFlood_80, eX9_tryFlood_81, eX9_tryFlood_85, eX9_tryFlood_86, eX9_tryFlood_89, eX9_tryFlood_91, eX9_tryFlood_92, eX9_tryFlood_94, eX9_tryFlood_97, eX9_tryFlood_98, eX9_tryFlood_100, eX9_tryFlood_103, eX9_tryFlood_104, eX9_tryFlood_106, eX9_tryFlood_107, eX9_tryFlood_108, eX9_tryFlood_111, eX9_tryFlood_114, eX9_tryFlood_115, eX9_tryFlood_116, eX9_tryFlood_118, eX9_tryFlood_121, eX9_tryFlood_124, eX9_tryFlood_125, eX9_tryFlood_128, eX9_tryFlood_130, eX9_tryFlood_131, eX9_tryFlood_131x, eX9_tryFlood_131y, eX9_tryFlood_132, eX9_tryFlood_133, eX9_tryFlood_134, eX9_tryFlood_135, eX9_tryFlood_136, eX9_tryFlood_140, eX9_tryFlood_141, eX9_tryFlood_144, eX9_tryFlood_145, eX9_tryFlood_147, eX9_tryFlood_150, eX9_tryFlood_153, eX9_tryFlood_156, eX9_tryFlood_157, eX9_tryFlood_160, eX9_tryFlood_162, if_pos, if_neg, if_true, if_false, Option.bind_some, Option.toList_some, Option.toList_none, List.cons_append, List.nil_append, n7, q7, hT6]
      rw [es, eX9_tryFlood_138]
      simp (disch := omega) only [eX9_tryFlood_0, eX9_tryFlood_1, eX9_tryFlood_3, eX9_tryFlood_6, eX9_tryFlood_7, eX9_tryFlood_10, eX9_tryFlood_13, eX9_tryFlood_14, eX9_tryFlood_15, eX9_tryFlood_16, eX9_tryFlood_17, eX9_tryFlood_20, eX9_tryFlood_23, eX9_tryFlood_25, eX9_tryFlood_26, eX9_tryFlood_27, eX9_tryFlood_29, eX9_tryFlood_32, eX9_tryFlood_33, eX9_tryFlood_36, eX9_tryFlood_37, eX9_tryFlood_41, eX9_tryFlood_44, eX9_tryFlood_47, eX9_tryFlood_48, eX9_tryFlood_51, eX9_tryFlood_54, eX9_tryFlood_57, eX9_tryFlood_58, eX9_tryFlood_61, eX9_tryFlood_63, eX9_tryFlood_63x, eX9_tryFlood_63y, eX9_tryFlood_64, eX9_tryFlood_65, eX9_tryFlood_66, eX9_tryFlood_68, eX9_tryFlood_69, eX9_tryFlood_70, eX9_tryFlood_71, eX9_tryFlood_74, eX9_tryFlood_77, eX9_tryFlood_78, eX9_tryFlood_80, eX9_tryFlood_81, eX9_tryFlood_85, eX9_tryFlood_86, eX9_tryFlood_89, eX9_tryFlood_91, eX9_tryFlood_92, eX9_tryFlood_94, eX9_tryFlood_97, eX9_tryFlood_98, eX9_tryFlood_100, eX9_tryFlood_103, eX9_tryFlood_104, eX9_tryFlood_106, eX9_tryFlood_107, eX9_tryFlood_108, eX9_tryFlood_111, eX9_tryFlood_114, eX9_tryFlood_115, eX9_tryFlood_116, eX9_tryFlood_118, eX9_tryFlood_121, eX9_tryFlood_124, eX9_tryFlood_125, eX9_tryFlood_128, eX9_tryFlood_130, eX9_tryFlood_131, eX9_tryFlood_131x, eX9_tryFlood_131y, eX9_tryFlood_132, eX9_tryFlood_133, eX9_tryFlood_134, eX9_tryFlood_135, eX9_tryFlood_136, eX9_tryFlood_140, eX9_tryFlood_141, eX9_tryFlood_144, eX9_tryFlood_145, eX9_tryFlood_147, eX9_tryFlood_150, eX9_tryFlood_153, eX9_tryFlood_156, eX9_tryFlood_157, eX9_tryFlood_160, eX9_tryFlood_162, if_pos, if_neg, if_true, if_false, Option.bind_some, Option.toList_some, Option.toList_none, List.cons_append, List.nil_append, eL]
    rw [← fin, uX9_tryFlood]
    by_cases z : w = -6
    · simp (disch := omega) only [eX9_tryFlood_0, eX9_tryFlood_1, eX9_tryFlood_3, eX9_tryFlood_6, eX9_tryFlood_7, eX9_tryFlood_10, eX9_tryFlood_13, eX9_tryFlood_14, eX9_tryFlood_15, eX9_tryFlood_16, eX9_tryFlood_17, eX9_tryFlood_20, eX9_tryFlood_23, eX9_tryFlood_25, eX9_tryFlood_26, eX9_tryFlood_27, eX9_tryFlood_29, eX9_tryFlood_32, eX9_tryFlood_33, eX9_tryFlood_36, eX9_tryFlood_37, eX9_tryFlood_41, eX9_tryFlood_44, eX9_tryFlood_47, eX9_tryFlood_48, eX9_tryFlood_51, eX9_tryFlood_54, eX9_tryFlood_57, eX9_tryFlood_58, eX9_tryFlood_61, eX9_tryFlood_63, eX9_tryFlood_63x, eX9_tryFlood_63y, eX9_tryFlood_64, eX9_tryFlood_65, eX9_tryFlood_66, eX9_tryFlood_68, eX9_tryFlood_69, eX9_tryFlood_70, eX9_tryFlood_71, eX9_tryFlood_74, eX9_tryFlood_77, eX9_tryFlood_78, eX9_tryFlood_80, eX9_tryFlood_81, eX9_tryFlood_85, eX9_tryFlood_86, eX9_tryFlood_89, eX9_tryFlood_91, eX9_tryFlood_92, eX9_tryFlood_94, eX9_tryFlood_97, eX9_tryFlood_98, eX9_tryFlood_100, eX9_tryFlood_103, eX9_tryFlood_104, eX9_tryFlood_106, eX9_tryFlood_107, eX9_tryFlood_108, eX9_tryFlood_111, eX9_tryFlood_114, eX9_tryFlood_115, eX9_tryFlood_116, eX9_tryFlood_118, eX9_tryFlood_121, eX9_tryFlood_124, eX9_tryFlood_125, eX9_tryFlood_128, eX9_tryFlood_130, eX9_tryFlood_131, eX9_tryFlood_131x, eX9_tryFlood_131y, eX9_tryFlood_132, eX9_tryFlood_133, eX9_tryFlood_134, eX9_tryFlood_135, eX9_tryFlood_136, eX9_tryFlood_140, eX9_tryFlood_141, eX9_tryFlood_144, eX9_tryFlood_145, eX9_tryFlood_147, eX9_tryFlood_150, eX9_tryFlood_153, eX9_tryFlood_156, eX9_tryFlood_157, eX9_tryFlood_160, eX9_tryFlood_162, if_pos, if_neg, if_true, if_false, Option.bind_some, Option.toList_some, Option.toList_none, List.cons_append, List.nil_append, eG]
    · rw [if_pos (by omega)] at eW
      simp (disch := omega) only [eX9_tryFlood_0, eX9_tryFlood_1, eX9_tryFlood_3, eX9_tryFlood_6, eX9_tryFlood_7, eX9_tryFlood_10, eX9_tryFlood_13, eX9_tryFlood_14, eX9_tryFlood_15, eX9_tryFlood_16, eX9_tryFlood_17, eX9_tryFlood_20, eX9_tryFlood_23, eX9_tryFlood_25, eX9_tryFlood_26, eX9_tryFlood_27, eX9_tryFlood_29, eX9_tryFlood_32, eX9_tryFlood_33, eX9_tryFlood_36, eX9_tryFlood_37, eX9_tryFlood_41, eX9_tryFlood_44, eX9_tryFlood_47, eX9_tryFlood_48, eX9_tryFlood_51, eX9_tryFlood_54, eX9_tryFlood_57, eX9_tryFlood_58, eX9_tryFlood_61, eX9_tryFlood_63, eX9_tryFlood_63x, eX9_tryFlood_63y, eX9_tryFlood_64, eX9_tryFlood_65, eX9_tryFlood_66, eX9_tryFlood_68, eX9_tryFlood_69, eX9_tryFlood_70, eX9_tryFlood_71, eX9_tryFlood_74, eX9_tryFlood_77, eX9_tryFlood_78, eX9_tryFlood_80, eX9_tryFlood_81, eX9_tryFlood_85, eX9_tryFlood_86, eX9_tryFlood_89, eX9_tryFlood_91, eX9_tryFlood_92, eX9_tryFlood_94, eX9_tryFlood_97, eX9_tryFlood_98, eX9_tryFlood_100, eX9_tryFlood_103, eX9_tryFlood_104, eX9_tryFlood_106, eX9_tryFlood_107, eX9_tryFlood_108, eX9_tryFlood_111, eX9_tryFlood_114, eX9_tryFlood_115, eX9_tryFlood_116, eX9_tryFlood_118, eX9_tryFlood_121, eX9_tryFlood_124, eX9_tryFlood_125, eX9_tryFlood_128, eX9_tryFlood_130, eX9_tryFlood_131, eX9_tryFlood_131x, eX9_tryFlood_131y, eX9_tryFlood_132, eX9_tryFlood_133, eX9_tryFlood_134, eX9_tryFlood_135, eX9_tryFlood_136, eX9_tryFlood_140, eX9_tryFlood_141, eX9_tryFlood_144, eX9_tryFlood_145, eX9_tryFlood_147, eX9_tryFlood_150, eX9_tryFlood_153, eX9_tryFlood_156, eX9_tryFlood_157, eX9_tryFlood_160, eX9_tryFlood_162, if_pos, if_neg, if_true, if_false, Option.bind_some, Option.toList_some, Option.toList_none, List.cons_append, List.nil_append, eW, eG]
  · rw [gL, g9']
    unfold mTake
    refine mLook_R (fun u k hu hk => ?_)
    exact mSlip_k (by omega)
theorem z_tryFloodX {x : Int} (hw : rng w) (ha : rng a) (hb : rng b) (he : errFl w a b < 0) : fX9_tryFlood [vR 593, vI w, vI a, vI b, vI x] S = some (some (vI (errFl w a b)), S) := by
  have eW := z_isWalker (S := S) hw
  have eG := z_isRange (S := S) ha hb
  unfold errFl at he ⊢
  rw [uX9_tryFlood]
  by_cases z : w = -6
  · rw [if_neg (fun y => y.1 z)] at he ⊢
    by_cases g : (0 ≤ a ∧ a ≤ 299) ∧ a ≤ b ∧ b ≤ 299
    · rw [if_pos g] at he
      omega
    · rw [if_neg g] at eG ⊢
      simp (disch := omega) only [eX9_tryFlood_0, eX9_tryFlood_1, eX9_tryFlood_3, eX9_tryFlood_6, eX9_tryFlood_7, eX9_tryFlood_10, eX9_tryFlood_13, eX9_tryFlood_14, eX9_tryFlood_15, eX9_tryFlood_16, eX9_tryFlood_17, eX9_tryFlood_20, eX9_tryFlood_23, eX9_tryFlood_25, eX9_tryFlood_26, eX9_tryFlood_27, eX9_tryFlood_29, eX9_tryFlood_32, eX9_tryFlood_33, eX9_tryFlood_36, eX9_tryFlood_37, eX9_tryFlood_41, eX9_tryFlood_44, eX9_tryFlood_47, eX9_tryFlood_48, eX9_tryFlood_51, eX9_tryFlood_54, eX9_tryFlood_57, eX9_tryFlood_58, eX9_tryFlood_61, eX9_tryFlood_63, eX9_tryFlood_63x, eX9_tryFlood_63y, eX9_tryFlood_64, eX9_tryFlood_65, eX9_tryFlood_66, eX9_tryFlood_68, eX9_tryFlood_69, eX9_tryFlood_70, eX9_tryFlood_71, eX9_tryFlood_74, eX9_tryFlood_77, eX9_tryFlood_78, eX9_tryFlood_80, eX9_tryFlood_81, eX9_tryFlood_85, eX9_tryFlood_86, eX9_tryFlood_89, eX9_tryFlood_91, eX9_tryFlood_92, eX9_tryFlood_94, eX9_tryFlood_97, eX9_tryFlood_98, eX9_tryFlood_100, eX9_tryFlood_103, eX9_tryFlood_104, eX9_tryFlood_106, eX9_tryFlood_107, eX9_tryFlood_108, eX9_tryFlood_111, eX9_tryFlood_114, eX9_tryFlood_115, eX9_tryFlood_116, eX9_tryFlood_118, eX9_tryFlood_121, eX9_tryFlood_124, eX9_tryFlood_125, eX9_tryFlood_128, eX9_tryFlood_130, eX9_tryFlood_131, eX9_tryFlood_131x, eX9_tryFlood_131y, eX9_tryFlood_132, eX9_tryFlood_133, eX9_tryFlood_134, eX9_tryFlood_135, eX9_tryFlood_136, eX9_tryFlood_140, eX9_tryFlood_141, eX9_tryFlood_144, eX9_tryFlood_145, eX9_tryFlood_147, eX9_tryFlood_150, eX9_tryFlood_153, eX9_tryFlood_156, eX9_tryFlood_157, eX9_tryFlood_160, eX9_tryFlood_162, if_pos, if_neg, if_true, if_false, Option.bind_some, Option.toList_some, Option.toList_none, List.cons_append, List.nil_append, eG]
  · by_cases z2 : 0 ≤ w ∧ w ≤ 2
    · rw [if_neg (fun y => y.2 z2)] at he ⊢
      rw [if_pos z2] at eW
      by_cases g : (0 ≤ a ∧ a ≤ 299) ∧ a ≤ b ∧ b ≤ 299
      · rw [if_pos g] at he
        omega
      · rw [if_neg g] at eG ⊢
        simp (disch := omega) only [eX9_tryFlood_0, eX9_tryFlood_1, eX9_tryFlood_3, eX9_tryFlood_6, eX9_tryFlood_7, eX9_tryFlood_10, eX9_tryFlood_13, eX9_tryFlood_14, eX9_tryFlood_15, eX9_tryFlood_16, eX9_tryFlood_17, eX9_tryFlood_20, eX9_tryFlood_23, eX9_tryFlood_25, eX9_tryFlood_26, eX9_tryFlood_27, eX9_tryFlood_29, eX9_tryFlood_32, eX9_tryFlood_33, eX9_tryFlood_36, eX9_tryFlood_37, eX9_tryFlood_41, eX9_tryFlood_44, eX9_tryFlood_47, eX9_tryFlood_48, eX9_tryFlood_51, eX9_tryFlood_54, eX9_tryFlood_57, eX9_tryFlood_58, eX9_tryFlood_61, eX9_tryFlood_63, eX9_tryFlood_63x, eX9_tryFlood_63y, eX9_tryFlood_64, eX9_tryFlood_65, eX9_tryFlood_66, eX9_tryFlood_68, eX9_tryFlood_69, eX9_tryFlood_70, eX9_tryFlood_71, eX9_tryFlood_74, eX9_tryFlood_77, eX9_tryFlood_78, eX9_tryFlood_80, eX9_tryFlood_81, eX9_tryFlood_85, eX9_tryFlood_86, eX9_tryFlood_89, eX9_tryFlood_91, eX9_tryFlood_92, eX9_tryFlood_94, eX9_tryFlood_97, eX9_tryFlood_98, eX9_tryFlood_100, eX9_tryFlood_103, eX9_tryFlood_104, eX9_tryFlood_106, eX9_tryFlood_107, eX9_tryFlood_108, eX9_tryFlood_111, eX9_tryFlood_114, eX9_tryFlood_115, eX9_tryFlood_116, eX9_tryFlood_118, eX9_tryFlood_121, eX9_tryFlood_124, eX9_tryFlood_125, eX9_tryFlood_128, eX9_tryFlood_130, eX9_tryFlood_131, eX9_tryFlood_131x, eX9_tryFlood_131y, eX9_tryFlood_132, eX9_tryFlood_133, eX9_tryFlood_134, eX9_tryFlood_135, eX9_tryFlood_136, eX9_tryFlood_140, eX9_tryFlood_141, eX9_tryFlood_144, eX9_tryFlood_145, eX9_tryFlood_147, eX9_tryFlood_150, eX9_tryFlood_153, eX9_tryFlood_156, eX9_tryFlood_157, eX9_tryFlood_160, eX9_tryFlood_162, if_pos, if_neg, if_true, if_false, Option.bind_some, Option.toList_some, Option.toList_none, List.cons_append, List.nil_append, eW, eG]
    · rw [if_pos ⟨z, z2⟩]
      rw [if_neg z2] at eW
      simp (disch := omega) only [eX9_tryFlood_0, eX9_tryFlood_1, eX9_tryFlood_3, eX9_tryFlood_6, eX9_tryFlood_7, eX9_tryFlood_10, eX9_tryFlood_13, eX9_tryFlood_14, eX9_tryFlood_15, eX9_tryFlood_16, eX9_tryFlood_17, eX9_tryFlood_20, eX9_tryFlood_23, eX9_tryFlood_25, eX9_tryFlood_26, eX9_tryFlood_27, eX9_tryFlood_29, eX9_tryFlood_32, eX9_tryFlood_33, eX9_tryFlood_36, eX9_tryFlood_37, eX9_tryFlood_41, eX9_tryFlood_44, eX9_tryFlood_47, eX9_tryFlood_48, eX9_tryFlood_51, eX9_tryFlood_54, eX9_tryFlood_57, eX9_tryFlood_58, eX9_tryFlood_61, eX9_tryFlood_63, eX9_tryFlood_63x, eX9_tryFlood_63y, eX9_tryFlood_64, eX9_tryFlood_65, eX9_tryFlood_66, eX9_tryFlood_68, eX9_tryFlood_69, eX9_tryFlood_70, eX9_tryFlood_71, eX9_tryFlood_74, eX9_tryFlood_77, eX9_tryFlood_78, eX9_tryFlood_80, eX9_tryFlood_81, eX9_tryFlood_85, eX9_tryFlood_86, eX9_tryFlood_89, eX9_tryFlood_91, eX9_tryFlood_92, eX9_tryFlood_94, eX9_tryFlood_97, eX9_tryFlood_98, eX9_tryFlood_100, eX9_tryFlood_103, eX9_tryFlood_104, eX9_tryFlood_106, eX9_tryFlood_107, eX9_tryFlood_108, eX9_tryFlood_111, eX9_tryFlood_114, eX9_tryFlood_115, eX9_tryFlood_116, eX9_tryFlood_118, eX9_tryFlood_121, eX9_tryFlood_124, eX9_tryFlood_125, eX9_tryFlood_128, eX9_tryFlood_130, eX9_tryFlood_131, eX9_tryFlood_131x, eX9_tryFlood_131y, eX9_tryFlood_132, eX9_tryFlood_133, eX9_tryFlood_134, eX9_tryFlood_135, eX9_tryFlood_136, eX9_tryFlood_140, eX9_tryFlood_141, eX9_tryFlood_144, eX9_tryFlood_145, eX9_tryFlood_147, eX9_tryFlood_150, eX9_tryFlood_153, eX9_tryFlood_156, eX9_tryFlood_157, eX9_tryFlood_160, eX9_tryFlood_162, if_pos, if_neg, if_true, if_false, Option.bind_some, Option.toList_some, Option.toList_none, List.cons_append, List.nil_append, eW]
end MO18

/-! the reference: what if -/
section MO21
variable {S : MM} {A : Nat → Int} {m n : Nat} {H : Nat → Nat → Int} {K P : Nat → Int} {V : Nat → Nat → Int}
theorem l_rowsFrom {a b lo hi : Int} {f' : Nat → Int} (h0 : S 594 0 = lo) (h1 : S 594 1 = hi) (hlo : 0 ≤ lo ∧ lo ≤ 299) (hhi : 0 ≤ hi ∧ hi ≤ 299) (ha : 0 ≤ a) (hb : 0 ≤ b ∧ b ≤ 299) (hf : ∀ k : Nat, k < 300 → f' k = if (a ≤ (k : Int) ∧ (k : Int) ≤ b) ∧ lo ≤ (k : Int) ∧ (k : Int) ≤ hi then rwR (RA (S 594)) (k : Int) else 0) : ∀ (f k : Nat), k + f = 300 → a ≤ (k : Int) → rn xX9_rowsFrom (5, [some (vR 593), some (vI a), some (vI b), some (vI (sumk f' k)), some (vI (k : Int))], [], S) = some (some (vI (sumk f' 300)), S) := by
  obtain ⟨k0, a0, -⟩ := mk
  intro f
  induction f with
  | zero =>
    intro k hk hak
    have e : k = 300 := by omega
    subst e
    rw [eX9_rowsFrom_5]
    simp (disch := omega) only [eX9_rowsFrom_0, eX9_rowsFrom_1, eX9_rowsFrom_2, eX9_rowsFrom_3, eX9_rowsFrom_7, eX9_rowsFrom_8, eX9_rowsFrom_11, eX9_rowsFrom_12, eX9_rowsFrom_14, eX9_rowsFrom_15, eX9_rowsFrom_18, eX9_rowsFrom_19, eX9_rowsFrom_19x, eX9_rowsFrom_19y, eX9_rowsFrom_20, eX9_rowsFrom_23, eX9_rowsFrom_25, eX9_rowsFrom_26, eX9_rowsFrom_29, eX9_rowsFrom_30, eX9_rowsFrom_30x, eX9_rowsFrom_30y, eX9_rowsFrom_31, eX9_rowsFrom_34, eX9_rowsFrom_35, eX9_rowsFrom_37, eX9_rowsFrom_40, eX9_rowsFrom_43, eX9_rowsFrom_44, eX9_rowsFrom_45, eX9_rowsFrom_46, eX9_rowsFrom_49, eX9_rowsFrom_52, eX9_rowsFrom_53, if_pos, if_neg, if_true, if_false, Option.bind_some, Option.toList_some, Option.toList_none, List.cons_append, List.nil_append]
  | succ f ih =>
    intro k hk hak
    rw [eX9_rowsFrom_5]
    by_cases c : (k : Int) ≤ b
    · have e1 := z_rowsAt (S := S) (k := k) (by omega)
      have hs : sumk f' (k + 1) = sumk f' k + f' k := rfl
      rw [← ih (k + 1) (by omega) (by omega), hs, hf k (by omega)]
      by_cases d : lo ≤ (k : Int)
      · by_cases d2 : (k : Int) ≤ hi
        · rw [if_pos ⟨⟨hak, c⟩, d, d2⟩]
          simp (disch := omega) only [eX9_rowsFrom_0, eX9_rowsFrom_1, eX9_rowsFrom_2, eX9_rowsFrom_3, eX9_rowsFrom_7, eX9_rowsFrom_8, eX9_rowsFrom_11, eX9_rowsFrom_12, eX9_rowsFrom_14, eX9_rowsFrom_15, eX9_rowsFrom_18, eX9_rowsFrom_19, eX9_rowsFrom_19x, eX9_rowsFrom_19y, eX9_rowsFrom_20, eX9_rowsFrom_23, eX9_rowsFrom_25, eX9_rowsFrom_26, eX9_rowsFrom_29, eX9_rowsFrom_30, eX9_rowsFrom_30x, eX9_rowsFrom_30y, eX9_rowsFrom_31, eX9_rowsFrom_34, eX9_rowsFrom_35, eX9_rowsFrom_37, eX9_rowsFrom_40, eX9_rowsFrom_43, eX9_rowsFrom_44, eX9_rowsFrom_45, eX9_rowsFrom_46, eX9_rowsFrom_49, eX9_rowsFrom_52, eX9_rowsFrom_53, if_pos, if_neg, if_true, if_false, Option.bind_some, Option.toList_some, Option.toList_none, List.cons_append, List.nil_append, tn0, tn1, h0, h1, e1]
          rw [show ((k : Int) + 1) = ((k + 1 : Nat) : Int) by omega]
        · rw [if_neg (fun y => d2 y.2.2)]
          simp (disch := omega) only [eX9_rowsFrom_0, eX9_rowsFrom_1, eX9_rowsFrom_2, eX9_rowsFrom_3, eX9_rowsFrom_7, eX9_rowsFrom_8, eX9_rowsFrom_11, eX9_rowsFrom_12, eX9_rowsFrom_14, eX9_rowsFrom_15, eX9_rowsFrom_18, eX9_rowsFrom_19, eX9_rowsFrom_19x, eX9_rowsFrom_19y, eX9_rowsFrom_20, eX9_rowsFrom_23, eX9_rowsFrom_25, eX9_rowsFrom_26, eX9_rowsFrom_29, eX9_rowsFrom_30, eX9_rowsFrom_30x, eX9_rowsFrom_30y, eX9_rowsFrom_31, eX9_rowsFrom_34, eX9_rowsFrom_35, eX9_rowsFrom_37, eX9_rowsFrom_40, eX9_rowsFrom_43, eX9_rowsFrom_44, eX9_rowsFrom_45, eX9_rowsFrom_46, eX9_rowsFrom_49, eX9_rowsFrom_52, eX9_rowsFrom_53, if_pos, if_neg, if_true, if_false, Option.bind_some, Option.toList_some, Option.toList_none, List.cons_append, List.nil_append, tn0, tn1, h0, h1]
          rw [show ((k : Int) + 1) = ((k + 1 : Nat) : Int) by omega]
      · rw [if_neg (fun y => d y.2.1)]
        simp (disch := omega) only [eX9_rowsFrom_0, eX9_rowsFrom_1, eX9_rowsFrom_2, eX9_rowsFrom_3, eX9_rowsFrom_7, eX9_rowsFrom_8, eX9_rowsFrom_11, eX9_rowsFrom_12, eX9_rowsFrom_14, eX9_rowsFrom_15, eX9_rowsFrom_18, eX9_rowsFrom_19, eX9_rowsFrom_19x, eX9_rowsFrom_19y, eX9_rowsFrom_20, eX9_rowsFrom_23, eX9_rowsFrom_25, eX9_rowsFrom_26, eX9_rowsFrom_29, eX9_rowsFrom_30, eX9_rowsFrom_30x, eX9_rowsFrom_30y, eX9_rowsFrom_31, eX9_rowsFrom_34, eX9_rowsFrom_35, eX9_rowsFrom_37, eX9_rowsFrom_40, eX9_rowsFrom_43, eX9_rowsFrom_44, eX9_rowsFrom_45, eX9_rowsFrom_46, eX9_rowsFrom_49, eX9_rowsFrom_52, eX9_rowsFrom_53, if_pos, if_neg, if_true, if_false, Option.bind_some, Option.toList_some, Option.toList_none, List.cons_append, List.nil_append, tn0, tn1, h0, h1]
        rw [show ((k : Int) + 1) = ((k + 1 : Nat) : Int) by omega]
    · rw [sumk_skip (f := f') (a := k) (b := 300) (by omega) (fun j y1 y2 => by rw [hf j (by omega), if_neg (fun y => by omega)])]
      simp (disch := omega) only [eX9_rowsFrom_0, eX9_rowsFrom_1, eX9_rowsFrom_2, eX9_rowsFrom_3, eX9_rowsFrom_7, eX9_rowsFrom_8, eX9_rowsFrom_11, eX9_rowsFrom_12, eX9_rowsFrom_14, eX9_rowsFrom_15, eX9_rowsFrom_18, eX9_rowsFrom_19, eX9_rowsFrom_19x, eX9_rowsFrom_19y, eX9_rowsFrom_20, eX9_rowsFrom_23, eX9_rowsFrom_25, eX9_rowsFrom_26, eX9_rowsFrom_29, eX9_rowsFrom_30, eX9_rowsFrom_30x, eX9_rowsFrom_30y, eX9_rowsFrom_31, eX9_rowsFrom_34, eX9_rowsFrom_35, eX9_rowsFrom_37, eX9_rowsFrom_40, eX9_rowsFrom_43, eX9_rowsFrom_44, eX9_rowsFrom_45, eX9_rowsFrom_46, eX9_rowsFrom_49, eX9_rowsFrom_52, eX9_rowsFrom_53, if_pos, if_neg, if_true, if_false, Option.bind_some, Option.toList_some, Option.toList_none, List.cons_append, List.nil_append]
theorem z_rowsFrom {a b : Int} (h0 : S 594 = A) (ok : AOk A) (ha : 0 ≤ a ∧ a ≤ 299) (hb : 0 ≤ b ∧ b ≤ 299) : fX9_rowsFrom [vR 593, vI a, vI b] S = some (some (vI (sumk (rwB (RA A) (if a < A 0 then A 0 else a) (if A 1 < b then A 1 else b)) 300)), S) := by
  obtain ⟨y0, y1, -⟩ := ok.1
  have hz : sumk (rwB (RA A) (if a < A 0 then A 0 else a) (if A 1 < b then A 1 else b)) a.toNat = 0 := sumk_skip (f := rwB (RA A) (if a < A 0 then A 0 else a) (if A 1 < b then A 1 else b)) (a := 0) (b := a.toNat) (by omega) (fun j z1 z2 => by
    unfold rwB
    rw [if_neg (fun y => by split at y <;> omega)])
  rw [← l_rowsFrom (S := S) (a := a) (b := b) (lo := A 0) (hi := A 1) (f' := rwB (RA A) (if a < A 0 then A 0 else a) (if A 1 < b then A 1 else b)) (by rw [h0]) (by rw [h0]) y0 y1 ha.1 hb (fun k hk => by
    unfold rwB
    rw [h0]
    by_cases c : (a ≤ (k : Int) ∧ (k : Int) ≤ b) ∧ A 0 ≤ (k : Int) ∧ (k : Int) ≤ A 1
    · rw [if_pos c, if_pos (by split <;> split <;> omega)]
    · rw [if_neg c, if_neg (fun y => c (by
        obtain ⟨u1, u2⟩ := y
        split at u1 <;> split at u2 <;> omega))]) (300 - a.toNat) a.toNat (by omega) (by omega), hz, uX9_rowsFrom, show ((a.toNat : Nat) : Int) = a by omega]
  simp (disch := omega) only [eX9_rowsFrom_0, eX9_rowsFrom_1, eX9_rowsFrom_2, eX9_rowsFrom_3, eX9_rowsFrom_7, eX9_rowsFrom_8, eX9_rowsFrom_11, eX9_rowsFrom_12, eX9_rowsFrom_14, eX9_rowsFrom_15, eX9_rowsFrom_18, eX9_rowsFrom_19, eX9_rowsFrom_19x, eX9_rowsFrom_19y, eX9_rowsFrom_20, eX9_rowsFrom_23, eX9_rowsFrom_25, eX9_rowsFrom_26, eX9_rowsFrom_29, eX9_rowsFrom_30, eX9_rowsFrom_30x, eX9_rowsFrom_30y, eX9_rowsFrom_31, eX9_rowsFrom_34, eX9_rowsFrom_35, eX9_rowsFrom_37, eX9_rowsFrom_40, eX9_rowsFrom_43, eX9_rowsFrom_44, eX9_rowsFrom_45, eX9_rowsFrom_46, eX9_rowsFrom_49, eX9_rowsFrom_52, eX9_rowsFrom_53, if_pos, if_neg, if_true, if_false, Option.bind_some, Option.toList_some, Option.toList_none, List.cons_append, List.nil_append]
theorem zz_lostBy {a b : Int} (h : MIs S A m H K V P n) (ok : AOk A) (ha : rng a) (hb : rng b) : fX9_lostBy [vR 593, vI a, vI b] S = some (some (vI (lostF A a b)), S) := by
  have e1 := z_isRange (S := S) ha hb
  unfold lostF
  rw [uX9_lostBy]
  by_cases c : (0 ≤ a ∧ a ≤ 299) ∧ a ≤ b ∧ b ≤ 299
  · rw [if_pos c] at e1 ⊢
    have e2 := z_rowsFrom (S := S) (a := a) (b := b) h.1 ok (by omega) (by omega)
    simp (disch := omega) only [eX9_lostBy_0, eX9_lostBy_1, eX9_lostBy_2, eX9_lostBy_5, eX9_lostBy_8, eX9_lostBy_9, eX9_lostBy_10, eX9_lostBy_11, eX9_lostBy_14, eX9_lostBy_17, eX9_lostBy_19, if_pos, if_neg, if_true, if_false, Option.bind_some, Option.toList_some, Option.toList_none, List.cons_append, List.nil_append, e1, e2]
  · rw [if_neg c] at e1 ⊢
    simp (disch := omega) only [eX9_lostBy_0, eX9_lostBy_1, eX9_lostBy_2, eX9_lostBy_5, eX9_lostBy_8, eX9_lostBy_9, eX9_lostBy_10, eX9_lostBy_11, eX9_lostBy_14, eX9_lostBy_17, eX9_lostBy_19, if_pos, if_neg, if_true, if_false, Option.bind_some, Option.toList_some, Option.toList_none, List.cons_append, List.nil_append, e1]
/-! plain walking -/
theorem gB_n (f : Nat → Int) (k : Nat) : gB f k < 0 ↔ gB f k = -6 := by
  have := gB_b f k
  omega
theorem l_walk {lo hi what : Int} {R : Nat → Nat → Int} (hR : RA (S 594) = R) (hB : RB R) (h1 : S 594 1 = hi) (hlo : 0 ≤ lo ∧ lo ≤ 299) (hhi : 0 ≤ hi ∧ hi ≤ 299) : ∀ (f k : Nat), k + f = 300 → lo ≤ (k : Int) → ∃ x : Option VV, rn xX9_walking (33, [some (vR 593), some (vI what), some (vI (cnt (shd R lo hi) k : Int)), some (vI (gF (shd R lo hi) k)), some (vI (gB (shd R lo hi) k)), some (vI (gW (shd R lo hi) k)), some (vI (k : Int))], [], S) = rn xX9_walking (104, [some (vR 593), some (vI what), some (vI (cnt (shd R lo hi) 300 : Int)), some (vI (gF (shd R lo hi) 300)), some (vI (gB (shd R lo hi) 300)), some (vI (gW (shd R lo hi) 300)), x], [], S) := by
  obtain ⟨k0, a0, -⟩ := mk
  intro f
  induction f with
  | zero =>
    intro k hk hak
    have e : k = 300 := by omega
    subst e
    refine ⟨some (vI ((300 : Nat) : Int)), ?_⟩
    rw [eX9_walking_33]
    simp (disch := omega) only [eX9_walking_0, eX9_walking_1, eX9_walking_2, eX9_walking_3, eX9_walking_6, eX9_walking_9, eX9_walking_11, eX9_walking_12, eX9_walking_13, eX9_walking_14, eX9_walking_16, eX9_walking_17, eX9_walking_19, eX9_walking_21, eX9_walking_23, eX9_walking_25, eX9_walking_26, eX9_walking_29, eX9_walking_30, eX9_walking_30x, eX9_walking_30y, eX9_walking_31, eX9_walking_35, eX9_walking_36, eX9_walking_39, eX9_walking_40, eX9_walking_40x, eX9_walking_40y, eX9_walking_41, eX9_walking_44, eX9_walking_45, eX9_walking_47, eX9_walking_50, eX9_walking_53, eX9_walking_55, eX9_walking_58, eX9_walking_60, eX9_walking_62, eX9_walking_63, eX9_walking_65, eX9_walking_68, eX9_walking_70, eX9_walking_72, eX9_walking_73, eX9_walking_76, eX9_walking_78, eX9_walking_80, eX9_walking_81, eX9_walking_84, eX9_walking_86, eX9_walking_89, eX9_walking_90, eX9_walking_91, eX9_walking_93, eX9_walking_95, eX9_walking_98, eX9_walking_101, eX9_walking_104, eX9_walking_105, eX9_walking_108, eX9_walking_109, eX9_walking_112, eX9_walking_113, eX9_walking_114, eX9_walking_117, eX9_walking_118, eX9_walking_119, eX9_walking_122, eX9_walking_125, eX9_walking_128, eX9_walking_129, eX9_walking_130, eX9_walking_133, eX9_walking_134, eX9_walking_137, eX9_walking_138, eX9_walking_139, eX9_walking_142, eX9_walking_144, eX9_walking_147, eX9_walking_149, if_pos, if_neg, if_true, if_false, Option.bind_some, Option.toList_some, Option.toList_none, List.cons_append, List.nil_append, tn1, h1]
  | succ f ih =>
    intro k hk hak
    by_cases c : (k : Int) ≤ hi
    · have e1 := z_rowsAt (S := S) (k := k) (by omega)
      rw [hR] at e1
      have hb : 0 ≤ rwR R (k : Int) ∧ rwR R (k : Int) ≤ 729 := by
        unfold rwR rv
        rw [if_pos (by omega), if_pos (by omega), if_pos (by omega), Int.toNat_natCast]
        exact mul3_b (hB 0 k (by omega) (by omega)) (hB 1 k (by omega) (by omega)) (hB 2 k (by omega) (by omega))
      obtain ⟨x, w⟩ := ih (k + 1) (by omega) (by omega)
      refine ⟨x, ?_⟩
      rw [← w, eX9_walking_33]
      have gb := gB_b (shd R lo hi) k
      have gw := gW_b (shd R lo hi) k
      have gf := gF_b (shd R lo hi) k
      have hc := cnt_le (shd R lo hi) k
      by_cases d : 0 < rwR R (k : Int)
      · have hs : 0 < shd R lo hi k := by
          unfold shd
          rw [if_pos ⟨⟨hak, c⟩, d⟩]
          omega
        rw [cnt_s1 hs, show gB (shd R lo hi) (k + 1) = (k : Int) by rw [gB, if_pos hs], show gF (shd R lo hi) (k + 1) = if gF (shd R lo hi) k = -6 then (k : Int) else gF (shd R lo hi) k by
          rw [gF]
          by_cases z : gF (shd R lo hi) k = -6
          · rw [if_pos ⟨z, hs⟩, if_pos z]
          · rw [if_neg (fun y => z y.1), if_neg z], show gW (shd R lo hi) (k + 1) = if gB (shd R lo hi) k ≠ -6 ∧ gW (shd R lo hi) k < (k : Int) - gB (shd R lo hi) k then (k : Int) - gB (shd R lo hi) k else gW (shd R lo hi) k by
          rw [gW]
          by_cases z : gB (shd R lo hi) k = -6
          · rw [if_neg (fun y => y.2 z), if_neg (fun y => y.1 z)]
          · rw [if_pos ⟨hs, z⟩]
            by_cases z2 : gW (shd R lo hi) k < (k : Int) - gB (shd R lo hi) k
            · rw [if_pos z2, if_pos ⟨z, z2⟩]
            · rw [if_neg z2, if_neg (fun y => z2 y.2)]]
        generalize gB (shd R lo hi) k = B at *
        generalize gW (shd R lo hi) k = W at *
        generalize gF (shd R lo hi) k = F at *
        by_cases z : B = -6
        · rw [if_neg (show ¬ (B ≠ -6 ∧ W < (k : Int) - B) from fun y => y.1 z)]
          by_cases y : F = -6
          · rw [if_pos y]
            simp (disch := omega) only [eX9_walking_0, eX9_walking_1, eX9_walking_2, eX9_walking_3, eX9_walking_6, eX9_walking_9, eX9_walking_11, eX9_walking_12, eX9_walking_13, eX9_walking_14, eX9_walking_16, eX9_walking_17, eX9_walking_19, eX9_walking_21, eX9_walking_23, eX9_walking_25, eX9_walking_26, eX9_walking_29, eX9_walking_30, eX9_walking_30x, eX9_walking_30y, eX9_walking_31, eX9_walking_35, eX9_walking_36, eX9_walking_39, eX9_walking_40, eX9_walking_40x, eX9_walking_40y, eX9_walking_41, eX9_walking_44, eX9_walking_45, eX9_walking_47, eX9_walking_50, eX9_walking_53, eX9_walking_55, eX9_walking_58, eX9_walking_60, eX9_walking_62, eX9_walking_63, eX9_walking_65, eX9_walking_68, eX9_walking_70, eX9_walking_72, eX9_walking_73, eX9_walking_76, eX9_walking_78, eX9_walking_80, eX9_walking_81, eX9_walking_84, eX9_walking_86, eX9_walking_89, eX9_walking_90, eX9_walking_91, eX9_walking_93, eX9_walking_95, eX9_walking_98, eX9_walking_101, eX9_walking_104, eX9_walking_105, eX9_walking_108, eX9_walking_109, eX9_walking_112, eX9_walking_113, eX9_walking_114, eX9_walking_117, eX9_walking_118, eX9_walking_119, eX9_walking_122, eX9_walking_125, eX9_walking_128, eX9_walking_129, eX9_walking_130, eX9_walking_133, eX9_walking_134, eX9_walking_137, eX9_walking_138, eX9_walking_139, eX9_walking_142, eX9_walking_144, eX9_walking_147, eX9_walking_149, if_pos, if_neg, if_true, if_false, Option.bind_some, Option.toList_some, Option.toList_none, List.cons_append, List.nil_append, tn1, h1, e1]
            rw [show ((k : Int) + 1) = ((k + 1 : Nat) : Int) by omega, show ∀ x : Nat, ((x : Int) + 1) = ((x + 1 : Nat) : Int) from fun x => by omega]
          · rw [if_neg y]
            simp (disch := omega) only [eX9_walking_0, eX9_walking_1, eX9_walking_2, eX9_walking_3, eX9_walking_6, eX9_walking_9, eX9_walking_11, eX9_walking_12, eX9_walking_13, eX9_walking_14, eX9_walking_16, eX9_walking_17, eX9_walking_19, eX9_walking_21, eX9_walking_23, eX9_walking_25, eX9_walking_26, eX9_walking_29, eX9_walking_30, eX9_walking_30x, eX9_walking_30y, eX9_walking_31, eX9_walking_35, eX9_walking_36, eX9_walking_39, eX9_walking_40, eX9_walking_40x, eX9_walking_40y, eX9_walking_41, eX9_walking_44, eX9_walking_45, eX9_walking_47, eX9_walking_50, eX9_walking_53, eX9_walking_55, eX9_walking_58, eX9_walking_60, eX9_walking_62, eX9_walking_63, eX9_walking_65, eX9_walking_68, eX9_walking_70, eX9_walking_72, eX9_walking_73, eX9_walking_76, eX9_walking_78, eX9_walking_80, eX9_walking_81, eX9_walking_84, eX9_walking_86, eX9_walking_89, eX9_walking_90, eX9_walking_91, eX9_walking_93, eX9_walking_95, eX9_walking_98, eX9_walking_101, eX9_walking_104, eX9_walking_105, eX9_walking_108, eX9_walking_109, eX9_walking_112, eX9_walking_113, eX9_walking_114, eX9_walking_117, eX9_walking_118, eX9_walking_119, eX9_walking_122, eX9_walking_125, eX9_walking_128, eX9_walking_129, eX9_walking_130, eX9_walking_133, eX9_walking_134, eX9_walking_137, eX9_walking_138, eX9_walking_139, eX9_walking_142, eX9_walking_144, eX9_walking_147, eX9_walking_149, if_pos, if_neg, if_true, if_false, Option.bind_some, Option.toList_some, Option.toList_none, List.cons_append, List.nil_append, tn1, h1, e1]
            rw [show ((k : Int) + 1) = ((k + 1 : Nat) : Int) by omega, show ∀ x : Nat, ((x : Int) + 1) = ((x + 1 : Nat) : Int) from fun x => by omega]
        · by_cases z2 : W < (k : Int) - B
          · rw [if_pos (show B ≠ -6 ∧ W < (k : Int) - B from ⟨z, z2⟩)]
            by_cases y : F = -6
            · rw [if_pos y]
              simp (disch := omega) only [eX9_walking_0, eX9_walking_1, eX9_walking_2, eX9_walking_3, eX9_walking_6, eX9_walking_9, eX9_walking_11, eX9_walking_12, eX9_walking_13, eX9_walking_14, eX9_walking_16, eX9_walking_17, eX9_walking_19, eX9_walking_21, eX9_walking_23, eX9_walking_25, eX9_walking_26, eX9_walking_29, eX9_walking_30, eX9_walking_30x, eX9_walking_30y, eX9_walking_31, eX9_walking_35, eX9_walking_36, eX9_walking_39, eX9_walking_40, eX9_walking_40x, eX9_walking_40y, eX9_walking_41, eX9_walking_44, eX9_walking_45, eX9_walking_47, eX9_walking_50, eX9_walking_53, eX9_walking_55, eX9_walking_58, eX9_walking_60, eX9_walking_62, eX9_walking_63, eX9_walking_65, eX9_walking_68, eX9_walking_70, eX9_walking_72, eX9_walking_73, eX9_walking_76, eX9_walking_78, eX9_walking_80, eX9_walking_81, eX9_walking_84, eX9_walking_86, eX9_walking_89, eX9_walking_90, eX9_walking_91, eX9_walking_93, eX9_walking_95, eX9_walking_98, eX9_walking_101, eX9_walking_104, eX9_walking_105, eX9_walking_108, eX9_walking_109, eX9_walking_112, eX9_walking_113, eX9_walking_114, eX9_walking_117, eX9_walking_118, eX9_walking_119, eX9_walking_122, eX9_walking_125, eX9_walking_128, eX9_walking_129, eX9_walking_130, eX9_walking_133, eX9_walking_134, eX9_walking_137, eX9_walking_138, eX9_walking_139, eX9_walking_142, eX9_walking_144, eX9_walking_147, eX9_walking_149, if_pos, if_neg, if_true, if_false, Option.bind_some, Option.toList_some, Option.toList_none, List.cons_append, List.nil_append, tn1, h1, e1]
              rw [show ((k : Int) + 1) = ((k + 1 : Nat) : Int) by omega, show ∀ x : Nat, ((x : Int) + 1) = ((x + 1 : Nat) : Int) from fun x => by omega]
            · rw [if_neg y]
              simp (disch := omega) only [eX9_walking_0, eX9_walking_1, eX9_walking_2, eX9_walking_3, eX9_walking_6, eX9_walking_9, eX9_walking_11, eX9_walking_12, eX9_walking_13, eX9_walking_14, eX9_walking_16, eX9_walking_17, eX9_walking_19, eX9_walking_21, eX9_walking_23, eX9_walking_25, eX9_walking_26, eX9_walking_29, eX9_walking_30, eX9_walking_30x, eX9_walking_30y, eX9_walking_31, eX9_walking_35, eX9_walking_36, eX9_walking_39, eX9_walking_40, eX9_walking_40x, eX9_walking_40y, eX9_walking_41, eX9_walking_44, eX9_walking_45, eX9_walking_47, eX9_walking_50, eX9_walking_53, eX9_walking_55, eX9_walking_58, eX9_walking_60, eX9_walking_62, eX9_walking_63, eX9_walking_65, eX9_walking_68, eX9_walking_70, eX9_walking_72, eX9_walking_73, eX9_walking_76, eX9_walking_78, eX9_walking_80, eX9_walking_81, eX9_walking_84, eX9_walking_86, eX9_walking_89, eX9_walking_90, eX9_walking_91, eX9_walking_93, eX9_walking_95, eX9_walking_98, eX9_walking_101, eX9_walking_104, eX9_walking_105, eX9_walking_108, eX9_walking_109, eX9_walking_112, eX9_walking_113, eX9_walking_114, eX9_walking_117, eX9_walking_118, eX9_walking_119, eX9_walking_122, eX9_walking_125, eX9_walking_128, eX9_walking_129, eX9_walking_130, eX9_walking_133, eX9_walking_134, eX9_walking_137, eX9_walking_138, eX9_walking_139, eX9_walking_142, eX9_walking_144, eX9_walking_147, eX9_walking_149, if_pos, if_neg, if_true, if_false, Option.bind_some, Option.toList_some, Option.toList_none, List.cons_append, List.nil_append, tn1, h1, e1]
              rw [show ((k : Int) + 1) = ((k + 1 : Nat) : Int) by omega, show ∀ x : Nat, ((x : Int) + 1) = ((x + 1 : Nat) : Int) from fun x => by omega]
          · rw [if_neg (show ¬ (B ≠ -6 ∧ W < (k : Int) - B) from fun y => z2 y.2)]
            by_cases y : F = -6
            · rw [if_pos y]
              simp (disch := omega) only [eX9_walking_0, eX9_walking_1, eX9_walking_2, eX9_walking_3, eX9_walking_6, eX9_walking_9, eX9_walking_11, eX9_walking_12, eX9_walking_13, eX9_walking_14, eX9_walking_16, eX9_walking_17, eX9_walking_19, eX9_walking_21, eX9_walking_23, eX9_walking_25, eX9_walking_26, eX9_walking_29, eX9_walking_30, eX9_walking_30x, eX9_walking_30y, eX9_walking_31, eX9_walking_35, eX9_walking_36, eX9_walking_39, eX9_walking_40, eX9_walking_40x, eX9_walking_40y, eX9_walking_41, eX9_walking_44, eX9_walking_45, eX9_walking_47, eX9_walking_50, eX9_walking_53, eX9_walking_55, eX9_walking_58, eX9_walking_60, eX9_walking_62, eX9_walking_63, eX9_walking_65, eX9_walking_68, eX9_walking_70, eX9_walking_72, eX9_walking_73, eX9_walking_76, eX9_walking_78, eX9_walking_80, eX9_walking_81, eX9_walking_84, eX9_walking_86, eX9_walking_89, eX9_walking_90, eX9_walking_91, eX9_walking_93, eX9_walking_95, eX9_walking_98, eX9_walking_101, eX9_walking_104, eX9_walking_105, eX9_walking_108, eX9_walking_109, eX9_walking_112, eX9_walking_113, eX9_walking_114, eX9_walking_117, eX9_walking_118, eX9_walking_119, eX9_walking_122, eX9_walking_125, eX9_walking_128, eX9_walking_129, eX9_walking_130, eX9_walking_133, eX9_walking_134, eX9_walking_137, eX9_walking_138, eX9_walking_139, eX9_walking_142, eX9_walking_144, eX9_walking_147, eX9_walking_149, if_pos, if_neg, if_true, if_false, Option.bind_some, Option.toList_some, Option.toList_none, List.cons_append, List.nil_append, tn1, h1, e1]
              rw [show ((k : Int) + 1) = ((k + 1 : Nat) : Int) by omega, show ∀ x : Nat, ((x : Int) + 1) = ((x + 1 : Nat) : Int) from fun x => by omega]
            · rw [if_neg y]
              simp (disch := omega) only [eX9_walking_0, eX9_walking_1, eX9_walking_2, eX9_walking_3, eX9_walking_6, eX9_walking_9, eX9_walking_11, eX9_walking_12, eX9_walking_13, eX9_walking_14, eX9_walking_16, eX9_walking_17, eX9_walking_19, eX9_walking_21, eX9_walking_23, eX9_walking_25, eX9_walking_26, eX9_walking_29, eX9_walking_30, eX9_walking_30x, eX9_walking_30y, eX9_walking_31, eX9_walking_35, eX9_walking_36, eX9_walking_39, eX9_walking_40, eX9_walking_40x, eX9_walking_40y, eX9_walking_41, eX9_walking_44, eX9_walking_45, eX9_walking_47, eX9_walking_50, eX9_walking_53, eX9_walking_55, eX9_walking_58, eX9_walking_60, eX9_walking_62, eX9_walking_63, eX9_walking_65, eX9_walking_68, eX9_walking_70, eX9_walking_72, eX9_walking_73, eX9_walking_76, eX9_walking_78, eX9_walking_80, eX9_walking_81, eX9_walking_84, eX9_walking_86, eX9_walking_89, eX9_walking_90, eX9_walking_91, eX9_walking_93, eX9_walking_95, eX9_walking_98, eX9_walking_101, eX9_walking_104, eX9_walking_105, eX9_walking_108, eX9_walking_109, eX9_walking_112, eX9_walking_113, eX9_walking_114, eX9_walking_117, eX9_walking_118, eX9_walking_119, eX9_walking_122, eX9_walking_125, eX9_walking_128, eX9_walking_129, eX9_walking_130, eX9_walking_133, eX9_walking_134, eX9_walking_137, eX9_walking_138, eX9_walking_139, eX9_walking_142, eX9_walking_144, eX9_walking_147, eX9_walking_149, if_pos, if_neg, if_true, if_false, Option.bind_some, Option.toList_some, Option.toList_none, List.cons_append, List.nil_append, tn1, h1, e1]
              rw [show ((k : Int) + 1) = ((k + 1 : Nat) : Int) by omega, show ∀ x : Nat, ((x : Int) + 1) = ((x + 1 : Nat) : Int) from fun x => by omega]
      · have hs : ¬ 0 < shd R lo hi k := by
          unfold shd
          rw [if_neg (fun y => d y.2)]
          omega
        rw [cnt_s0 hs, show gB (shd R lo hi) (k + 1) = gB (shd R lo hi) k by rw [gB, if_neg hs], show gF (shd R lo hi) (k + 1) = gF (shd R lo hi) k by rw [gF, if_neg (fun y => hs y.2)], show gW (shd R lo hi) (k + 1) = gW (shd R lo hi) k by rw [gW, if_neg (fun y => hs y.1)]]
        simp (disch := omega) only [eX9_walking_0, eX9_walking_1, eX9_walking_2, eX9_walking_3, eX9_walking_6, eX9_walking_9, eX9_walking_11, eX9_walking_12, eX9_walking_13, eX9_walking_14, eX9_walking_16, eX9_walking_17, eX9_walking_19, eX9_walking_21, eX9_walking_23, eX9_walking_25, eX9_walking_26, eX9_walking_29, eX9_walking_30, eX9_walking_30x, eX9_walking_30y, eX9_walking_31, eX9_walking_35, eX9_walking_36, eX9_walking_39, eX9_walking_40, eX9_walking_40x, eX9_walking_40y, eX9_walking_41, eX9_walking_44, eX9_walking_45, eX9_walking_47, eX9_walking_50, eX9_walking_53, eX9_walking_55, eX9_walking_58, eX9_walking_60, eX9_walking_62, eX9_walking_63, eX9_walking_65, eX9_walking_68, eX9_walking_70, eX9_walking_72, eX9_walking_73, eX9_walking_76, eX9_walking_78, eX9_walking_80, eX9_walking_81, eX9_walking_84, eX9_walking_86, eX9_walking_89, eX9_walking_90, eX9_walking_91, eX9_walking_93, eX9_walking_95, eX9_walking_98, eX9_walking_101, eX9_walking_104, eX9_walking_105, eX9_walking_108, eX9_walking_109, eX9_walking_112, eX9_walking_113, eX9_walking_114, eX9_walking_117, eX9_walking_118, eX9_walking_119, eX9_walking_122, eX9_walking_125, eX9_walking_128, eX9_walking_129, eX9_walking_130, eX9_walking_133, eX9_walking_134, eX9_walking_137, eX9_walking_138, eX9_walking_139, eX9_walking_142, eX9_walking_144, eX9_walking_147, eX9_walking_149, if_pos, if_neg, if_true, if_false, Option.bind_some, Option.toList_some, Option.toList_none, List.cons_append, List.nil_append, tn1, h1, e1]
        rw [show ((k : Int) + 1) = ((k + 1 : Nat) : Int) by omega]
    · refine ⟨some (vI (k : Int)), ?_⟩
      have hz : ∀ j, k ≤ j → j < 300 → ¬ 0 < shd R lo hi j := fun j y1 y2 y3 => by
        unfold shd at y3
        rw [if_neg (fun y => by omega)] at y3
        omega
      rw [eX9_walking_33, cnt_skip (a := k) (b := 300) (by omega) hz, gB_skip (a := k) (b := 300) (by omega) hz, gF_skip (a := k) (b := 300) (by omega) hz, gW_skip (a := k) (b := 300) (by omega) hz]
      simp (disch := omega) only [eX9_walking_0, eX9_walking_1, eX9_walking_2, eX9_walking_3, eX9_walking_6, eX9_walking_9, eX9_walking_11, eX9_walking_12, eX9_walking_13, eX9_walking_14, eX9_walking_16, eX9_walking_17, eX9_walking_19, eX9_walking_21, eX9_walking_23, eX9_walking_25, eX9_walking_26, eX9_walking_29, eX9_walking_30, eX9_walking_30x, eX9_walking_30y, eX9_walking_31, eX9_walking_35, eX9_walking_36, eX9_walking_39, eX9_walking_40, eX9_walking_40x, eX9_walking_40y, eX9_walking_41, eX9_walking_44, eX9_walking_45, eX9_walking_47, eX9_walking_50, eX9_walking_53, eX9_walking_55, eX9_walking_58, eX9_walking_60, eX9_walking_62, eX9_walking_63, eX9_walking_65, eX9_walking_68, eX9_walking_70, eX9_walking_72, eX9_walking_73, eX9_walking_76, eX9_walking_78, eX9_walking_80, eX9_walking_81, eX9_walking_84, eX9_walking_86, eX9_walking_89, eX9_walking_90, eX9_walking_91, eX9_walking_93, eX9_walking_95, eX9_walking_98, eX9_walking_101, eX9_walking_104, eX9_walking_105, eX9_walking_108, eX9_walking_109, eX9_walking_112, eX9_walking_113, eX9_walking_114, eX9_walking_117, eX9_walking_118, eX9_walking_119, eX9_walking_122, eX9_walking_125, eX9_walking_128, eX9_walking_129, eX9_walking_130, eX9_walking_133, eX9_walking_134, eX9_walking_137, eX9_walking_138, eX9_walking_139, eX9_walking_142, eX9_walking_144, eX9_walking_147, eX9_walking_149, if_pos, if_neg, if_true, if_false, Option.bind_some, Option.toList_some, Option.toList_none, List.cons_append, List.nil_append, tn1, h1]
theorem zz_walking {what : Int} (h : MIs S A m H K V P n) (ok : AOk A) (hx : rng what) : fX9_walking [vR 593, vI what] S = some (some (vI (wkF A what)), S) := by
  obtain ⟨k0, a0, -⟩ := mk
  have e2 := z_in (S := S) (a := what) (b := 0) (c := 4) hx ⟨by omega, by omega⟩ ⟨by omega, by omega⟩
  have h0 := h.1
  obtain ⟨y0, y1, -⟩ := ok.1
  have q0 : S 594 0 = A 0 := by rw [h0]
  have q1 : S 594 1 = A 1 := by rw [h0]
  unfold wkF
  rw [uX9_walking]
  by_cases d : 0 ≤ what ∧ what ≤ 4
  · rw [if_pos d] at e2
    obtain ⟨x, w⟩ := l_walk (S := S) (what := what) (R := RA A) (by rw [h0]) ok.2.2.2.1 q1 y0 y1 (300 - (A 0).toNat) (A 0).toNat (by omega) (by omega)
    have hz : ∀ j, 0 ≤ j → j < (A 0).toNat → ¬ 0 < shd (RA A) (A 0) (A 1) j := fun j z1 z2 z3 => by
      unfold shd at z3
      rw [if_neg (fun y => by omega)] at z3
      omega
    rw [cnt_skip (a := 0) (b := (A 0).toNat) (by omega) hz, gB_skip (a := 0) (b := (A 0).toNat) (by omega) hz, gF_skip (a := 0) (b := (A 0).toNat) (by omega) hz, gW_skip (a := 0) (b := (A 0).toNat) (by omega) hz, show ((A 0).toNat : Int) = A 0 by omega, show cnt (shd (RA A) (A 0) (A 1)) 0 = 0 from rfl, show gB (shd (RA A) (A 0) (A 1)) 0 = -6 from rfl, show gF (shd (RA A) (A 0) (A 1)) 0 = -6 from rfl, show gW (shd (RA A) (A 0) (A 1)) 0 = -6 from rfl, show ((0 : Nat) : Int) = 0 from rfl] at w
    simp (disch := omega) only [eX9_walking_0, eX9_walking_1, eX9_walking_2, eX9_walking_3, eX9_walking_6, eX9_walking_9, eX9_walking_11, eX9_walking_12, eX9_walking_13, eX9_walking_14, eX9_walking_16, eX9_walking_17, eX9_walking_19, eX9_walking_21, eX9_walking_23, eX9_walking_25, eX9_walking_26, eX9_walking_29, eX9_walking_30, eX9_walking_30x, eX9_walking_30y, eX9_walking_31, eX9_walking_35, eX9_walking_36, eX9_walking_39, eX9_walking_40, eX9_walking_40x, eX9_walking_40y, eX9_walking_41, eX9_walking_44, eX9_walking_45, eX9_walking_47, eX9_walking_50, eX9_walking_53, eX9_walking_55, eX9_walking_58, eX9_walking_60, eX9_walking_62, eX9_walking_63, eX9_walking_65, eX9_walking_68, eX9_walking_70, eX9_walking_72, eX9_walking_73, eX9_walking_76, eX9_walking_78, eX9_walking_80, eX9_walking_81, eX9_walking_84, eX9_walking_86, eX9_walking_89, eX9_walking_90, eX9_walking_91, eX9_walking_93, eX9_walking_95, eX9_walking_98, eX9_walking_101, eX9_walking_104, eX9_walking_105, eX9_walking_108, eX9_walking_109, eX9_walking_112, eX9_walking_113, eX9_walking_114, eX9_walking_117, eX9_walking_118, eX9_walking_119, eX9_walking_122, eX9_walking_125, eX9_walking_128, eX9_walking_129, eX9_walking_130, eX9_walking_133, eX9_walking_134, eX9_walking_137, eX9_walking_138, eX9_walking_139, eX9_walking_142, eX9_walking_144, eX9_walking_147, eX9_walking_149, if_pos, if_neg, if_true, if_false, Option.bind_some, Option.toList_some, Option.toList_none, List.cons_append, List.nil_append, e2, tn0, q0]
    rw [w]
    rcases (show what = 0 ∨ what = 1 ∨ what = 2 ∨ what = 3 ∨ what = 4 by omega) with q | q | q | q | q
    · subst q
      rw [if_pos rfl]
      simp (disch := omega) only [eX9_walking_0, eX9_walking_1, eX9_walking_2, eX9_walking_3, eX9_walking_6, eX9_walking_9, eX9_walking_11, eX9_walking_12, eX9_walking_13, eX9_walking_14, eX9_walking_16, eX9_walking_17, eX9_walking_19, eX9_walking_21, eX9_walking_23, eX9_walking_25, eX9_walking_26, eX9_walking_29, eX9_walking_30, eX9_walking_30x, eX9_walking_30y, eX9_walking_31, eX9_walking_35, eX9_walking_36, eX9_walking_39, eX9_walking_40, eX9_walking_40x, eX9_walking_40y, eX9_walking_41, eX9_walking_44, eX9_walking_45, eX9_walking_47, eX9_walking_50, eX9_walking_53, eX9_walking_55, eX9_walking_58, eX9_walking_60, eX9_walking_62, eX9_walking_63, eX9_walking_65, eX9_walking_68, eX9_walking_70, eX9_walking_72, eX9_walking_73, eX9_walking_76, eX9_walking_78, eX9_walking_80, eX9_walking_81, eX9_walking_84, eX9_walking_86, eX9_walking_89, eX9_walking_90, eX9_walking_91, eX9_walking_93, eX9_walking_95, eX9_walking_98, eX9_walking_101, eX9_walking_104, eX9_walking_105, eX9_walking_108, eX9_walking_109, eX9_walking_112, eX9_walking_113, eX9_walking_114, eX9_walking_117, eX9_walking_118, eX9_walking_119, eX9_walking_122, eX9_walking_125, eX9_walking_128, eX9_walking_129, eX9_walking_130, eX9_walking_133, eX9_walking_134, eX9_walking_137, eX9_walking_138, eX9_walking_139, eX9_walking_142, eX9_walking_144, eX9_walking_147, eX9_walking_149, if_pos, if_neg, if_true, if_false, Option.bind_some, Option.toList_some, Option.toList_none, List.cons_append, List.nil_append]
    · subst q
      rw [if_neg (by decide), if_pos rfl]
      have e3 := z_rowsFrom (S := S) (a := 0) (b := 299) h0 ok (by omega) (by omega)
      rw [show (if (0 : Int) < A 0 then A 0 else 0) = A 0 by split <;> omega, show (if A 1 < (299 : Int) then A 1 else 299) = A 1 by split <;> omega] at e3
      simp (disch := omega) only [eX9_walking_0, eX9_walking_1, eX9_walking_2, eX9_walking_3, eX9_walking_6, eX9_walking_9, eX9_walking_11, eX9_walking_12, eX9_walking_13, eX9_walking_14, eX9_walking_16, eX9_walking_17, eX9_walking_19, eX9_walking_21, eX9_walking_23, eX9_walking_25, eX9_walking_26, eX9_walking_29, eX9_walking_30, eX9_walking_30x, eX9_walking_30y, eX9_walking_31, eX9_walking_35, eX9_walking_36, eX9_walking_39, eX9_walking_40, eX9_walking_40x, eX9_walking_40y, eX9_walking_41, eX9_walking_44, eX9_walking_45, eX9_walking_47, eX9_walking_50, eX9_walking_53, eX9_walking_55, eX9_walking_58, eX9_walking_60, eX9_walking_62, eX9_walking_63, eX9_walking_65, eX9_walking_68, eX9_walking_70, eX9_walking_72, eX9_walking_73, eX9_walking_76, eX9_walking_78, eX9_walking_80, eX9_walking_81, eX9_walking_84, eX9_walking_86, eX9_walking_89, eX9_walking_90, eX9_walking_91, eX9_walking_93, eX9_walking_95, eX9_walking_98, eX9_walking_101, eX9_walking_104, eX9_walking_105, eX9_walking_108, eX9_walking_109, eX9_walking_112, eX9_walking_113, eX9_walking_114, eX9_walking_117, eX9_walking_118, eX9_walking_119, eX9_walking_122, eX9_walking_125, eX9_walking_128, eX9_walking_129, eX9_walking_130, eX9_walking_133, eX9_walking_134, eX9_walking_137, eX9_walking_138, eX9_walking_139, eX9_walking_142, eX9_walking_144, eX9_walking_147, eX9_walking_149, if_pos, if_neg, if_true, if_false, Option.bind_some, Option.toList_some, Option.toList_none, List.cons_append, List.nil_append, e3]
    · subst q
      rw [if_neg (by decide), if_neg (by decide), if_pos rfl]
      simp (disch := omega) only [eX9_walking_0, eX9_walking_1, eX9_walking_2, eX9_walking_3, eX9_walking_6, eX9_walking_9, eX9_walking_11, eX9_walking_12, eX9_walking_13, eX9_walking_14, eX9_walking_16, eX9_walking_17, eX9_walking_19, eX9_walking_21, eX9_walking_23, eX9_walking_25, eX9_walking_26, eX9_walking_29, eX9_walking_30, eX9_walking_30x, eX9_walking_30y, eX9_walking_31, eX9_walking_35, eX9_walking_36, eX9_walking_39, eX9_walking_40, eX9_walking_40x, eX9_walking_40y, eX9_walking_41, eX9_walking_44, eX9_walking_45, eX9_walking_47, eX9_walking_50, eX9_walking_53, eX9_walking_55, eX9_walking_58, eX9_walking_60, eX9_walking_62, eX9_walking_63, eX9_walking_65, eX9_walking_68, eX9_walking_70, eX9_walking_72, eX9_walking_73, eX9_walking_76, eX9_walking_78, eX9_walking_80, eX9_walking_81, eX9_walking_84, eX9_walking_86, eX9_walking_89, eX9_walking_90, eX9_walking_91, eX9_walking_93, eX9_walking_95, eX9_walking_98, eX9_walking_101, eX9_walking_104, eX9_walking_105, eX9_walking_108, eX9_walking_109, eX9_walking_112, eX9_walking_113, eX9_walking_114, eX9_walking_117, eX9_walking_118, eX9_walking_119, eX9_walking_122, eX9_walking_125, eX9_walking_128, eX9_walking_129, eX9_walking_130, eX9_walking_133, eX9_walking_134, eX9_walking_137, eX9_walking_138, eX9_walking_139, eX9_walking_142, eX9_walking_144, eX9_walking_147, eX9_walking_149, if_pos, if_neg, if_true, if_false, Option.bind_some, Option.toList_some, Option.toList_none, List.cons_append, List.nil_append]
    · subst q
      rw [if_neg (by decide), if_neg (by decide), if_neg (by decide), if_pos rfl]
      simp (disch := omega) only [eX9_walking_0, eX9_walking_1, eX9_walking_2, eX9_walking_3, eX9_walking_6, eX9_walking_9, eX9_walking_11, eX9_walking_12, eX9_walking_13, eX9_walking_14, eX9_walking_16, eX9_walking_17, eX9_walking_19, eX9_walking_21, eX9_walking_23, eX9_walking_25, eX9_walking_26, eX9_walking_29, eX9_walking_30, eX9_walking_30x, eX9_walking_30y, eX9_walking_31, eX9_walking_35, eX9_walking_36, eX9_walking_39, eX9_walking_40, eX9_walking_40x, eX9_walking_40y, eX9_walking_41, eX9_walking_44, eX9_walking_45, eX9_walking_47, eX9_walking_50, eX9_walking_53, eX9_walking_55, eX9_walking_58, eX9_walking_60, eX9_walking_62, eX9_walking_63, eX9_walking_65, eX9_walking_68, eX9_walking_70, eX9_walking_72, eX9_walking_73, eX9_walking_76, eX9_walking_78, eX9_walking_80, eX9_walking_81, eX9_walking_84, eX9_walking_86, eX9_walking_89, eX9_walking_90, eX9_walking_91, eX9_walking_93, eX9_walking_95, eX9_walking_98, eX9_walking_101, eX9_walking_104, eX9_walking_105, eX9_walking_108, eX9_walking_109, eX9_walking_112, eX9_walking_113, eX9_walking_114, eX9_walking_117, eX9_walking_118, eX9_walking_119, eX9_walking_122, eX9_walking_125, eX9_walking_128, eX9_walking_129, eX9_walking_130, eX9_walking_133, eX9_walking_134, eX9_walking_137, eX9_walking_138, eX9_walking_139, eX9_walking_142, eX9_walking_144, eX9_walking_147, eX9_walking_149, if_pos, if_neg, if_true, if_false, Option.bind_some, Option.toList_some, Option.toList_none, List.cons_append, List.nil_append]
    · subst q
      simp (disch := omega) only [eX9_walking_0, eX9_walking_1, eX9_walking_2, eX9_walking_3, eX9_walking_6, eX9_walking_9, eX9_walking_11, eX9_walking_12, eX9_walking_13, eX9_walking_14, eX9_walking_16, eX9_walking_17, eX9_walking_19, eX9_walking_21, eX9_walking_23, eX9_walking_25, eX9_walking_26, eX9_walking_29, eX9_walking_30, eX9_walking_30x, eX9_walking_30y, eX9_walking_31, eX9_walking_35, eX9_walking_36, eX9_walking_39, eX9_walking_40, eX9_walking_40x, eX9_walking_40y, eX9_walking_41, eX9_walking_44, eX9_walking_45, eX9_walking_47, eX9_walking_50, eX9_walking_53, eX9_walking_55, eX9_walking_58, eX9_walking_60, eX9_walking_62, eX9_walking_63, eX9_walking_65, eX9_walking_68, eX9_walking_70, eX9_walking_72, eX9_walking_73, eX9_walking_76, eX9_walking_78, eX9_walking_80, eX9_walking_81, eX9_walking_84, eX9_walking_86, eX9_walking_89, eX9_walking_90, eX9_walking_91, eX9_walking_93, eX9_walking_95, eX9_walking_98, eX9_walking_101, eX9_walking_104, eX9_walking_105, eX9_walking_108, eX9_walking_109, eX9_walking_112, eX9_walking_113, eX9_walking_114, eX9_walking_117, eX9_walking_118, eX9_walking_119, eX9_walking_122, eX9_walking_125, eX9_walking_128, eX9_walking_129, eX9_walking_130, eX9_walking_133, eX9_walking_134, eX9_walking_137, eX9_walking_138, eX9_walking_139, eX9_walking_142, eX9_walking_144, eX9_walking_147, eX9_walking_149, if_pos, if_neg, if_true, if_false, Option.bind_some, Option.toList_some, Option.toList_none, List.cons_append, List.nil_append]
  · rw [if_neg d] at e2
    rw [if_neg (by omega), if_neg (by omega), if_neg (by omega), if_neg (by omega), if_neg (by omega)]
    simp (disch := omega) only [eX9_walking_0, eX9_walking_1, eX9_walking_2, eX9_walking_3, eX9_walking_6, eX9_walking_9, eX9_walking_11, eX9_walking_12, eX9_walking_13, eX9_walking_14, eX9_walking_16, eX9_walking_17, eX9_walking_19, eX9_walking_21, eX9_walking_23, eX9_walking_25, eX9_walking_26, eX9_walking_29, eX9_walking_30, eX9_walking_30x, eX9_walking_30y, eX9_walking_31, eX9_walking_35, eX9_walking_36, eX9_walking_39, eX9_walking_40, eX9_walking_40x, eX9_walking_40y, eX9_walking_41, eX9_walking_44, eX9_walking_45, eX9_walking_47, eX9_walking_50, eX9_walking_53, eX9_walking_55, eX9_walking_58, eX9_walking_60, eX9_walking_62, eX9_walking_63, eX9_walking_65, eX9_walking_68, eX9_walking_70, eX9_walking_72, eX9_walking_73, eX9_walking_76, eX9_walking_78, eX9_walking_80, eX9_walking_81, eX9_walking_84, eX9_walking_86, eX9_walking_89, eX9_walking_90, eX9_walking_91, eX9_walking_93, eX9_walking_95, eX9_walking_98, eX9_walking_101, eX9_walking_104, eX9_walking_105, eX9_walking_108, eX9_walking_109, eX9_walking_112, eX9_walking_113, eX9_walking_114, eX9_walking_117, eX9_walking_118, eX9_walking_119, eX9_walking_122, eX9_walking_125, eX9_walking_128, eX9_walking_129, eX9_walking_130, eX9_walking_133, eX9_walking_134, eX9_walking_137, eX9_walking_138, eX9_walking_139, eX9_walking_142, eX9_walking_144, eX9_walking_147, eX9_walking_149, if_pos, if_neg, if_true, if_false, Option.bind_some, Option.toList_some, Option.toList_none, List.cons_append, List.nil_append, e2]
/-! what a run would take -/
theorem z_leapOnR {R : Nat → Nat → Int} (h0 : S 594 = A) (hA : StgR A) (hr : RunR A) (hs : RunS A R) (hag : ∀ u k, u < 3 → k < 300 → RA A u k = R u k) (hR : RB R) (h40 : ∀ u : Nat, u < 3 → cnt (R u) 300 ≤ 40) : ∃ S', fX9_leapOn [vR 593] S = some (some (vI (mRun A R).2), S') ∧ S' 594 = (mRun A R).1 ∧ (∀ j, j ≠ 8 → j ≠ 9 → S' 593 j = S 593 j) ∧ (∀ a, a ≠ 593 → a ≠ 594 → a ≠ 599 → S' a = S a) := by
  have hp := pot_b hr
  obtain ⟨S', w1, w2⟩ := l_leapOn hR h40 1000 0 A S h0 hA hr hs hag (by omega) (by omega) (by omega)
  rw [Int.zero_add] at w1
  refine ⟨S', ?_, w2⟩
  unfold mRun
  rw [← w1, uX9_leapOn]
  simp (disch := omega) only [eX9_leapOn_0, eX9_leapOn_1, eX9_leapOn_3, eX9_leapOn_6, eX9_leapOn_7, eX9_leapOn_7x, eX9_leapOn_7y, eX9_leapOn_8, eX9_leapOn_9, eX9_leapOn_12, eX9_leapOn_13, eX9_leapOn_16, eX9_leapOn_17, eX9_leapOn_20, eX9_leapOn_23, eX9_leapOn_24, if_pos, if_neg, if_true, if_false, Option.bind_some, Option.toList_some, Option.toList_none, List.cons_append, List.nil_append]
theorem trB_RA (A : Nat → Int) (s o : Int) : RA (trB A s o) = RA A := by
  funext u k
  show trB A s o (25 + 300 * u + k) = A (25 + 300 * u + k)
  unfold trB
  rw [up_ne (by omega), up_ne (by omega)]
theorem z_wouldTake {s o what : Int} (h : MIs S A m H K V P n) (ok : AOk A) (hs : 0 ≤ s ∧ s ≤ 2) (ho : 0 ≤ o ∧ o ≤ 5) (hx : what = 0 ∨ what = 1) : ∃ S', fX9_wouldTake [vR 593, vI s, vI o, vI what] S = some (some (vI (if what = 0 then trF A s o 8 + trF A s o 9 + trF A s o 10 else trF A s o 11 + trF A s o 12 + trF A s o 13)), S') ∧ MIs S' A m H K V P n ∧ FR S S' := by
  obtain ⟨k0, a0, -⟩ := mk
  obtain ⟨o1, o2, o3, o4, o5, -⟩ := id ok
  obtain ⟨S1, e1, g1, f1⟩ := z_layAside (S := S)
  have n2 : (2 : Int).toNat = 2 := rfl
  have n3 : (3 : Int).toNat = 3 := rfl
  obtain ⟨S2, hS2⟩ : ∃ T, updM (updM S1 594 2 s) 594 3 o = T := ⟨_, rfl⟩
  have h14 : S1 594 = A := by rw [f1 594 (by omega)]; exact h.1
  have h24 : S2 594 = trB A s o := by rw [← hS2, updM_eq, updM_eq, h14]; rfl
  have f2 : ∀ a, a ≠ 594 → S2 a = S1 a := fun a ha => by rw [← hS2, updM_ne ha, updM_ne ha]
  have hBR : StgR (trB A s o) := by
    obtain ⟨y0, y1, y2, y3⟩ := o1
    unfold StgR trB
    rw [up_ne (by omega), up_ne (by omega), up_ne (by omega), up_ne (by omega), up_ne (j := 2) (by omega), up_eq, up_eq]
    exact ⟨y0, y1, hs, ho⟩
  have hb1 : mBeg (trB A s o) (RA A) 1 = trB A s o 1 := rfl
  have hk0 : ∀ k, (k < 4 ∨ (23 ≤ k ∧ k < 925) ∨ 1225 ≤ k) → mLook (mBeg (trB A s o) (RA A)) (RA A) k = trB A s o k := fun k hk => by
    rw [mLook_ne (by omega) (by omega) (by omega) (Or.inr (Or.inr (by rw [hb1]; exact hBR.2.1.2))), mBeg_k (by omega)]
  have hMR : StgR (mLook (mBeg (trB A s o) (RA A)) (RA A)) := by
    unfold StgR
    rw [hk0 0 (by omega), hk0 1 (by omega), hk0 2 (by omega), hk0 3 (by omega)]
    exact hBR
  have hr := RunR_look (R := RA A) (RunR_beg hBR) (by rw [hb1]; exact hBR.2.1) o4
  have hs' := RunS_look (R := RA A) (RunR_beg hBR) (by rw [hb1]; exact hBR.2.1) (by show 0 ≤ (1 : Int) ∧ (1 : Int) ≤ 2; omega) (fun _ => onS_beg hBR)
  obtain ⟨S3, e3, g3, f3⟩ := z_beginRun (S := S2) (by rw [h24]; exact hBR) (by rw [h24, trB_RA]; exact o4)
  have g3' : S3 594 = mLook (mBeg (trB A s o) (RA A)) (RA A) := by
    rw [g3, h24]
    unfold mBegin
    rw [trB_RA]
  have hag : ∀ u k, u < 3 → k < 300 → RA (mLook (mBeg (trB A s o) (RA A)) (RA A)) u k = RA A u k := fun u k hu hk => by
    show mLook (mBeg (trB A s o) (RA A)) (RA A) (25 + 300 * u + k) = _
    rw [hk0 _ (by omega), ← trB_RA A s o]
    rfl
  obtain ⟨S4, e4, g4, j4, f4⟩ := z_leapOnR (S := S3) (R := RA A) g3' hMR hr hs' hag o4 o5
  have g4' : S4 594 = trF A s o := g4
  have hp := pot_b hr
  have hlast := (runF_inv (R := RA A) o4 1000 _ hMR hr hs' (by omega)).2
  obtain ⟨S5, e5, g5, f5⟩ := z_layBack (S := S4)
  have h5 : S5 594 = A := by
    funext y
    rw [g5]
    by_cases c : y < 4825
    · rw [if_pos c, f4 598 (by omega) (by omega) (by omega), f3 598 (by omega), f2 598 (by omega), g1, if_pos c, h.1]
    · rw [if_neg c, g4]
      have q : (mRun (mLook (mBeg (trB A s o) (RA A)) (RA A)) (RA A)).1 y = mLook (mBeg (trB A s o) (RA A)) (RA A) y := hlast y (by omega)
      rw [q, hk0 y (by omega)]
      unfold trB
      rw [up_ne (by omega), up_ne (by omega)]
  have j5 : ∀ j, j ≠ 8 → j ≠ 9 → S5 593 j = S 593 j := fun j y1 y2 => by rw [f5 593 (by omega), j4 j y1 y2, f3 593 (by omega), f2 593 (by omega), f1 593 (by omega)]
  have fr5 : ∀ a, a ≠ 593 → a ≠ 594 → a ≠ 598 → a ≠ 599 → S5 a = S a := fun a y1 y2 y3 y4 => by rw [f5 a y2, f4 a y1 y2 y4, f3 a y2, f2 a y2, f1 a y3]
  have eS := z_sumOf (S := S4) (j := if what = 0 then 8 else 11) (by split <;> omega)
  refine ⟨S5, ?_, h.to h5 (j5 _ (by omega) (by omega)) (j5 _ (by omega) (by omega)) (j5 _ (by omega) (by omega)) (fr5 _ (by omega) (by omega) (by omega) (by omega)) (fr5 _ (by omega) (by omega) (by omega) (by omega)) (fr5 _ (by omega) (by omega) (by omega) (by omega)) (fr5 _ (by omega) (by omega) (by omega) (by omega)), FR.of (fun a a3 a4 _ _ _ a8 a9 _ _ => fr5 a a3 a4 a8 a9)⟩
  rw [uX9_wouldTake]
  by_cases c : what = 0
  · rw [if_pos c] at eS ⊢
    rw [g4', show ((8 : Nat) : Int) = 8 from rfl] at eS
    simp (disch := omega) only [eX9_wouldTake_0, eX9_wouldTake_1, eX9_wouldTake_4, eX9_wouldTake_5, eX9_wouldTake_8, eX9_wouldTake_9, eX9_wouldTake_10, eX9_wouldTake_11, eX9_wouldTake_12, eX9_wouldTake_15, eX9_wouldTake_16, eX9_wouldTake_17, eX9_wouldTake_18, eX9_wouldTake_19, eX9_wouldTake_22, eX9_wouldTake_23, eX9_wouldTake_26, eX9_wouldTake_27, eX9_wouldTake_28, eX9_wouldTake_29, eX9_wouldTake_32, eX9_wouldTake_34, eX9_wouldTake_37, eX9_wouldTake_39, eX9_wouldTake_42, eX9_wouldTake_44, eX9_wouldTake_45, eX9_wouldTake_48, eX9_wouldTake_50, if_pos, if_neg, if_true, if_false, Option.bind_some, Option.toList_some, Option.toList_none, List.cons_append, List.nil_append, e1, n2, n3, hS2, e3, e4, eS, e5]
  · rw [if_neg c] at eS ⊢
    rw [g4', show ((11 : Nat) : Int) = 11 from rfl] at eS
    simp (disch := omega) only [eX9_wouldTake_0, eX9_wouldTake_1, eX9_wouldTake_4, eX9_wouldTake_5, eX9_wouldTake_8, eX9_wouldTake_9, eX9_wouldTake_10, eX9_wouldTake_11, eX9_wouldTake_12, eX9_wouldTake_15, eX9_wouldTake_16, eX9_wouldTake_17, eX9_wouldTake_18, eX9_wouldTake_19, eX9_wouldTake_22, eX9_wouldTake_23, eX9_wouldTake_26, eX9_wouldTake_27, eX9_wouldTake_28, eX9_wouldTake_29, eX9_wouldTake_32, eX9_wouldTake_34, eX9_wouldTake_37, eX9_wouldTake_39, eX9_wouldTake_42, eX9_wouldTake_44, eX9_wouldTake_45, eX9_wouldTake_48, eX9_wouldTake_50, if_pos, if_neg, if_true, if_false, Option.bind_some, Option.toList_some, Option.toList_none, List.cons_append, List.nil_append, e1, n2, n3, hS2, e3, e4, eS, e5]
theorem zz_runWith {s o what : Int} (h : MIs S A m H K V P n) (ok : AOk A) (hs : rng s) (ho : rng o) (hx : rng what) : ∃ S', fX9_runWith [vR 593, vI s, vI o, vI what] S = some (some (vI (rwF A s o what)), S') ∧ MIs S' A m H K V P n ∧ FR S S' := by
  have e1 := z_in (S := S) (a := s) (b := 0) (c := 2) hs ⟨by omega, by omega⟩ ⟨by omega, by omega⟩
  have e2 := z_in (S := S) (a := o) (b := 0) (c := 5) ho ⟨by omega, by omega⟩ ⟨by omega, by omega⟩
  have e3 := z_in (S := S) (a := what) (b := 0) (c := 1) hx ⟨by omega, by omega⟩ ⟨by omega, by omega⟩
  unfold rwF
  rw [uX9_runWith]
  by_cases c1 : 0 ≤ s ∧ s ≤ 2
  · rw [if_pos c1] at e1
    by_cases c2 : 0 ≤ o ∧ o ≤ 5
    · rw [if_pos c2] at e2
      by_cases c3 : 0 ≤ what ∧ what ≤ 1
      · rw [if_pos c3] at e3
        rw [if_pos ⟨⟨c1, c2⟩, c3⟩]
        obtain ⟨S', e, w⟩ := z_wouldTake (what := what) h ok c1 c2 (by omega)
        refine ⟨S', ?_, w⟩
        simp (disch := omega) only [eX9_runWith_0, eX9_runWith_1, eX9_runWith_2, eX9_runWith_3, eX9_runWith_6, eX9_runWith_9, eX9_runWith_10, eX9_runWith_11, eX9_runWith_12, eX9_runWith_15, eX9_runWith_18, eX9_runWith_19, eX9_runWith_20, eX9_runWith_21, eX9_runWith_24, eX9_runWith_27, eX9_runWith_28, eX9_runWith_29, eX9_runWith_30, eX9_runWith_31, eX9_runWith_34, eX9_runWith_37, eX9_runWith_39, if_pos, if_neg, if_true, if_false, Option.bind_some, Option.toList_some, Option.toList_none, List.cons_append, List.nil_append, e1, e2, e3, e]
      · rw [if_neg c3] at e3
        rw [if_neg (fun y => c3 y.2)]
        refine ⟨S, ?_, h, fun _ _ => rfl⟩
        simp (disch := omega) only [eX9_runWith_0, eX9_runWith_1, eX9_runWith_2, eX9_runWith_3, eX9_runWith_6, eX9_runWith_9, eX9_runWith_10, eX9_runWith_11, eX9_runWith_12, eX9_runWith_15, eX9_runWith_18, eX9_runWith_19, eX9_runWith_20, eX9_runWith_21, eX9_runWith_24, eX9_runWith_27, eX9_runWith_28, eX9_runWith_29, eX9_runWith_30, eX9_runWith_31, eX9_runWith_34, eX9_runWith_37, eX9_runWith_39, if_pos, if_neg, if_true, if_false, Option.bind_some, Option.toList_some, Option.toList_none, List.cons_append, List.nil_append, e1, e2, e3]
    · rw [if_neg c2] at e2
      rw [if_neg (fun y => c2 y.1.2)]
      refine ⟨S, ?_, h, fun _ _ => rfl⟩
      simp (disch := omega) only [eX9_runWith_0, eX9_runWith_1, eX9_runWith_2, eX9_runWith_3, eX9_runWith_6, eX9_runWith_9, eX9_runWith_10, eX9_runWith_11, eX9_runWith_12, eX9_runWith_15, eX9_runWith_18, eX9_runWith_19, eX9_runWith_20, eX9_runWith_21, eX9_runWith_24, eX9_runWith_27, eX9_runWith_28, eX9_runWith_29, eX9_runWith_30, eX9_runWith_31, eX9_runWith_34, eX9_runWith_37, eX9_runWith_39, if_pos, if_neg, if_true, if_false, Option.bind_some, Option.toList_some, Option.toList_none, List.cons_append, List.nil_append, e1, e2]
  · rw [if_neg c1] at e1
    rw [if_neg (fun y => c1 y.1.1)]
    refine ⟨S, ?_, h, fun _ _ => rfl⟩
    simp (disch := omega) only [eX9_runWith_0, eX9_runWith_1, eX9_runWith_2, eX9_runWith_3, eX9_runWith_6, eX9_runWith_9, eX9_runWith_10, eX9_runWith_11, eX9_runWith_12, eX9_runWith_15, eX9_runWith_18, eX9_runWith_19, eX9_runWith_20, eX9_runWith_21, eX9_runWith_24, eX9_runWith_27, eX9_runWith_28, eX9_runWith_29, eX9_runWith_30, eX9_runWith_31, eX9_runWith_34, eX9_runWith_37, eX9_runWith_39, if_pos, if_neg, if_true, if_false, Option.bind_some, Option.toList_some, Option.toList_none, List.cons_append, List.nil_append, e1]
/-! the cheapest -/
theorem l_mCheap {what : Int} (ok : AOk A) : ∀ (f k : Nat) (l5 : Option VV) (S : MM), k + f = 18 → MIs S A m H K V P n → ∃ (S' : MM) (x5 : Option VV), rn xX9_cheapest (20, [some (vR 593), some (vI what), some (vI (if k = 0 then -6 else (bK (lkF A) k : Int))), some (vI (if k = 0 then 0 else lkF A (bK (lkF A) k))), some (vI (k : Int)), l5], [], S) = rn xX9_cheapest (66, [some (vR 593), some (vI what), some (vI (bK (lkF A) 18 : Int)), some (vI (lkF A (bK (lkF A) 18))), some (vI 18), x5], [], S') ∧ MIs S' A m H K V P n ∧ FR S S' := by
  intro f
  induction f with
  | zero =>
    intro k l5 S hk h
    have e : k = 18 := by omega
    subst e
    refine ⟨S, l5, ?_, h, fun _ _ => rfl⟩
    rw [if_neg (by decide), if_neg (by decide), eX9_cheapest_20]
    simp (disch := omega) only [eX9_cheapest_0, eX9_cheapest_1, eX9_cheapest_2, eX9_cheapest_3, eX9_cheapest_6, eX9_cheapest_9, eX9_cheapest_11, eX9_cheapest_12, eX9_cheapest_14, eX9_cheapest_15, eX9_cheapest_16, eX9_cheapest_17, eX9_cheapest_18, eX9_cheapest_22, eX9_cheapest_24, eX9_cheapest_27, eX9_cheapest_28, eX9_cheapest_30, eX9_cheapest_32, eX9_cheapest_33, eX9_cheapest_35, eX9_cheapest_37, eX9_cheapest_38, eX9_cheapest_39, eX9_cheapest_42, eX9_cheapest_44, eX9_cheapest_45, eX9_cheapest_48, eX9_cheapest_50, eX9_cheapest_51, eX9_cheapest_54, eX9_cheapest_56, eX9_cheapest_57, eX9_cheapest_59, eX9_cheapest_60, eX9_cheapest_63, eX9_cheapest_66, eX9_cheapest_67, eX9_cheapest_70, eX9_cheapest_71, eX9_cheapest_73, eX9_cheapest_74, eX9_cheapest_77, eX9_cheapest_78, eX9_cheapest_79, eX9_cheapest_82, eX9_cheapest_83, eX9_cheapest_85, eX9_cheapest_86, eX9_cheapest_89, eX9_cheapest_90, if_pos, if_neg, if_true, if_false, Option.bind_some, Option.toList_some, Option.toList_none, List.cons_append, List.nil_append]
    rfl
  | succ f ih =>
    intro k l5 S hk h
    obtain ⟨S1, e1, m1, f1⟩ := z_wouldTake (s := ((k / 6 : Nat) : Int)) (o := ((k % 6 : Nat) : Int)) (what := 1) h ok (by omega) (by omega) (Or.inr rfl)
    rw [if_neg (by decide)] at e1
    have eL : trF A ((k / 6 : Nat) : Int) ((k % 6 : Nat) : Int) 11 + trF A ((k / 6 : Nat) : Int) ((k % 6 : Nat) : Int) 12 + trF A ((k / 6 : Nat) : Int) ((k % 6 : Nat) : Int) 13 = lkF A k := rfl
    rw [eL] at e1
    have hb := lkF_b ok.1 ok.2.2.2.1 (k := k) (by omega)
    obtain ⟨S', x5, w1, w2, w3⟩ := ih (k + 1) (some (vI (lkF A k))) S1 (by omega) m1
    refine ⟨S', x5, ?_, w2, f1.trans w3⟩
    have d1 : (k : Int) / 6 = ((k / 6 : Nat) : Int) := by omega
    have d2 : (k : Int) % 6 = ((k % 6 : Nat) : Int) := by omega
    rw [← w1, if_neg (show ¬ (k + 1 = 0) by omega), if_neg (show ¬ (k + 1 = 0) by omega), eX9_cheapest_20, bK]
    by_cases c : k = 0
    · rw [if_pos c, if_pos c, if_pos (Or.inl c)]
      simp (disch := omega) only [eX9_cheapest_0, eX9_cheapest_1, eX9_cheapest_2, eX9_cheapest_3, eX9_cheapest_6, eX9_cheapest_9, eX9_cheapest_11, eX9_cheapest_12, eX9_cheapest_14, eX9_cheapest_15, eX9_cheapest_16, eX9_cheapest_17, eX9_cheapest_18, eX9_cheapest_22, eX9_cheapest_24, eX9_cheapest_27, eX9_cheapest_28, eX9_cheapest_30, eX9_cheapest_32, eX9_cheapest_33, eX9_cheapest_35, eX9_cheapest_37, eX9_cheapest_38, eX9_cheapest_39, eX9_cheapest_42, eX9_cheapest_44, eX9_cheapest_45, eX9_cheapest_48, eX9_cheapest_50, eX9_cheapest_51, eX9_cheapest_54, eX9_cheapest_56, eX9_cheapest_57, eX9_cheapest_59, eX9_cheapest_60, eX9_cheapest_63, eX9_cheapest_66, eX9_cheapest_67, eX9_cheapest_70, eX9_cheapest_71, eX9_cheapest_73, eX9_cheapest_74, eX9_cheapest_77, eX9_cheapest_78, eX9_cheapest_79, eX9_cheapest_82, eX9_cheapest_83, eX9_cheapest_85, eX9_cheapest_86, eX9_cheapest_89, eX9_cheapest_90, if_pos, if_neg, if_true, if_false, Option.bind_some, Option.toList_some, Option.toList_none, List.cons_append, List.nil_append, d1, d2, e1]
      rw [show ((k : Int) + 1) = ((k + 1 : Nat) : Int) by omega]
    · rw [if_neg c, if_neg c]
      have hl := bK_lt (f := lkF A) (k := k) (by omega)
      have hb2 := lkF_b ok.1 ok.2.2.2.1 (k := bK (lkF A) k) (by omega)
      by_cases d : lkF A k < lkF A (bK (lkF A) k)
      · rw [if_pos (Or.inr d)]
        simp (disch := omega) only [eX9_cheapest_0, eX9_cheapest_1, eX9_cheapest_2, eX9_cheapest_3, eX9_cheapest_6, eX9_cheapest_9, eX9_cheapest_11, eX9_cheapest_12, eX9_cheapest_14, eX9_cheapest_15, eX9_cheapest_16, eX9_cheapest_17, eX9_cheapest_18, eX9_cheapest_22, eX9_cheapest_24, eX9_cheapest_27, eX9_cheapest_28, eX9_cheapest_30, eX9_cheapest_32, eX9_cheapest_33, eX9_cheapest_35, eX9_cheapest_37, eX9_cheapest_38, eX9_cheapest_39, eX9_cheapest_42, eX9_cheapest_44, eX9_cheapest_45, eX9_cheapest_48, eX9_cheapest_50, eX9_cheapest_51, eX9_cheapest_54, eX9_cheapest_56, eX9_cheapest_57, eX9_cheapest_59, eX9_cheapest_60, eX9_cheapest_63, eX9_cheapest_66, eX9_cheapest_67, eX9_cheapest_70, eX9_cheapest_71, eX9_cheapest_73, eX9_cheapest_74, eX9_cheapest_77, eX9_cheapest_78, eX9_cheapest_79, eX9_cheapest_82, eX9_cheapest_83, eX9_cheapest_85, eX9_cheapest_86, eX9_cheapest_89, eX9_cheapest_90, if_pos, if_neg, if_true, if_false, Option.bind_some, Option.toList_some, Option.toList_none, List.cons_append, List.nil_append, d1, d2, e1]
        rw [show ((k : Int) + 1) = ((k + 1 : Nat) : Int) by omega]
      · rw [if_neg (fun y => by rcases y with y | y; exact c y; exact d y)]
        simp (disch := omega) only [eX9_cheapest_0, eX9_cheapest_1, eX9_cheapest_2, eX9_cheapest_3, eX9_cheapest_6, eX9_cheapest_9, eX9_cheapest_11, eX9_cheapest_12, eX9_cheapest_14, eX9_cheapest_15, eX9_cheapest_16, eX9_cheapest_17, eX9_cheapest_18, eX9_cheapest_22, eX9_cheapest_24, eX9_cheapest_27, eX9_cheapest_28, eX9_cheapest_30, eX9_cheapest_32, eX9_cheapest_33, eX9_cheapest_35, eX9_cheapest_37, eX9_cheapest_38, eX9_cheapest_39, eX9_cheapest_42, eX9_cheapest_44, eX9_cheapest_45, eX9_cheapest_48, eX9_cheapest_50, eX9_cheapest_51, eX9_cheapest_54, eX9_cheapest_56, eX9_cheapest_57, eX9_cheapest_59, eX9_cheapest_60, eX9_cheapest_63, eX9_cheapest_66, eX9_cheapest_67, eX9_cheapest_70, eX9_cheapest_71, eX9_cheapest_73, eX9_cheapest_74, eX9_cheapest_77, eX9_cheapest_78, eX9_cheapest_79, eX9_cheapest_82, eX9_cheapest_83, eX9_cheapest_85, eX9_cheapest_86, eX9_cheapest_89, eX9_cheapest_90, if_pos, if_neg, if_true, if_false, Option.bind_some, Option.toList_some, Option.toList_none, List.cons_append, List.nil_append, d1, d2, e1]
        rw [show ((k : Int) + 1) = ((k + 1 : Nat) : Int) by omega]
theorem zz_cheapest {what : Int} (h : MIs S A m H K V P n) (ok : AOk A) (hx : rng what) : ∃ S', fX9_cheapest [vR 593, vI what] S = some (some (vI (chF A what)), S') ∧ MIs S' A m H K V P n ∧ FR S S' := by
  have e1 := z_in (S := S) (a := what) (b := 0) (c := 2) hx ⟨by omega, by omega⟩ ⟨by omega, by omega⟩
  unfold chF
  rw [uX9_cheapest]
  by_cases c : 0 ≤ what ∧ what ≤ 2
  · rw [if_pos c] at e1 ⊢
    obtain ⟨S', x5, w1, w2, w3⟩ := l_mCheap (what := what) ok 18 0 none S rfl h
    refine ⟨S', ?_, w2, w3⟩
    rw [if_pos rfl, if_pos rfl, show ((0 : Nat) : Int) = 0 from rfl] at w1
    have hl := bK_lt (f := lkF A) (k := 18) (by omega)
    have d1 : (bK (lkF A) 18 : Int) / 6 = ((bK (lkF A) 18 / 6 : Nat) : Int) := by omega
    have d2 : (bK (lkF A) 18 : Int) % 6 = ((bK (lkF A) 18 % 6 : Nat) : Int) := by omega
    simp (disch := omega) only [eX9_cheapest_0, eX9_cheapest_1, eX9_cheapest_2, eX9_cheapest_3, eX9_cheapest_6, eX9_cheapest_9, eX9_cheapest_11, eX9_cheapest_12, eX9_cheapest_14, eX9_cheapest_15, eX9_cheapest_16, eX9_cheapest_17, eX9_cheapest_18, eX9_cheapest_22, eX9_cheapest_24, eX9_cheapest_27, eX9_cheapest_28, eX9_cheapest_30, eX9_cheapest_32, eX9_cheapest_33, eX9_cheapest_35, eX9_cheapest_37, eX9_cheapest_38, eX9_cheapest_39, eX9_cheapest_42, eX9_cheapest_44, eX9_cheapest_45, eX9_cheapest_48, eX9_cheapest_50, eX9_cheapest_51, eX9_cheapest_54, eX9_cheapest_56, eX9_cheapest_57, eX9_cheapest_59, eX9_cheapest_60, eX9_cheapest_63, eX9_cheapest_66, eX9_cheapest_67, eX9_cheapest_70, eX9_cheapest_71, eX9_cheapest_73, eX9_cheapest_74, eX9_cheapest_77, eX9_cheapest_78, eX9_cheapest_79, eX9_cheapest_82, eX9_cheapest_83, eX9_cheapest_85, eX9_cheapest_86, eX9_cheapest_89, eX9_cheapest_90, if_pos, if_neg, if_true, if_false, Option.bind_some, Option.toList_some, Option.toList_none, List.cons_append, List.nil_append, e1]
    rw [w1]
    by_cases q0 : what = 0
    · rw [if_pos q0]
      simp (disch := omega) only [eX9_cheapest_0, eX9_cheapest_1, eX9_cheapest_2, eX9_cheapest_3, eX9_cheapest_6, eX9_cheapest_9, eX9_cheapest_11, eX9_cheapest_12, eX9_cheapest_14, eX9_cheapest_15, eX9_cheapest_16, eX9_cheapest_17, eX9_cheapest_18, eX9_cheapest_22, eX9_cheapest_24, eX9_cheapest_27, eX9_cheapest_28, eX9_cheapest_30, eX9_cheapest_32, eX9_cheapest_33, eX9_cheapest_35, eX9_cheapest_37, eX9_cheapest_38, eX9_cheapest_39, eX9_cheapest_42, eX9_cheapest_44, eX9_cheapest_45, eX9_cheapest_48, eX9_cheapest_50, eX9_cheapest_51, eX9_cheapest_54, eX9_cheapest_56, eX9_cheapest_57, eX9_cheapest_59, eX9_cheapest_60, eX9_cheapest_63, eX9_cheapest_66, eX9_cheapest_67, eX9_cheapest_70, eX9_cheapest_71, eX9_cheapest_73, eX9_cheapest_74, eX9_cheapest_77, eX9_cheapest_78, eX9_cheapest_79, eX9_cheapest_82, eX9_cheapest_83, eX9_cheapest_85, eX9_cheapest_86, eX9_cheapest_89, eX9_cheapest_90, if_pos, if_neg, if_true, if_false, Option.bind_some, Option.toList_some, Option.toList_none, List.cons_append, List.nil_append, d1]
    · rw [if_neg q0]
      by_cases q1 : what = 1
      · rw [if_pos q1]
        simp (disch := omega) only [eX9_cheapest_0, eX9_cheapest_1, eX9_cheapest_2, eX9_cheapest_3, eX9_cheapest_6, eX9_cheapest_9, eX9_cheapest_11, eX9_cheapest_12, eX9_cheapest_14, eX9_cheapest_15, eX9_cheapest_16, eX9_cheapest_17, eX9_cheapest_18, eX9_cheapest_22, eX9_cheapest_24, eX9_cheapest_27, eX9_cheapest_28, eX9_cheapest_30, eX9_cheapest_32, eX9_cheapest_33, eX9_cheapest_35, eX9_cheapest_37, eX9_cheapest_38, eX9_cheapest_39, eX9_cheapest_42, eX9_cheapest_44, eX9_cheapest_45, eX9_cheapest_48, eX9_cheapest_50, eX9_cheapest_51, eX9_cheapest_54, eX9_cheapest_56, eX9_cheapest_57, eX9_cheapest_59, eX9_cheapest_60, eX9_cheapest_63, eX9_cheapest_66, eX9_cheapest_67, eX9_cheapest_70, eX9_cheapest_71, eX9_cheapest_73, eX9_cheapest_74, eX9_cheapest_77, eX9_cheapest_78, eX9_cheapest_79, eX9_cheapest_82, eX9_cheapest_83, eX9_cheapest_85, eX9_cheapest_86, eX9_cheapest_89, eX9_cheapest_90, if_pos, if_neg, if_true, if_false, Option.bind_some, Option.toList_some, Option.toList_none, List.cons_append, List.nil_append, d2]
      · rw [if_neg q1]
        simp (disch := omega) only [eX9_cheapest_0, eX9_cheapest_1, eX9_cheapest_2, eX9_cheapest_3, eX9_cheapest_6, eX9_cheapest_9, eX9_cheapest_11, eX9_cheapest_12, eX9_cheapest_14, eX9_cheapest_15, eX9_cheapest_16, eX9_cheapest_17, eX9_cheapest_18, eX9_cheapest_22, eX9_cheapest_24, eX9_cheapest_27, eX9_cheapest_28, eX9_cheapest_30, eX9_cheapest_32, eX9_cheapest_33, eX9_cheapest_35, eX9_cheapest_37, eX9_cheapest_38, eX9_cheapest_39, eX9_cheapest_42, eX9_cheapest_44, eX9_cheapest_45, eX9_cheapest_48, eX9_cheapest_50, eX9_cheapest_51, eX9_cheapest_54, eX9_cheapest_56, eX9_cheapest_57, eX9_cheapest_59, eX9_cheapest_60, eX9_cheapest_63, eX9_cheapest_66, eX9_cheapest_67, eX9_cheapest_70, eX9_cheapest_71, eX9_cheapest_73, eX9_cheapest_74, eX9_cheapest_77, eX9_cheapest_78, eX9_cheapest_79, eX9_cheapest_82, eX9_cheapest_83, eX9_cheapest_85, eX9_cheapest_86, eX9_cheapest_89, eX9_cheapest_90, if_pos, if_neg, if_true, if_false, Option.bind_some, Option.toList_some, Option.toList_none, List.cons_append, List.nil_append]
  · rw [if_neg c] at e1 ⊢
    refine ⟨S, ?_, h, fun _ _ => rfl⟩
    simp (disch := omega) only [eX9_cheapest_0, eX9_cheapest_1, eX9_cheapest_2, eX9_cheapest_3, eX9_cheapest_6, eX9_cheapest_9, eX9_cheapest_11, eX9_cheapest_12, eX9_cheapest_14, eX9_cheapest_15, eX9_cheapest_16, eX9_cheapest_17, eX9_cheapest_18, eX9_cheapest_22, eX9_cheapest_24, eX9_cheapest_27, eX9_cheapest_28, eX9_cheapest_30, eX9_cheapest_32, eX9_cheapest_33, eX9_cheapest_35, eX9_cheapest_37, eX9_cheapest_38, eX9_cheapest_39, eX9_cheapest_42, eX9_cheapest_44, eX9_cheapest_45, eX9_cheapest_48, eX9_cheapest_50, eX9_cheapest_51, eX9_cheapest_54, eX9_cheapest_56, eX9_cheapest_57, eX9_cheapest_59, eX9_cheapest_60, eX9_cheapest_63, eX9_cheapest_66, eX9_cheapest_67, eX9_cheapest_70, eX9_cheapest_71, eX9_cheapest_73, eX9_cheapest_74, eX9_cheapest_77, eX9_cheapest_78, eX9_cheapest_79, eX9_cheapest_82, eX9_cheapest_83, eX9_cheapest_85, eX9_cheapest_86, eX9_cheapest_89, eX9_cheapest_90, if_pos, if_neg, if_true, if_false, Option.bind_some, Option.toList_some, Option.toList_none, List.cons_append, List.nil_append, e1]
end MO21

/-! the run: begin, leap, run, slip -/
def StgR (A : Nat → Int) : Prop := (0 ≤ A 0 ∧ A 0 ≤ 299) ∧ (0 ≤ A 1 ∧ A 1 ≤ 299) ∧ (0 ≤ A 2 ∧ A 2 ≤ 2) ∧ (0 ≤ A 3 ∧ A 3 ≤ 5)
def RB (R : Nat → Nat → Int) : Prop := ∀ w k : Nat, w < 3 → k < 300 → 0 ≤ R w k ∧ R w k ≤ 9
theorem RiverIs.rb {S : MM} {v : Nat} {R : Nat → Nat → Int} (h : RiverIs S v R) : RB R := by
  intro w k hw hk
  rcases (show w = 0 ∨ w = 1 ∨ w = 2 by omega) with rfl | rfl | rfl
  · exact h.1.2.2.2.2 k hk
  · exact h.2.1.2.2.2.2 k hk
  · exact h.2.2.2.2.2.2 k hk
theorem mLook_ne {A : Nat → Int} {R : Nat → Nat → Int} {k : Nat} (h4 : k ≠ 4) (h5 : k ≠ 5) (hb : k < 925 ∨ 1225 ≤ k) (h20 : A 20 ≤ 299 ∨ A 4 ≠ 1 ∨ A 1 ≤ 299) : mLook A R k = A k := by
  have hg := gr3_s (A 20) (A 21) (A 22)
  unfold mLook
  split
  · split
    · rw [up_ne h4]
    · split
      · rw [up_ne h5, up_ne (by omega)]
      · split
        · rw [up_ne h5]
        · rfl
  · rfl
theorem RunR_look {A : Nat → Int} {R : Nat → Nat → Int} (hr : RunR A) (h1 : 0 ≤ A 1 ∧ A 1 ≤ 299) (hR : RB R) : RunR (mLook A R) := by
  have hg := gr3_s (A 20) (A 21) (A 22)
  obtain ⟨b0, b1, b2⟩ := hr.b
  obtain ⟨g1, g2, g3, g4, g5⟩ := id hr
  unfold mLook
  split
  · split
    · unfold RunR
      rw [MetA_up (by omega), up_ne (by omega), up_ne (by omega)]
      refine ⟨g1, g2, g3, g4, fun w hw => ?_⟩
      rw [up_ne (by omega), up_ne (by omega), up_ne (by omega), up_ne (by omega), up_ne (by omega)]
      exact g5 w hw
    · next c =>
      split
      · next m =>
        have hl : A 20 < 300 := by omega
        have hrw : 0 ≤ rwR R (A 20) ∧ rwR R (A 20) ≤ 729 := by
          unfold rwR rv
          rw [if_pos ⟨b0.1, hl⟩, if_pos ⟨b0.1, hl⟩, if_pos ⟨b0.1, hl⟩]
          exact mul3_b (hR 0 _ (by omega) (by omega)) (hR 1 _ (by omega) (by omega)) (hR 2 _ (by omega) (by omega))
        have eM : ∀ k, MetA (up (up A (925 + (A 20).toNat) (rwR R (A 20))) 5 (A 20 + 1)) k = if k = (A 20).toNat then rwR R (A 20) else MetA A k := by
          intro k
          unfold MetA
          rw [up_ne (by omega)]
          unfold up
          by_cases y : k = (A 20).toNat
          · rw [if_pos y, if_pos (by omega)]
          · rw [if_neg y, if_neg (by omega)]
        refine ⟨by rw [up_eq]; omega, by rw [up_ne (by omega), up_ne (by omega)]; exact g2, fun k hk => ?_, fun k hk => ?_, fun w hw => ?_⟩
        · rw [eM]
          split
          · exact hrw
          · exact g3 k hk
        · rw [eM, up_eq]
          split
          · intro _; omega
          · intro q
            have := g4 k hk q
            omega
        · rw [up_ne (by omega), up_ne (by omega), up_ne (by omega), up_ne (by omega), up_ne (by omega), up_ne (by omega), up_ne (by omega), up_ne (by omega), up_ne (by omega), up_ne (by omega)]
          exact g5 w hw
      · split
        · next d =>
          unfold RunR
          rw [MetA_up (by omega), up_eq, up_ne (by omega)]
          refine ⟨by omega, g2, g3, fun k hk q => by have := g4 k hk q; omega, fun w hw => ?_⟩
          rw [up_ne (by omega), up_ne (by omega), up_ne (by omega), up_ne (by omega), up_ne (by omega)]
          exact g5 w hw
        · exact hr
  · exact hr
theorem RunS_look {A : Nat → Int} {R : Nat → Nat → Int} (hr : RunR A) (h1 : 0 ≤ A 1 ∧ A 1 ≤ 299) (h4 : 0 ≤ A 4 ∧ A 4 ≤ 2) (hon : A 4 ≠ 0 → onS A R) : RunS (mLook A R) R := by
  have hg := gr3_s (A 20) (A 21) (A 22)
  obtain ⟨b0, b1, b2⟩ := hr.b
  have hlast : A 4 ≠ 0 → ∀ w : Nat, w < 3 → A (20 + w) = 300 ∨ 0 < R w (A (20 + w)).toNat := by
    intro q w hw
    have := (hr.2.2.2.2 w hw).1
    by_cases z : A (20 + w) < 300
    · exact Or.inr (hon q w hw z)
    · exact Or.inl (by omega)
  have hle : ∀ w : Nat, w < 3 → A (20 + w) ≤ gr3 (A 20) (A 21) (A 22) := by
    intro w hw
    rcases (show w = 0 ∨ w = 1 ∨ w = 2 by omega) with rfl | rfl | rfl
    · exact hg.1
    · exact hg.2.1
    · exact hg.2.2.1
  unfold mLook
  by_cases a4 : A 4 = 1
  · rw [if_pos a4]
    by_cases d : A 1 < gr3 (A 20) (A 21) (A 22)
    · rw [if_pos d]
      refine ⟨by rw [up_eq]; omega, fun q => by rw [up_eq] at q; omega, fun _ w hw => ?_⟩
      rw [up_ne (by omega)]
      exact hlast (by omega) w hw
    · rw [if_neg d]
      by_cases m : (A 20 = A 21 ∧ A 20 = A 22) ∧ A 5 ≤ A 20
      · rw [if_pos m]
        have e : ∀ k, k ≠ 5 → k < 925 → up (up A (925 + (A 20).toNat) (rwR R (A 20))) 5 (A 20 + 1) k = A k := fun k q1 q2 => by rw [up_ne q1, up_ne (by omega)]
        refine ⟨by rw [e 4 (by omega) (by omega)]; omega, fun _ => ⟨fun w hw => ?_, 0, by omega, ?_⟩, fun q => by rw [e 4 (by omega) (by omega)] at q; omega⟩
        · have := hle w hw
          rw [e _ (by omega) (by omega), e 1 (by omega) (by omega)]
          exact ⟨by omega, by omega, hon (by omega) w hw (by omega)⟩
        · rw [e _ (by omega) (by omega), up_eq]
          show A 20 < A 20 + 1
          omega
      · rw [if_neg m]
        by_cases z : A 5 < gr3 (A 20) (A 21) (A 22)
        · rw [if_pos z]
          have e : ∀ k, k ≠ 5 → up A 5 (gr3 (A 20) (A 21) (A 22)) k = A k := fun k q1 => up_ne q1
          refine ⟨by rw [e 4 (by omega)]; omega, fun _ => ⟨fun w hw => ?_, ?_⟩, fun q => by rw [e 4 (by omega)] at q; omega⟩
          · have := hle w hw
            rw [e _ (by omega), e 1 (by omega)]
            exact ⟨by omega, by omega, hon (by omega) w hw (by omega)⟩
          · rw [up_eq]
            by_cases y0 : A 20 < gr3 (A 20) (A 21) (A 22)
            · exact ⟨0, by omega, by rw [e _ (by omega)]; exact y0⟩
            · by_cases y1 : A 21 < gr3 (A 20) (A 21) (A 22)
              · exact ⟨1, by omega, by rw [e _ (by omega)]; exact y1⟩
              · exact ⟨2, by omega, by rw [e _ (by omega)]; show A 22 < _; omega⟩
        · rw [if_neg z]
          refine ⟨by omega, fun _ => ⟨fun w hw => ?_, ?_⟩, fun q => by omega⟩
          · have := hle w hw
            exact ⟨by omega, by omega, hon (by omega) w hw (by omega)⟩
          · by_cases y0 : A 20 < A 5
            · exact ⟨0, by omega, y0⟩
            · by_cases y1 : A 21 < A 5
              · exact ⟨1, by omega, y1⟩
              · exact ⟨2, by omega, by show A 22 < _; omega⟩
  · rw [if_neg a4]
    exact ⟨h4, fun q => absurd q a4, fun q => hlast (by omega)⟩
/-- a run at its beginning, before the first look round -/
def mBeg (A : Nat → Int) (R : Nat → Nat → Int) : Nat → Int := fun k =>
  if k = 4 then 1 else if k = 5 then A 0 else if k = 6 then trn (A 3) 0 else if 8 ≤ k ∧ k < 20 then 0
  else if k = 20 then (fst (R 0) (A 0).toNat : Int) else if k = 21 then (fst (R 1) (A 0).toNat : Int) else if k = 22 then (fst (R 2) (A 0).toNat : Int)
  else if 925 ≤ k ∧ k < 1225 then 0 else A k
theorem mBeg_k {A : Nat → Int} {R : Nat → Nat → Int} {k : Nat} (h : k < 4 ∨ k = 7 ∨ (23 ≤ k ∧ k < 925) ∨ 1225 ≤ k) : mBeg A R k = A k := by
  unfold mBeg
  rw [if_neg (by omega), if_neg (by omega), if_neg (by omega), if_neg (by omega), if_neg (by omega), if_neg (by omega), if_neg (by omega), if_neg (by omega)]
theorem mBeg_0 {A : Nat → Int} {R : Nat → Nat → Int} {k : Nat} (h : 8 ≤ k ∧ k < 20) : mBeg A R k = 0 := by
  unfold mBeg
  rw [if_neg (by omega), if_neg (by omega), if_neg (by omega), if_pos h]
theorem mBeg_M {A : Nat → Int} {R : Nat → Nat → Int} {k : Nat} (h : k < 300) : MetA (mBeg A R) k = 0 := by
  unfold MetA mBeg
  rw [if_neg (by omega), if_neg (by omega), if_neg (by omega), if_neg (by omega), if_neg (by omega), if_neg (by omega), if_neg (by omega), if_pos (by omega)]
theorem mBeg_w {A : Nat → Int} {R : Nat → Nat → Int} {w : Nat} (h : w < 3) : mBeg A R (20 + w) = (fst (R w) (A 0).toNat : Int) := by
  rcases (show w = 0 ∨ w = 1 ∨ w = 2 by omega) with rfl | rfl | rfl <;> rfl
theorem cnt_zero {M : Nat → Int} (h : ∀ k, k < 300 → M k = 0) : cnt M 300 = 0 := by
  have := cnt_skip (r := M) (Nat.zero_le 300) (fun j _ hj => by rw [h j hj]; omega)
  rw [this]
  rfl
theorem RunR_beg {A : Nat → Int} {R : Nat → Nat → Int} (hA : StgR A) : RunR (mBeg A R) := by
  have h0 := trn_b (A 3) 0
  obtain ⟨a0, a1, a2, a3⟩ := hA
  refine ⟨by show 0 ≤ A 0 ∧ A 0 ≤ 300; omega, h0, fun k hk => by rw [mBeg_M hk]; omega, fun k hk q => by rw [mBeg_M hk] at q; omega, fun w hw => ?_⟩
  have := fst_spec (R w) (k := (A 0).toNat) (by omega)
  rw [mBeg_w hw, mBeg_0 (by omega), mBeg_0 (by omega), mBeg_0 (by omega), mBeg_0 (by omega)]
  omega
theorem onS_beg {A : Nat → Int} {R : Nat → Nat → Int} (hA : StgR A) : onS (mBeg A R) R := by
  obtain ⟨a0, -⟩ := hA
  intro w hw
  have := fst_spec (R w) (k := (A 0).toNat) (by omega)
  rw [mBeg_w hw]
  intro q
  rw [Int.toNat_natCast]
  exact this.2.2.2 (by omega)
section CRT
variable {S : MM} {c v t : Nat} {A : Nat → Int} {R : Nat → Nat → Int}
def StgIs (S : MM) (t : Nat) (A : Nat → Int) : Prop := ∀ j : Nat, j < 4 → S (t + 1) j = A j
theorem l_start (hc : crs c) (hv : riv v) (hcv : c + 7 < v ∨ v + 9 < c) (T : MM) (hR : RiverIs T v R) {lo : Int} (hlo : 0 ≤ lo ∧ lo ≤ 300) (hg : T c 2 = lo) {i : Nat} (hi : i < 3) : ∃ T', rn xX0_start (39, [some (vR c), some (vR v), some (vR t), some (vI i)], [], T) = rn xX0_start (39, [some (vR c), some (vR v), some (vR t), some (vI (i + 1))], [], T') ∧ T' (c + 3) = up (T (c + 3)) i (fst (R i) lo.toNat) ∧ T' (c + 4) = up (T (c + 4)) i 0 ∧ T' (c + 5) = up (T (c + 5)) i 0 ∧ T' (c + 6) = up (T (c + 6)) i 0 ∧ T' (c + 7) = up (T (c + 7)) i 0 ∧ (∀ a, a < c + 3 ∨ c + 8 ≤ a → T' a = T a) := by
  obtain ⟨⟨k0, k1, k2, k3, k4, k5, k6, k7⟩, a1, a2, a3, a4, a5, a6, a7⟩ := id hc
  have e1 := s_pathOf (S := T) (w := (i : Int)) hv.1 (by omega)
  have hp := riv_pw (w := (i : Int)) hv (by omega)
  have hP := hR.pw (w := (i : Int)) (by omega)
  rw [Int.toNat_natCast] at hP
  have e2 := s_firstKeyFrom (S := T) (key := lo) hp hP hlo
  obtain ⟨r0, -⟩ := id hv
  obtain ⟨p0, -⟩ := id hp
  refine ⟨updM (updM (updM (updM (updM T (c + 3) i (fst (R i) lo.toNat)) (c + 4) i 0) (c + 5) i 0) (c + 6) i 0) (c + 7) i 0, ?_, ?_, ?_, ?_, ?_, ?_, ?_⟩
  · rw [eX0_start_39]
    simp (disch := omega) only [eX0_start_0, eX0_start_1, eX0_start_2, eX0_start_5, eX0_start_6, eX0_start_7, eX0_start_10, eX0_start_11, eX0_start_12, eX0_start_15, eX0_start_16, eX0_start_17, eX0_start_18, eX0_start_21, eX0_start_24, eX0_start_25, eX0_start_26, eX0_start_27, eX0_start_30, eX0_start_31, eX0_start_34, eX0_start_37, eX0_start_38, eX0_start_40, eX0_start_41, eX0_start_44, eX0_start_45, eX0_start_48, eX0_start_49, eX0_start_50, eX0_start_51, eX0_start_54, eX0_start_55, eX0_start_58, eX0_start_61, eX0_start_62, eX0_start_63, eX0_start_66, eX0_start_67, eX0_start_68, eX0_start_69, eX0_start_70, eX0_start_73, eX0_start_74, eX0_start_75, eX0_start_76, eX0_start_77, eX0_start_80, eX0_start_81, eX0_start_82, eX0_start_83, eX0_start_84, eX0_start_87, eX0_start_88, eX0_start_89, eX0_start_90, eX0_start_93, eX0_start_96, eX0_start_97, eX0_start_98, eX0_start_99, eX0_start_100, eX0_start_103, eX0_start_106, if_pos, if_neg, if_true, if_false, Option.bind_some, Option.toList_some, Option.toList_none, List.cons_append, List.nil_append, e1, hg, e2, Int.toNat_natCast]
  · rw [updM_ne (by omega), updM_ne (by omega), updM_ne (by omega), updM_ne (by omega), updM_eq]
  · rw [updM_ne (by omega), updM_ne (by omega), updM_ne (by omega), updM_eq, updM_ne (by omega)]
  · rw [updM_ne (by omega), updM_ne (by omega), updM_eq, updM_ne (by omega), updM_ne (by omega)]
  · rw [updM_ne (by omega), updM_eq, updM_ne (by omega), updM_ne (by omega), updM_ne (by omega)]
  · rw [updM_eq, updM_ne (by omega), updM_ne (by omega), updM_ne (by omega), updM_ne (by omega)]
  · intro a ha
    rw [updM_ne (by omega), updM_ne (by omega), updM_ne (by omega), updM_ne (by omega), updM_ne (by omega)]
theorem s_start (hc : crs c) (hv : riv v) (hcv : c + 7 < v ∨ v + 9 < c) (ht : stg t) (hct : c + 7 < t ∨ t + 1 < c) (hA : StgR A) (hS : StgIs S t A) (hR : RiverIs S v R) (hT : TNS S) (hc6 : c < 600) : ∃ S', fX0_start [vR c, vR v, vR t] S = some (none, S') ∧ CrossIs S' c (mLook (mBeg A R) R) ∧ (∀ a, a < c ∨ c + 8 ≤ a → S' a = S a) := by
  obtain ⟨⟨k0, k1, k2, k3, k4, k5, k6, k7⟩, a1, a2, a3, a4, a5, a6, a7⟩ := id hc
  obtain ⟨q0, q1, q2⟩ := id ht
  obtain ⟨r0, -⟩ := id hv
  obtain ⟨z0, z1, z2, z3⟩ := id hA
  -- the fields
  have hT0 : ∃ T : MM, T = updM (updM (updM (updM (updM S c 0 1) c 1 0) c 4 0) c 2 (A 0)) c 3 (trn (A 3) 0) := ⟨_, rfl⟩
  obtain ⟨T, hTd⟩ := hT0
  have tc : T c = up (up (up (up (up (S c) 0 1) 1 0) 4 0) 2 (A 0)) 3 (trn (A 3) 0) := by rw [hTd, updM_eq, updM_eq, updM_eq, updM_eq, updM_eq]
  have to_ : ∀ a, a ≠ c → T a = S a := fun a ha => by rw [hTd, updM_ne ha, updM_ne ha, updM_ne ha, updM_ne ha, updM_ne ha]
  have hv0 : ∀ U : MM, U (t + 1) = S (t + 1) → fX7_valueOf [vR t, vI 0] U = some (some (vI (A 0)), U) := fun U hU => by rw [s_valueOf ht (by omega), hU, tn0, hS 0 (by omega)]
  have hv3 : ∀ U : MM, U (t + 1) = S (t + 1) → fX7_valueOf [vR t, vI 3] U = some (some (vI (A 3)), U) := fun U hU => by rw [s_valueOf ht (by omega), hU, tn3, hS 3 (by omega)]
  have hv1 : ∀ U : MM, U (t + 1) = S (t + 1) → fX7_valueOf [vR t, vI 1] U = some (some (vI (A 1)), U) := fun U hU => by rw [s_valueOf ht (by omega), hU, tn1, hS 1 (by omega)]
  have hw : ∀ U : MM, U 604 = S 604 → U 602 = S 602 → fX8_walkerInTurn [vI (A 3), vI 0] U = some (some (vI (trn (A 3) 0)), U) := fun U h4 h2 => s_walkerInTurn (hT.rows h4 h2) z3 (by omega)
  have g0 : T c 2 = A 0 := by rw [tc, up_ne (by omega), up_eq]
  obtain ⟨T1, e1, f3, f4, f5, f6, f7, fo⟩ := l_start (t := t) hc hv hcv T (hR.rows (fun a y1 y2 => to_ a (by omega))) (lo := A 0) (by omega) g0 (i := 0) (by omega)
  obtain ⟨T2, e2, h3, h4, h5, h6, h7, ho⟩ := l_start (t := t) hc hv hcv T1 (hR.rows (fun a y1 y2 => by rw [fo a (by omega), to_ a (by omega)])) (lo := A 0) (by omega) (by rw [fo c (by omega)]; exact g0) (i := 1) (by omega)
  obtain ⟨T3, e3, j3, j4, j5, j6, j7, jo⟩ := l_start (t := t) hc hv hcv T2 (hR.rows (fun a y1 y2 => by rw [ho a (by omega), fo a (by omega), to_ a (by omega)])) (lo := A 0) (by omega) (by rw [ho c (by omega), fo c (by omega)]; exact g0) (i := 2) (by omega)
  have all : ∀ a, a < c + 3 ∨ c + 8 ≤ a → T3 a = T a := fun a ha => by rw [jo a ha, ho a ha, fo a ha]
  have hC : CrossIs T3 c (mBeg A R) := by
    have hz := cnt_zero (fun k hk => mBeg_M (A := A) (R := R) hk)
    refine ⟨Or.inr (Or.inl ⟨rfl, ?_, ?_⟩), ?_, ?_, ⟨?_, fun k hk hp => ?_, fun k hk hp => ?_⟩, fun w hw => ?_, fun w hw => ?_, fun w hw => ?_, fun w hw => ?_, fun w hw => ?_⟩
    · rw [all c (by omega), tc, up_ne (by omega), up_ne (by omega), up_ne (by omega), up_ne (by omega), up_eq]
    · rw [all c (by omega), tc, up_ne (by omega), up_ne (by omega), up_ne (by omega), up_eq]
    · rw [all c (by omega)]; exact g0
    · rw [all c (by omega), tc, up_eq]; rfl
    · rw [all c (by omega), tc, up_ne (by omega), up_ne (by omega), up_eq, hz]; rfl
    · rw [mBeg_M hk] at hp; omega
    · rw [mBeg_M hk] at hp; omega
    · rw [mBeg_w hw, j3, h3, f3]
      rcases (show w = 0 ∨ w = 1 ∨ w = 2 by omega) with rfl | rfl | rfl <;> rfl
    · rw [mBeg_0 (by omega), j4, h4, f4]
      rcases (show w = 0 ∨ w = 1 ∨ w = 2 by omega) with rfl | rfl | rfl <;> rfl
    · rw [mBeg_0 (by omega), j5, h5, f5]
      rcases (show w = 0 ∨ w = 1 ∨ w = 2 by omega) with rfl | rfl | rfl <;> rfl
    · rw [mBeg_0 (by omega), j6, h6, f6]
      rcases (show w = 0 ∨ w = 1 ∨ w = 2 by omega) with rfl | rfl | rfl <;> rfl
    · rw [mBeg_0 (by omega), j7, h7, f7]
      rcases (show w = 0 ∨ w = 1 ∨ w = 2 by omega) with rfl | rfl | rfl <;> rfl
  have h1 : (mBeg A R) 1 = A 1 := rfl
  obtain ⟨S', w1, w2, w3⟩ := s_lookRound (S := T3) hc hv hcv hC (RunR_beg hA) (hR.rows (fun a y1 y2 => by rw [all a (by omega), to_ a (by omega)])) (by rw [h1]; exact z1) (fun _ => onS_beg hA)
  rw [h1] at w1
  refine ⟨S', ?_, w2, fun a ha => by rw [w3 a ha, all a (by omega), to_ a (by omega)]⟩
  have e1 := e1.trans (e2.trans e3)
  have i3 : ((2 : Nat) : Int) + 1 = 3 := rfl
  have i0 : ((0 : Nat) : Int) = 0 := rfl
  rw [i3, i0] at e1
  rw [uX0_start]
  have n1 : updM (updM (updM S c 0 1) c 1 0) c 4 0 (t + 1) = S (t + 1) := by rw [updM_ne (by omega), updM_ne (by omega), updM_ne (by omega)]
  have n2 : updM (updM (updM (updM S c 0 1) c 1 0) c 4 0) c 2 (A 0) (t + 1) = S (t + 1) := by rw [updM_ne (by omega)]; exact n1
  have n3 : updM (updM (updM (updM S c 0 1) c 1 0) c 4 0) c 2 (A 0) 604 = S 604 := by rw [updM_ne (by omega), updM_ne (by omega), updM_ne (by omega), updM_ne (by omega)]
  have n4 : updM (updM (updM (updM S c 0 1) c 1 0) c 4 0) c 2 (A 0) 602 = S 602 := by rw [updM_ne (by omega), updM_ne (by omega), updM_ne (by omega), updM_ne (by omega)]
  have n5 : T3 (t + 1) = S (t + 1) := by rw [all _ (by omega), to_ _ (by omega)]
  simp (disch := omega) only [eX0_start_0, eX0_start_1, eX0_start_2, eX0_start_5, eX0_start_6, eX0_start_7, eX0_start_10, eX0_start_11, eX0_start_12, eX0_start_15, eX0_start_16, eX0_start_17, eX0_start_18, eX0_start_21, eX0_start_24, eX0_start_25, eX0_start_26, eX0_start_27, eX0_start_30, eX0_start_31, eX0_start_34, eX0_start_37, eX0_start_38, eX0_start_40, eX0_start_41, eX0_start_44, eX0_start_45, eX0_start_48, eX0_start_49, eX0_start_50, eX0_start_51, eX0_start_54, eX0_start_55, eX0_start_58, eX0_start_61, eX0_start_62, eX0_start_63, eX0_start_66, eX0_start_67, eX0_start_68, eX0_start_69, eX0_start_70, eX0_start_73, eX0_start_74, eX0_start_75, eX0_start_76, eX0_start_77, eX0_start_80, eX0_start_81, eX0_start_82, eX0_start_83, eX0_start_84, eX0_start_87, eX0_start_88, eX0_start_89, eX0_start_90, eX0_start_93, eX0_start_96, eX0_start_97, eX0_start_98, eX0_start_99, eX0_start_100, eX0_start_103, eX0_start_106, if_pos, if_neg, if_true, if_false, Option.bind_some, Option.toList_some, Option.toList_none, List.cons_append, List.nil_append, hv0 _ n1, hv3 _ n2, hw _ n3 n4]
  rw [← hTd, e1, eX0_start_39]
  simp (disch := omega) only [eX0_start_0, eX0_start_1, eX0_start_2, eX0_start_5, eX0_start_6, eX0_start_7, eX0_start_10, eX0_start_11, eX0_start_12, eX0_start_15, eX0_start_16, eX0_start_17, eX0_start_18, eX0_start_21, eX0_start_24, eX0_start_25, eX0_start_26, eX0_start_27, eX0_start_30, eX0_start_31, eX0_start_34, eX0_start_37, eX0_start_38, eX0_start_40, eX0_start_41, eX0_start_44, eX0_start_45, eX0_start_48, eX0_start_49, eX0_start_50, eX0_start_51, eX0_start_54, eX0_start_55, eX0_start_58, eX0_start_61, eX0_start_62, eX0_start_63, eX0_start_66, eX0_start_67, eX0_start_68, eX0_start_69, eX0_start_70, eX0_start_73, eX0_start_74, eX0_start_75, eX0_start_76, eX0_start_77, eX0_start_80, eX0_start_81, eX0_start_82, eX0_start_83, eX0_start_84, eX0_start_87, eX0_start_88, eX0_start_89, eX0_start_90, eX0_start_93, eX0_start_96, eX0_start_97, eX0_start_98, eX0_start_99, eX0_start_100, eX0_start_103, eX0_start_106, if_pos, if_neg, if_true, if_false, Option.bind_some, Option.toList_some, Option.toList_none, List.cons_append, List.nil_append, hv1 _ n5, w1]
/-! a leap -/
def nxtW (A : Nat → Int) : Int := if A (20 + (bhd (A 3) (A 6) 0).toNat) < A 5 then bhd (A 3) (A 6) 0 else if A (20 + (bhd (A 3) (A 6) 1).toNat) < A 5 then bhd (A 3) (A 6) 1 else bhd (A 3) (A 6) 2
theorem bhd_b (o w n : Int) : 0 ≤ bhd o w n ∧ bhd o w n ≤ 2 := trn_b _ _
theorem nxtW_b (A : Nat → Int) : 0 ≤ nxtW A ∧ nxtW A ≤ 2 := by
  have h0 := bhd_b (A 3) (A 6) 0
  have h1 := bhd_b (A 3) (A 6) 1
  have h2 := bhd_b (A 3) (A 6) 2
  unfold nxtW
  split
  · exact h0
  · split
    · exact h1
    · exact h2
theorem trn_inj {o : Int} (ho : 0 ≤ o ∧ o ≤ 5) : ∀ w : Nat, w < 3 → ∃ p : Nat, p < 3 ∧ trn o p = (w : Int) := by
  have key : ∀ o : Fin 6, ∀ w : Fin 3, ∃ p : Fin 3, trn (o.val : Int) (p.val : Int) = (w.val : Int) := by decide
  intro w hw
  obtain ⟨p, hp⟩ := key ⟨o.toNat, by omega⟩ ⟨w, hw⟩
  refine ⟨p.val, p.isLt, ?_⟩
  have e : ((o.toNat : Nat) : Int) = o := by omega
  rw [← e]
  exact hp
theorem bhd_all {o w : Int} (ho : 0 ≤ o ∧ o ≤ 5) : ∀ u : Nat, u < 3 → bhd o w 0 = u ∨ bhd o w 1 = u ∨ bhd o w 2 = u := by
  intro u hu
  obtain ⟨p, h1, h2⟩ := trn_inj ho u hu
  have hb := plc_b o w
  unfold bhd
  have h3 : (plc o w + 0) % 3 = p ∨ (plc o w + 1) % 3 = p ∨ (plc o w + 2) % 3 = p := by omega
  rcases h3 with h | h | h
  · left; rw [h]; exact h2
  · right; left; rw [h]; exact h2
  · right; right; rw [h]; exact h2
theorem nxtW_short (hA : StgR A) (hs : RunS A R) (h4 : A 4 = 1) : A (20 + (nxtW A).toNat) < A 5 := by
  obtain ⟨w, hw, h⟩ := (hs.2.1 h4).2
  unfold nxtW
  by_cases c0 : A (20 + (bhd (A 3) (A 6) 0).toNat) < A 5
  · rw [if_pos c0]; exact c0
  · rw [if_neg c0]
    by_cases c1 : A (20 + (bhd (A 3) (A 6) 1).toNat) < A 5
    · rw [if_pos c1]; exact c1
    · rw [if_neg c1]
      rcases bhd_all (w := A 6) hA.2.2.2 w hw with q | q | q
      · rw [q, Int.toNat_natCast] at c0; exact absurd h c0
      · rw [q, Int.toNat_natCast] at c1; exact absurd h c1
      · rw [q, Int.toNat_natCast]; exact h
theorem s_isWalker {S : MM} {w : Int} (hw : rng w) : fX8_isWalker [vI w] S = some (some (vI (if 0 ≤ w ∧ w ≤ 2 then 1 else 0)), S) := by
  have e := s_isBetween (S := S) (a := w) (b := 0) (c := 2) hw ⟨by omega, by omega⟩ ⟨by omega, by omega⟩
  have hb : (if 0 ≤ w ∧ w ≤ 2 then (1 : Int) else 0) = 0 ∨ (if 0 ≤ w ∧ w ≤ 2 then (1 : Int) else 0) = 1 := by split <;> omega
  rw [uX8_isWalker]
  simp (disch := omega) only [eX8_isWalker_0, eX8_isWalker_1, eX8_isWalker_2, eX8_isWalker_3, eX8_isWalker_6, if_pos, if_neg, if_true, if_false, Option.bind_some, Option.toList_some, Option.toList_none, List.cons_append, List.nil_append, e]
theorem s_keyUnder {w : Int} (hc : crs c) (h : CrossIs S c A) (hw : 0 ≤ w ∧ w ≤ 2) : fX0_keyUnder [vR c, vI w] S = some (some (vI (A (20 + w.toNat))), S) := by
  obtain ⟨⟨k0, k1, k2, k3, k4, k5, k6, k7⟩, a1, a2, a3, a4, a5, a6, a7⟩ := id hc
  have e := s_isWalker (S := S) (w := w) ⟨by omega, by omega⟩
  rw [if_pos hw] at e
  have t0 := h.2.2.2.2.1 w.toNat (by omega)
  rw [uX0_keyUnder]
  simp (disch := omega) only [eX0_keyUnder_0, eX0_keyUnder_1, eX0_keyUnder_4, eX0_keyUnder_7, eX0_keyUnder_8, eX0_keyUnder_11, eX0_keyUnder_12, eX0_keyUnder_12x, eX0_keyUnder_12y, eX0_keyUnder_13, eX0_keyUnder_16, eX0_keyUnder_19, if_pos, if_neg, if_true, if_false, Option.bind_some, Option.toList_some, Option.toList_none, List.cons_append, List.nil_append, e, t0]
theorem s_nextToLeap (hc : crs c) (h : CrossIs S c A) (hr : RunR A) (hA : StgR A) (hs : RunS A R) (h4 : A 4 = 1) (hT : TNS S) : fX0_nextToLeap [vR c, vI (A 3)] S = some (some (vI (nxtW A)), S) := by
  obtain ⟨⟨k0, k1, k2, k3, k4, k5, k6, k7⟩, a1, a2, a3, a4, a5, a6, a7⟩ := id hc
  have b0 := bhd_b (A 3) (A 6) 0
  have b1 := bhd_b (A 3) (A 6) 1
  have b2 := bhd_b (A 3) (A 6) 2
  obtain ⟨g1, g2, g3, g4, g5⟩ := id hr
  have e0 := s_walkerBehind (w := A 6) (n := 0) hT hA.2.2.2 ⟨by omega, by omega⟩ (by omega)
  have e1 := s_walkerBehind (w := A 6) (n := 1) hT hA.2.2.2 ⟨by omega, by omega⟩ (by omega)
  have e2 := s_walkerBehind (w := A 6) (n := 2) hT hA.2.2.2 ⟨by omega, by omega⟩ (by omega)
  have u0 := s_keyUnder hc h b0
  have u1 := s_keyUnder hc h b1
  have u2 := s_keyUnder hc h b2
  have r0 := (g5 (bhd (A 3) (A 6) 0).toNat (by omega)).1
  have r1 := (g5 (bhd (A 3) (A 6) 1).toNat (by omega)).1
  have r2 := (g5 (bhd (A 3) (A 6) 2).toNat (by omega)).1
  have hsh := nxtW_short hA hs h4
  have f2 := h.2.1
  have f3 := h.2.2.1
  unfold nxtW at hsh ⊢
  rw [uX0_nextToLeap]
  simp (disch := omega) only [eX0_nextToLeap_0, eX0_nextToLeap_1, eX0_nextToLeap_3, eX0_nextToLeap_4, eX0_nextToLeap_7, eX0_nextToLeap_8, eX0_nextToLeap_9, eX0_nextToLeap_12, eX0_nextToLeap_13, eX0_nextToLeap_16, eX0_nextToLeap_17, eX0_nextToLeap_18, eX0_nextToLeap_19, eX0_nextToLeap_22, eX0_nextToLeap_23, eX0_nextToLeap_26, eX0_nextToLeap_29, eX0_nextToLeap_30, eX0_nextToLeap_31, eX0_nextToLeap_34, eX0_nextToLeap_37, eX0_nextToLeap_39, if_pos, if_neg, if_true, if_false, Option.bind_some, Option.toList_some, Option.toList_none, List.cons_append, List.nil_append]
  rw [eX0_nextToLeap_2]
  simp (disch := omega) only [eX0_nextToLeap_0, eX0_nextToLeap_1, eX0_nextToLeap_3, eX0_nextToLeap_4, eX0_nextToLeap_7, eX0_nextToLeap_8, eX0_nextToLeap_9, eX0_nextToLeap_12, eX0_nextToLeap_13, eX0_nextToLeap_16, eX0_nextToLeap_17, eX0_nextToLeap_18, eX0_nextToLeap_19, eX0_nextToLeap_22, eX0_nextToLeap_23, eX0_nextToLeap_26, eX0_nextToLeap_29, eX0_nextToLeap_30, eX0_nextToLeap_31, eX0_nextToLeap_34, eX0_nextToLeap_37, eX0_nextToLeap_39, if_pos, if_neg, if_true, if_false, Option.bind_some, Option.toList_some, Option.toList_none, List.cons_append, List.nil_append, f2, f3, e0, u0]
  by_cases c0 : A (20 + (bhd (A 3) (A 6) 0).toNat) < A 5
  · rw [if_pos c0, if_pos c0]
  · rw [if_neg c0, if_neg c0]
    rw [if_neg c0] at hsh
    rw [eX0_nextToLeap_2]
    simp (disch := omega) only [eX0_nextToLeap_0, eX0_nextToLeap_1, eX0_nextToLeap_3, eX0_nextToLeap_4, eX0_nextToLeap_7, eX0_nextToLeap_8, eX0_nextToLeap_9, eX0_nextToLeap_12, eX0_nextToLeap_13, eX0_nextToLeap_16, eX0_nextToLeap_17, eX0_nextToLeap_18, eX0_nextToLeap_19, eX0_nextToLeap_22, eX0_nextToLeap_23, eX0_nextToLeap_26, eX0_nextToLeap_29, eX0_nextToLeap_30, eX0_nextToLeap_31, eX0_nextToLeap_34, eX0_nextToLeap_37, eX0_nextToLeap_39, if_pos, if_neg, if_true, if_false, Option.bind_some, Option.toList_some, Option.toList_none, List.cons_append, List.nil_append, f2, f3, ta1, e1, u1]
    by_cases c1 : A (20 + (bhd (A 3) (A 6) 1).toNat) < A 5
    · rw [if_pos c1, if_pos c1]
    · rw [if_neg c1, if_neg c1]
      rw [if_neg c1] at hsh
      rw [eX0_nextToLeap_2]
      simp (disch := omega) only [eX0_nextToLeap_0, eX0_nextToLeap_1, eX0_nextToLeap_3, eX0_nextToLeap_4, eX0_nextToLeap_7, eX0_nextToLeap_8, eX0_nextToLeap_9, eX0_nextToLeap_12, eX0_nextToLeap_13, eX0_nextToLeap_16, eX0_nextToLeap_17, eX0_nextToLeap_18, eX0_nextToLeap_19, eX0_nextToLeap_22, eX0_nextToLeap_23, eX0_nextToLeap_26, eX0_nextToLeap_29, eX0_nextToLeap_30, eX0_nextToLeap_31, eX0_nextToLeap_34, eX0_nextToLeap_37, eX0_nextToLeap_39, if_pos, if_neg, if_true, if_false, Option.bind_some, Option.toList_some, Option.toList_none, List.cons_append, List.nil_append, f2, f3, ta2, e2, u2]
/-- a leap of a walker, before the look round -/
def mLeapW (A : Nat → Int) (r : Nat → Int) (w : Nat) : Nat → Int := fun k =>
  if k = 6 then bhd (A 3) (w : Int) 1
  else if k = 8 + w then A k + 1
  else if k = 11 + w then A k + lks (A 2) (cnt r (A (20 + w)).toNat) (cnt r 300) (cnt r (A 5).toNat)
  else if k = 17 + w then (if (fst r (A 5).toNat : Int) < 300 ∧ A k < (fst r (A 5).toNat : Int) - A (20 + w) then (fst r (A 5).toNat : Int) - A (20 + w) else A k)
  else if k = 20 + w then (fst r (A 5).toNat : Int)
  else A k
def mLeap (A : Nat → Int) (R : Nat → Nat → Int) : Nat → Int := mLook (mLeapW A (R (nxtW A).toNat) (nxtW A).toNat) R
end CRT

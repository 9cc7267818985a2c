/-! the law's comparison with plain walking, whole -/
section LAW15
variable {S S' : MM} {A A' : Nat → Int} {R R' : Nat → Nat → Int} {m : Nat} {H : Nat → Nat → Int} {K : Nat → Int} {V : Nat → Nat → Int} {P : Nat → Int} {n : Nat}
/-- A stands j changes back -/
def HT (m : Nat) (H : Nat → Nat → Int) (X A : Nat → Int) (j : Nat) : Prop := j ≤ m ∧ (j = 0 → X = A) ∧ (0 < j → H (m - j) = A)
theorem HT.zero : HT m H A A 0 := ⟨Nat.zero_le _, fun _ => rfl, fun h => absurd h (by decide)⟩
theorem HT.push {X X' : Nat → Int} {j : Nat} (h6 : m ≤ 6) (hj : j ≤ 5) (h : HT m H X A j) : HT (mM m) (mH m H X) X' A (j + 1) := by
  have hm := mM_b h6
  have hp := mM_pos (m := m)
  refine ⟨by have := h.1; omega, fun z => absurd z (by omega), fun _ => ?_⟩
  by_cases q : j = 0
  · subst q
    rw [← h.2.1 rfl]
    exact mH_top h6
  · rw [show mM m - (j + 1) = mM m - 1 - j by omega, mH_get h6 (by omega) h.1 hj]
    exact h.2.2 (by omega)
theorem HT.pop {X : Nat → Int} {j : Nat} (h : HT m H X A (j + 1)) : HT (m - 1) H (H (m - 1)) A j := by
  have h1 := h.1
  have h2 := h.2.2 (by omega)
  refine ⟨by omega, fun z => ?_, fun _ => ?_⟩
  · subst z
    exact h2
  · rw [show m - 1 - j = m - (j + 1) by omega]
    exact h2
section CO
variable {wd v mt rw fi la wi be le s o lps lk ov : Int} {u : Nat}
theorem l_coUs (hov : ov = 0 ∨ ov = 1) : ∀ (j : Nat) (k : Int) (S : MM) (X : Nat → Int) (m : Nat), k + j = 4 - ov → 0 ≤ k → LWs S X m H K V P n → HT m H X A j → ∃ (S' : MM) (m' : Nat), rn xL_comes (464, [some (vR 0), some (vI wd), some (vI v), some (vJ u), none, some (vI mt), some (vI rw), some (vI fi), some (vI la), some (vI wi), some (vI be), some (vI le), some (vI s), some (vI o), some (vI lps), some (vI lk), some (vI ov), some (vI k), none, none], [], S) = rn xL_comes (494, [some (vR 0), some (vI wd), some (vI v), some (vJ u), none, some (vI mt), some (vI rw), some (vI fi), some (vI la), some (vI wi), some (vI be), some (vI le), some (vI s), some (vI o), some (vI lps), some (vI lk), some (vI ov), some (vI (4 - ov)), none, none], [], S') ∧ LWs S' A m' H K V P n ∧ fr S S' := by
  intro j
  induction j with
  | zero =>
    intro k S X m h1 h2 h3 h4
    obtain rfl : X = A := h4.2.1 rfl
    refine ⟨S, m, ?_, h3, fr.refl⟩
    rw [eL_comes_464]
    have hk : k = 4 - ov := by omega
    subst hk
    rcases hov with q | q
    · subst q
      simp (disch := omega) only [eL_comes_466, eL_comes_468, eL_comes_471, eL_comes_472, eL_comes_475, eL_comes_476, eL_comes_479, eL_comes_480, eL_comes_483, eL_comes_486, eL_comes_487, eL_comes_488, eL_comes_491, if_pos, if_neg, if_true, if_false, Option.bind_some, Option.toList_some, Option.toList_none, List.cons_append, List.nil_append]
    · subst q
      simp (disch := omega) only [eL_comes_466, eL_comes_468, eL_comes_471, eL_comes_472, eL_comes_475, eL_comes_476, eL_comes_479, eL_comes_480, eL_comes_483, eL_comes_486, eL_comes_487, eL_comes_488, eL_comes_491, if_pos, if_neg, if_true, if_false, Option.bind_some, Option.toList_some, Option.toList_none, List.cons_append, List.nil_append]
  | succ j ih =>
    intro k S X m h1 h2 h3 h4
    obtain ⟨S1, i1, L1, g1⟩ := l_coU (wd := wd) (v := v) (mt := mt) (rw := rw) (fi := fi) (la := la) (wi := wi) (be := be) (le := le) (s := s) (o := o) (lps := lps) (lk := lk) (ov := ov) (u := u) (k := k) h3 (by have := h4.1; omega) (by omega) (by omega)
    obtain ⟨S2, m', i2, L2, g2⟩ := ih (k + 1) S1 (H (m - 1)) (m - 1) (by omega) (by omega) L1 h4.pop
    exact ⟨S2, m', by rw [i1, i2], L2, g1.trans g2⟩
end CO
set_option maxHeartbeats 1000000 in
theorem t_comes {wd v : Int} (hwd : wd = 40 ∨ wd = 300) (hv : -2147483648 ≤ v ∧ v ≤ 2147483647) (h : LWs S A m H K V P n) : ∃ S', fL_comes [vR 0, vI wd, vI v] S = some (some (vI 1), S') ∧ LX S' A K V ∧ fr S S' := by
  have ha := h.1.aok
  have hA := ha.1
  have hR := ha.2.1
  have hs : 0 ≤ v % 2147483648 % 3 ∧ v % 2147483648 % 3 ≤ 2 := by omega
  have ho : 0 ≤ v / 4 % 2147483648 % 6 ∧ v / 4 % 2147483648 % 6 ≤ 5 := by omega
  have hrwB : ∀ k, k < 300 → 0 ≤ rwB (RA A) (A 0) (A 1) k ∧ rwB (RA A) (A 0) (A 1) k ≤ 729 := fun k hk => by
    unfold rwB rwR
    rw [rv_in hk, rv_in hk, rv_in hk]
    have := mul3_b (hR 0 k (by omega) hk) (hR 1 k (by omega) hk) (hR 2 k (by omega) hk)
    split <;> omega
  have hsm := sumk_b (m := 300) hrwB
  have w0 : wkF A 0 = (cnt (shd (RA A) (A 0) (A 1)) 300 : Int) := rfl
  have w1 : wkF A 1 = sumk (rwB (RA A) (A 0) (A 1)) 300 := by
    unfold wkF
    rw [if_neg (by decide), if_pos rfl]
  have w2 : wkF A 2 = gF (shd (RA A) (A 0) (A 1)) 300 := by
    unfold wkF
    rw [if_neg (by decide), if_neg (by decide), if_pos rfl]
  have w3 : wkF A 3 = gB (shd (RA A) (A 0) (A 1)) 300 := by
    unfold wkF
    rw [if_neg (by decide), if_neg (by decide), if_neg (by decide), if_pos rfl]
  have w4 : wkF A 4 = gW (shd (RA A) (A 0) (A 1)) 300 := by
    unfold wkF
    rw [if_neg (by decide), if_neg (by decide), if_neg (by decide), if_neg (by decide), if_pos rfl]
  have hwb : ∀ k : Int, 0 ≤ k ∧ k ≤ 4 → -6 ≤ wkF A k ∧ wkF A k ≤ 300000 := fun k hk => by
    have cb := cnt_le (shd (RA A) (A 0) (A 1)) 300
    have fb := gF_b (shd (RA A) (A 0) (A 1)) 300
    have bb := gB_b (shd (RA A) (A 0) (A 1)) 300
    have wb := gW_b (shd (RA A) (A 0) (A 1)) 300
    rcases (show k = 0 ∨ k = 1 ∨ k = 2 ∨ k = 3 ∨ k = 4 by omega) with rfl | rfl | rfl | rfl | rfl
    · rw [w0]; omega
    · rw [w1]; omega
    · rw [w2]; omega
    · rw [w3]; omega
    · rw [w4]; omega
  have p := s_print h.1
  obtain ⟨y10, y11, y12, i1⟩ := l_co1 (wd := wd) (v := v) (u := prF A) h.1 (cnt (RA A 0) 300) 0 0 none none (Nat.zero_add _) rfl (by omega) (Or.inl rfl)
  have i1 : rn xL_comes (26, [some (vR 0), some (vI wd), some (vI v), some (vJ (prF A)), none, some (vI 0), some (vI 0), some (vI (-6)), some (vI (-6)), some (vI (-6)), some (vI 0), none, none, none, none, none, none, none, none, none], [], S) = _ := i1
  have i3 := l_co3 (wd := wd) (v := v) (u := prF A) (mt := (cnt (shd (RA A) (A 0) (A 1)) 300 : Int)) (rw := sumk (rwB (RA A) (A 0) (A 1)) 300) (fi := gF (shd (RA A) (A 0) (A 1)) 300) (la := gB (shd (RA A) (A 0) (A 1)) 300) (wi := gW (shd (RA A) (A 0) (A 1)) 300) (x11 := some (vI y10)) (x12 := y11) (x13 := y12) h.1 w0.symm w1.symm w2.symm w3.symm w4.symm hwb
  obtain ⟨S1, y13, i2, L1, g1⟩ := l_co2 (wd := wd) (v := v) (u := prF A) (mt := (cnt (shd (RA A) (A 0) (A 1)) 300 : Int)) (rw := sumk (rwB (RA A) (A 0) (A 1)) 300) (fi := gF (shd (RA A) (A 0) (A 1)) 300) (la := gB (shd (RA A) (A 0) (A 1)) 300) (wi := gW (shd (RA A) (A 0) (A 1)) 300) 18 0 S none rfl h
  obtain ⟨mt, hmt⟩ : ∃ z, z = (cnt (shd (RA A) (A 0) (A 1)) 300 : Int) := ⟨_, rfl⟩
  obtain ⟨rw_, hrw⟩ : ∃ z, z = sumk (rwB (RA A) (A 0) (A 1)) 300 := ⟨_, rfl⟩
  obtain ⟨fi, hfi⟩ : ∃ z, z = gF (shd (RA A) (A 0) (A 1)) 300 := ⟨_, rfl⟩
  obtain ⟨la, hla⟩ : ∃ z, z = gB (shd (RA A) (A 0) (A 1)) 300 := ⟨_, rfl⟩
  obtain ⟨wi, hwi⟩ : ∃ z, z = gW (shd (RA A) (A 0) (A 1)) 300 := ⟨_, rfl⟩
  rw [← hmt, ← hrw, ← hfi, ← hla, ← hwi] at i1 i3 i2
  have i2 : rn xL_comes (213, [some (vR 0), some (vI wd), some (vI v), some (vJ (prF A)), none, some (vI mt), some (vI rw_), some (vI fi), some (vI la), some (vI wi), some (vI (-1)), some (vI 0), some (vI 0), none, none, none, none, none, none, none], [], S) = _ := i2
  obtain ⟨S2, i4, L2, g2⟩ := l_co4 (wd := wd) (v := v) (u := prF A) (mt := mt) (rw := rw_) (fi := fi) (la := la) (wi := wi) (be := lwB A 18) (le := lwL A 18) (x12 := some (vI 18)) (x13 := y13) L1 rfl rfl
  obtain ⟨S3, i5, L3, g3⟩ := l_co5 (wd := wd) (v := v) (u := prF A) (mt := mt) (rw := rw_) (fi := fi) (la := la) (wi := wi) (be := lwB A 18) (le := lwL A 18) (x12 := some (vI 18)) (x13 := y13) hv L2
  have gA := (g1.trans g2).trans g3
  have hfront : fL_comes [vR 0, vI wd, vI v] S = rn xL_comes (340, [some (vR 0), some (vI wd), some (vI v), some (vJ (prF A)), none, some (vI mt), some (vI rw_), some (vI fi), some (vI la), some (vI wi), some (vI (lwB A 18)), some (vI (lwL A 18)), some (vI (v % 2147483648 % 3)), some (vI (v / 4 % 2147483648 % 6)), some (vI (trF A (v % 2147483648 % 3) (v / 4 % 2147483648 % 6) 8 + trF A (v % 2147483648 % 3) (v / 4 % 2147483648 % 6) 9 + trF A (v % 2147483648 % 3) (v / 4 % 2147483648 % 6) 10)), some (vI (trF A (v % 2147483648 % 3) (v / 4 % 2147483648 % 6) 11 + trF A (v % 2147483648 % 3) (v / 4 % 2147483648 % 6) 12 + trF A (v % 2147483648 % 3) (v / 4 % 2147483648 % 6) 13)), none, none, none, none], [], S3) := by
    rw [uL_comes]
    simp (disch := omega) only [eL_comes_0, eL_comes_1, eL_comes_4, eL_comes_5, eL_comes_6, eL_comes_8, eL_comes_9, eL_comes_11, eL_comes_13, eL_comes_15, eL_comes_17, eL_comes_19, eL_comes_21, eL_comes_23, eL_comes_24, if_pos, if_neg, if_true, if_false, Option.bind_some, Option.toList_some, Option.toList_none, List.cons_append, List.nil_append, p]
    rw [i1, i3, i2, i4, i5]
  rw [hfront]
  clear hfront i1 i2 i3 i4 i5
  generalize (v % 2147483648 % 3) = s at *
  generalize (v / 4 % 2147483648 % 6) = o at *
  generalize lwB A 18 = be at *
  generalize lwL A 18 = le at *
  obtain ⟨⟨d1, d2⟩, d3⟩ := tr_fin hA hR hs ho
  obtain ⟨c1, c2⟩ := tr_beg (A := A) (s := s) (o := o)
  obtain ⟨S4, i6, L4, g4⟩ := l_co6a (wd := wd) (v := v) (u := prF A) (mt := mt) (rw := rw_) (fi := fi) (la := la) (wi := wi) (be := be) (le := le) (s := s) (o := o) (lps := trF A s o 8 + trF A s o 9 + trF A s o 10) (lk := trF A s o 11 + trF A s o 12 + trF A s o 13) hs ho L3
  rw [i6]
  clear i6
  have h6 := h.1.m6
  have m1 := (mM_b h6).1
  have m2 := (mM_b m1).1
  have m3 := (mM_b m2).1
  have t3 := ((HT.zero (m := m) (H := H) (A := A)).push (X' := mSet A 2 s) h6 (by omega)).push (X' := mSet (mSet A 2 s) 3 o) m1 (by omega) |>.push (X' := mBegin (mSet (mSet A 2 s) 3 o)) m2 (by omega)
  obtain ⟨k1, k2, k3, k4⟩ := beg_ok (R := RA A) (tr_stg hA hs ho) hR
  have k5 := (beg_cv (R := RA A) (tr_stg hA hs ho) hR).2.2
  rw [← c1] at k1 k2 k3 k4 k5 d2
  have dM : ∀ k, k < 300 → MetA (trF A s o) k = rwB (RA A) (A 0) (A 1) k := d3
  have hcm : mt = (cnt (MetA (trF A s o)) 300 : Int) := by
    rw [hmt]
    exact congrArg Int.ofNat (cnt_congr (fun k hk => by rw [dM k hk]; exact (rwB_shd hR hk).symm))
  have hrm : rw_ = sumk (MetA (trF A s o)) 300 := by
    rw [hrw]
    exact sumk_congr (fun k hk => (dM k hk).symm)
  have hRC : agR (RA A) (RA (mBegin (mSet (mSet A 2 s) 3 o))) := fun w k hw hk => by
    show mBegin (mSet (mSet A 2 s) 3 o) (25 + 300 * w + k) = A (25 + 300 * w + k)
    rw [c1, mLook_ne (by omega) (by omega) (by omega) (Or.inr (Or.inr (by rw [mBeg_k (by omega)]; exact (tr_stg hA hs ho).2.1.2))), mBeg_k (by omega)]
    unfold trB
    rw [up_ne (by omega), up_ne (by omega)]
  have hrun : mRun (mBegin (mSet (mSet A 2 s) 3 o)) (RA (mBegin (mSet (mSet A 2 s) 3 o))) = mRun (mBegin (mSet (mSet A 2 s) 3 o)) (RA A) := hRC.runF hR 1000 _ k4 k1 k2
  have htr : (mRun (mBegin (mSet (mSet A 2 s) 3 o)) (RA A)).1 = trF A s o := by rw [c1]; rfl
  have hb5 : 0 ≤ rw_ ∧ rw_ ≤ 300000 := by omega
  have f0 := r_run L4.1 (k := 0) (by omega)
  rw [figR_0 k5] at f0
  have a4 := L4.1.aok.2.2.2.2.2.1
  generalize hCC : mBegin (mSet (mSet A 2 s) 3 o) = C at *
  have hab : 0 ≤ v / 32 % 2147483648 % wd ∧ v / 32 % 2147483648 % wd < wd := ⟨Int.emod_nonneg _ (by omega), Int.emod_lt_of_pos _ (by omega)⟩
  have hbb : 0 ≤ v / 4096 % 2147483648 % (300 - v / 32 % 2147483648 % wd) ∧ v / 4096 % 2147483648 % (300 - v / 32 % 2147483648 % wd) < 300 - v / 32 % 2147483648 % wd := ⟨Int.emod_nonneg _ (by omega), Int.emod_lt_of_pos _ (by omega)⟩
  have tail : ∀ (ov : Int) (S5 : MM) (m5 : Nat) (H5 : Nat → Nat → Int) (j : Nat), (ov = 0 ∨ ov = 1) → (j : Int) = 4 - ov → LWs S5 (trF A s o) m5 H5 K V P n → HT m5 H5 (trF A s o) A j → ∃ S', rn xL_comes (409, [some (vR 0), some (vI wd), some (vI v), some (vJ (prF A)), none, some (vI mt), some (vI rw_), some (vI fi), some (vI la), some (vI wi), some (vI be), some (vI le), some (vI s), some (vI o), some (vI (trF A s o 8 + trF A s o 9 + trF A s o 10)), some (vI (trF A s o 11 + trF A s o 12 + trF A s o 13)), some (vI ov), none, none, none], [], S5) = some (some (vI 1), S') ∧ LX S' A K V ∧ fr S5 S' := by
    intro ov S5 m5 H5 j hov hj L5 t5
    have i7 := l_co6c (wd := wd) (v := v) (u := prF A) (mt := mt) (rw := rw_) (fi := fi) (la := la) (wi := wi) (be := be) (le := le) (s := s) (o := o) (lps := trF A s o 8 + trF A s o 9 + trF A s o 10) (lk := trF A s o 11 + trF A s o 12 + trF A s o 13) (ov := ov) L5.1 hov d1 rfl rfl hcm hrm
    obtain ⟨S6, m6, i8, L6, g6⟩ := l_coUs (wd := wd) (v := v) (u := prF A) (mt := mt) (rw := rw_) (fi := fi) (la := la) (wi := wi) (be := be) (le := le) (s := s) (o := o) (lps := trF A s o 8 + trF A s o 9 + trF A s o 10) (lk := trF A s o 11 + trF A s o 12 + trF A s o 13) (ov := ov) hov j 0 S5 (trF A s o) m5 (by omega) (by omega) L5 t5
    obtain ⟨S7, i9, L7, g7⟩ := l_coE (wd := wd) (v := v) (u := prF A) (mt := mt) (rw := rw_) (fi := fi) (la := la) (wi := wi) (be := be) (le := le) (s := s) (o := o) (lps := trF A s o 8 + trF A s o 9 + trF A s o 10) (lk := trF A s o 11 + trF A s o 12 + trF A s o 13) (a := v / 32 % 2147483648 % wd) (b := v / 32 % 2147483648 % wd + v / 4096 % 2147483648 % (300 - v / 32 % 2147483648 % wd)) (x16 := some (vI ov)) (x19 := none) L6 (by omega) (hrw.trans w1.symm) hb5 rfl
    refine ⟨S7, ?_, L7, g6.trans g7⟩
    rw [i7, i8, ← i9]
    simp (disch := omega) only [eL_comes_494, eL_comes_495, eL_comes_496, eL_comes_497, eL_comes_498, eL_comes_501, eL_comes_503, eL_comes_505, eL_comes_506, eL_comes_508, eL_comes_509, eL_comes_512, eL_comes_514, eL_comes_515, eL_comes_518, eL_comes_519, if_pos, if_neg, if_true, if_false, Option.bind_some, Option.toList_some, Option.toList_none, List.cons_append, List.nil_append, s_up]
  by_cases q : C 4 = 2
  · rw [q] at f0
    have hC0 : mRun C (RA A) = (C, 0) := by
      show mRunF (999 + 1) C (RA A) = (C, 0)
      rw [mRunF, if_neg (by omega)]
    rw [hC0] at htr d2
    have htr : C = trF A s o := htr
    have d2 : trF A s o 8 + trF A s o 9 + trF A s o 10 = 0 := d2
    rw [htr] at L4 t3
    obtain ⟨S5, i7, L5, g5⟩ := tail 1 S4 _ _ 3 (Or.inr rfl) (by decide) L4 t3
    refine ⟨S5, ?_, L5, (gA.trans g4).trans g5⟩
    rw [← i7]
    clear i7 tail
    simp (disch := omega) only [eL_comes_369, eL_comes_370, eL_comes_371, eL_comes_374, eL_comes_375, eL_comes_378, eL_comes_379, eL_comes_382, eL_comes_383, eL_comes_385, eL_comes_387, eL_comes_390, eL_comes_392, eL_comes_395, eL_comes_398, eL_comes_399, eL_comes_402, eL_comes_404, eL_comes_407, eL_comes_408, if_pos, if_neg, if_true, if_false, Option.bind_some, Option.toList_some, Option.toList_none, List.cons_append, List.nil_append, f0]
  · have q1 : C 4 = 1 := by omega
    rw [q1] at f0
    obtain ⟨S5, e5, L5, g5⟩ := o_run L4 q1
    rw [hrun] at e5 L5
    rw [htr] at L5
    rw [← d2] at e5
    have t4 := t3.push (X' := trF A s o) m3 (by omega)
    have hl := L5.1.aok.2.2.2.2.1
    have w0 := hl.w (w := 0) (by omega)
    have w1 := hl.w (w := 1) (by omega)
    have w2 := hl.w (w := 2) (by omega)
    simp only [Nat.add_zero, Nat.reduceAdd] at w0 w1 w2
    obtain ⟨S6, i7, L6, g6⟩ := tail 0 S5 _ _ 4 (Or.inl rfl) (by decide) L5 t4
    refine ⟨S6, ?_, L6, ((gA.trans g4).trans g5).trans g6⟩
    rw [← i7]
    clear i7 tail
    simp (disch := omega) only [eL_comes_369, eL_comes_370, eL_comes_371, eL_comes_374, eL_comes_375, eL_comes_378, eL_comes_379, eL_comes_382, eL_comes_383, eL_comes_385, eL_comes_387, eL_comes_390, eL_comes_392, eL_comes_395, eL_comes_398, eL_comes_399, eL_comes_402, eL_comes_404, eL_comes_407, eL_comes_408, if_pos, if_neg, if_true, if_false, Option.bind_some, Option.toList_some, Option.toList_none, List.cons_append, List.nil_append, f0, e5]
end LAW15

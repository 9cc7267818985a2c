/-! the law's comparison with plain walking: the rest -/
section LAW14
variable {S S' : MM} {A A' : Nat → Int} {R R' : Nat → Nat → Int} {m : Nat} {H : Nat → Nat → Int} {K : Nat → Int} {V : Nat → Nat → Int} {P : Nat → Int} {n : Nat}
theorem mH_get {i : Nat} (h6 : m ≤ 6) (h1 : 1 ≤ i) (h2 : i ≤ m) (h5 : i ≤ 5) : mH m H A (mM m - 1 - i) = H (m - i) := by
  unfold mH mM
  by_cases q : m < 6
  · rw [if_pos q, if_pos q, if_pos (by omega), show m + 1 - 1 - i = m - i by omega]
  · rw [if_neg q, if_neg q, if_pos (by omega), show 6 - 1 - i + 1 = m - i by omega]
theorem mM_b (h6 : m ≤ 6) : mM m ≤ 6 ∧ m ≤ mM m ∧ (m < 6 → mM m = m + 1) ∧ (m = 6 → mM m = 6) := by
  unfold mM
  split <;> omega
theorem set_k {j k : Nat} {z : Int} (hk : k ≠ 4) : mSet A j z k = up A j z k := by
  unfold mSet
  rw [mOvr_k hk]
theorem tr_stg {s o : Int} (hA : StgR A) (hs : 0 ≤ s ∧ s ≤ 2) (ho : 0 ≤ o ∧ o ≤ 5) : StgR (trB A s o) := by
  obtain ⟨s0, s1, s2, s3⟩ := hA
  unfold trB
  refine ⟨?_, ?_, ?_, ?_⟩
  · rw [up_ne (by omega), up_ne (by omega)]
    exact s0
  · rw [up_ne (by omega), up_ne (by omega)]
    exact s1
  · rw [up_ne (by omega), up_eq]
    exact hs
  · rw [up_eq]
    exact ho
/-- the run that is tried is the run that would be made -/
theorem tr_beg {s o : Int} : mBegin (mSet (mSet A 2 s) 3 o) = mLook (mBeg (trB A s o) (RA A)) (RA A) ∧ RA (mSet (mSet A 2 s) 3 o) = RA A := by
  have e : ∀ k, k ≠ 4 → mSet (mSet A 2 s) 3 o k = trB A s o k := fun k hk => by
    rw [set_k hk]
    unfold trB
    rw [up_at, up_at]
    split
    · rfl
    · exact set_k hk
  have eR : RA (mSet (mSet A 2 s) 3 o) = RA A := by
    funext w k
    show mSet (mSet A 2 s) 3 o (25 + 300 * w + k) = A (25 + 300 * w + k)
    rw [e _ (by omega)]
    unfold trB
    rw [up_ne (by omega), up_ne (by omega)]
  refine ⟨?_, eR⟩
  have eB : mBeg (mSet (mSet A 2 s) 3 o) (RA A) = mBeg (trB A s o) (RA A) := by
    funext k
    unfold mBeg
    rw [e 0 (by omega), e 3 (by omega)]
    by_cases q : k = 4
    · rw [if_pos q, if_pos q]
    · rw [e k q]
  unfold mBegin
  rw [eR, eB]
theorem tr_fin {s o : Int} (hA : StgR A) (hR : RB (RA A)) (hs : 0 ≤ s ∧ s ≤ 2) (ho : 0 ≤ o ∧ o ≤ 5) : (trF A s o 4 = 2 ∧ trF A s o 8 + trF A s o 9 + trF A s o 10 = (mRun (mLook (mBeg (trB A s o) (RA A)) (RA A)) (RA A)).2) ∧ (∀ k : Nat, k < 300 → MetA (trF A s o) k = rwB (RA A) (A 0) (A 1) k) := by
  have h := beg_run (R := RA A) (tr_stg hA hs ho) hR
  refine ⟨h.1, fun k hk => ?_⟩
  have e : wk (trB A s o) (RA A) = rwB (RA A) (A 0) (A 1) := by
    show rwB (RA A) (trB A s o 0) (trB A s o 1) = _
    unfold trB
    rw [up_ne (by omega), up_ne (by omega), up_ne (by omega), up_ne (by omega)]
  rw [← e]
  exact h.2 k hk
theorem rwB_shd {lo hi : Int} (hR : RB R) {k : Nat} (hk : k < 300) : 0 < rwB R lo hi k ↔ 0 < shd R lo hi k := by
  unfold rwB shd
  by_cases q : lo ≤ (k : Int) ∧ (k : Int) ≤ hi
  · rw [if_pos q]
    by_cases q2 : 0 < rwR R k
    · rw [if_pos ⟨q, q2⟩]
      omega
    · rw [if_neg (fun z => q2 z.2)]
      omega
  · rw [if_neg q, if_neg (fun z => q z.1)]
theorem sumk_add {f g h : Nat → Int} : ∀ {m : Nat}, (∀ k, k < m → f k = g k + h k) → sumk f m = sumk g m + sumk h m
  | 0, _ => rfl
  | m + 1, q => by
    rw [sumk, sumk, sumk, sumk_add (fun k hk => q k (by omega)), q m (by omega)]
    omega
theorem walk_take {a b : Int} (ha : AOk A) (hab : (0 ≤ a ∧ a ≤ 299) ∧ a ≤ b ∧ b ≤ 299) : wkF (mTake A (-6) a b) 1 = wkF A 1 - lostF A a b := by
  have e0 : mTake A (-6) a b 0 = A 0 := take_lo ha (by omega)
  have e1 : mTake A (-6) a b 1 = A 1 := take_lo ha (by omega)
  show sumk (rwB (RA (mTake A (-6) a b)) (mTake A (-6) a b 0) (mTake A (-6) a b 1)) 300 = sumk (rwB (RA A) (A 0) (A 1)) 300 - lostF A a b
  rw [e0, e1]
  unfold lostF
  rw [if_pos hab]
  have key := sumk_add (f := rwB (RA A) (A 0) (A 1)) (g := rwB (RA (mTake A (-6) a b)) (A 0) (A 1)) (h := rwB (RA A) (if a < A 0 then A 0 else a) (if A 1 < b then A 1 else b)) (m := 300) (fun k hk => by
    have er : ∀ u : Nat, u < 3 → RA (mTake A (-6) a b) u k = if a ≤ (k : Int) ∧ (k : Int) ≤ b then 0 else RA A u k := fun u hu => by
      rw [take_R ha hu hk]
      unfold nR
      rw [if_pos (Or.inl rfl)]
      rfl
    have erw : rwR (RA (mTake A (-6) a b)) (k : Int) = if a ≤ (k : Int) ∧ (k : Int) ≤ b then 0 else rwR (RA A) (k : Int) := by
      unfold rwR
      rw [rv_in hk, rv_in hk, rv_in hk, rv_in hk, rv_in hk, rv_in hk, er 0 (by omega), er 1 (by omega), er 2 (by omega)]
      by_cases q : a ≤ (k : Int) ∧ (k : Int) ≤ b
      · rw [if_pos q, if_pos q, if_pos q, if_pos q]
        rfl
      · rw [if_neg q, if_neg q, if_neg q, if_neg q]
    unfold rwB
    rw [erw]
    by_cases q : a ≤ (k : Int) ∧ (k : Int) ≤ b
    · rw [if_pos q]
      by_cases q2 : A 0 ≤ (k : Int) ∧ (k : Int) ≤ A 1
      · rw [if_pos q2, if_pos q2, if_pos (by constructor <;> (split <;> omega))]
        omega
      · rw [if_neg q2, if_neg q2, if_neg (by intro z; apply q2; have z1 := z.1; have z2 := z.2; constructor; (split at z1 <;> omega); (split at z2 <;> omega))]
        rfl
    · rw [if_neg q]
      rw [if_neg (c := (if a < A 0 then A 0 else a) ≤ (k : Int) ∧ (k : Int) ≤ (if A 1 < b then A 1 else b)) (by intro z; apply q; have z1 := z.1; have z2 := z.2; constructor; (split at z1 <;> omega); (split at z2 <;> omega)), Int.add_zero])
  omega
section CO
variable {wd v mt rw fi la wi be le s o lps lk ov : Int} {u : Nat} {x11 x12 x13 x14 x15 x16 x17 x18 x19 : Option VV}
theorem l_co3 (h : XIs S A m H K V P n) (h0 : mt = wkF A 0) (h1 : rw = wkF A 1) (h2 : fi = wkF A 2) (h3 : la = wkF A 3) (h4 : wi = wkF A 4) (hb : ∀ k : Int, 0 ≤ k ∧ k ≤ 4 → -6 ≤ wkF A k ∧ wkF A k ≤ 300000) : rn xL_comes (152, [some (vR 0), some (vI wd), some (vI v), some (vJ u), none, some (vI mt), some (vI rw), some (vI fi), some (vI la), some (vI wi), x11, x12, x13, none, none, none, none, none, none, none], [], S) = rn xL_comes (213, [some (vR 0), some (vI wd), some (vI v), some (vJ u), none, some (vI mt), some (vI rw), some (vI fi), some (vI la), some (vI wi), some (vI (-1)), some (vI 0), some (vI 0), none, none, none, none, none, none, none], [], S) := by
  have e0 := s_walking h (what := 0) (by omega)
  have e1 := s_walking h (what := 1) (by omega)
  have e2 := s_walking h (what := 2) (by omega)
  have e3 := s_walking h (what := 3) (by omega)
  have e4 := s_walking h (what := 4) (by omega)
  have b0 := hb 0 (by omega)
  have b1 := hb 1 (by omega)
  have b2 := hb 2 (by omega)
  have b3 := hb 3 (by omega)
  have b4 := hb 4 (by omega)
  rw [← h0] at e0 b0
  rw [← h1] at e1 b1
  rw [← h2] at e2 b2
  rw [← h3] at e3 b3
  rw [← h4] at e4 b4
  clear h0 h1 h2 h3 h4 hb
  simp (disch := omega) only [eL_comes_152, eL_comes_153, eL_comes_154, eL_comes_157, eL_comes_159, eL_comes_162, eL_comes_163, eL_comes_164, eL_comes_167, eL_comes_169, eL_comes_172, eL_comes_173, eL_comes_174, eL_comes_177, eL_comes_179, eL_comes_182, eL_comes_183, eL_comes_184, eL_comes_187, eL_comes_189, eL_comes_192, eL_comes_193, eL_comes_194, eL_comes_197, eL_comes_199, eL_comes_202, eL_comes_203, eL_comes_204, eL_comes_205, eL_comes_207, eL_comes_208, eL_comes_210, eL_comes_211, if_pos, if_neg, if_true, if_false, Option.bind_some, Option.toList_some, Option.toList_none, List.cons_append, List.nil_append, e0, e1, e2, e3, e4]
theorem l_co4 (h : LWs S A m H K V P n) (hbe : be = (bK (lkF A) 18 : Int)) (hle : le = lkF A (bK (lkF A) 18)) : ∃ S', rn xL_comes (263, [some (vR 0), some (vI wd), some (vI v), some (vJ u), none, some (vI mt), some (vI rw), some (vI fi), some (vI la), some (vI wi), some (vI be), some (vI le), x12, x13, none, none, none, none, none, none], [], S) = rn xL_comes (301, [some (vR 0), some (vI wd), some (vI v), some (vJ u), none, some (vI mt), some (vI rw), some (vI fi), some (vI la), some (vI wi), some (vI be), some (vI le), x12, x13, none, none, none, none, none, none], [], S') ∧ LWs S' A m H K V P n ∧ fr S S' := by
  have ha := h.1.aok
  obtain ⟨S1, e1, L1, g1⟩ := o_cheapest h (what := 0) (by omega)
  obtain ⟨S2, e2, L2, g2⟩ := o_cheapest L1 (what := 1) (by omega)
  obtain ⟨S3, e3, L3, g3⟩ := o_cheapest L2 (what := 2) (by omega)
  have hb := bK_lt (f := lkF A) (k := 18) (by omega)
  have hl := lkF_b ha.1 ha.2.1 (k := bK (lkF A) 18) (by omega)
  have c0 : chF A 0 = ((bK (lkF A) 18 / 6 : Nat) : Int) := rfl
  have c1 : chF A 1 = ((bK (lkF A) 18 % 6 : Nat) : Int) := rfl
  have c2 : chF A 2 = lkF A (bK (lkF A) 18) := rfl
  rw [c0] at e1
  rw [c1] at e2
  rw [c2] at e3
  subst hbe
  subst hle
  refine ⟨S3, ?_, L3, (g1.trans g2).trans g3⟩
  simp (disch := omega) only [eL_comes_263, eL_comes_264, eL_comes_265, eL_comes_268, eL_comes_270, eL_comes_272, eL_comes_273, eL_comes_276, eL_comes_277, eL_comes_278, eL_comes_281, eL_comes_283, eL_comes_285, eL_comes_286, eL_comes_289, eL_comes_290, eL_comes_291, eL_comes_294, eL_comes_296, eL_comes_299, eL_comes_300, if_pos, if_neg, if_true, if_false, Option.bind_some, Option.toList_some, Option.toList_none, List.cons_append, List.nil_append, e1, e2, e3]
theorem l_co5 (hv : -2147483648 ≤ v ∧ v ≤ 2147483647) (h : LWs S A m H K V P n) : ∃ S', rn xL_comes (301, [some (vR 0), some (vI wd), some (vI v), some (vJ u), none, some (vI mt), some (vI rw), some (vI fi), some (vI la), some (vI wi), some (vI be), some (vI le), x12, x13, none, none, none, none, none, none], [], S) = rn xL_comes (340, [some (vR 0), some (vI wd), some (vI v), some (vJ u), none, some (vI mt), some (vI rw), some (vI fi), some (vI la), some (vI wi), some (vI be), some (vI le), some (vI (v % 2147483648 % 3)), some (vI (v / 4 % 2147483648 % 6)), some (vI (trF A (v % 2147483648 % 3) (v / 4 % 2147483648 % 6) 8 + trF A (v % 2147483648 % 3) (v / 4 % 2147483648 % 6) 9 + trF A (v % 2147483648 % 3) (v / 4 % 2147483648 % 6) 10)), some (vI (trF A (v % 2147483648 % 3) (v / 4 % 2147483648 % 6) 11 + trF A (v % 2147483648 % 3) (v / 4 % 2147483648 % 6) 12 + trF A (v % 2147483648 % 3) (v / 4 % 2147483648 % 6) 13)), none, none, none, none], [], S') ∧ LWs S' A m H K V P n ∧ fr S S' := by
  obtain ⟨S1, e1, L1, g1⟩ := o_runWith h (s := v % 2147483648 % 3) (o := v / 4 % 2147483648 % 6) (what := 0) (by omega) (by omega) (by omega)
  obtain ⟨S2, e2, L2, g2⟩ := o_runWith L1 (s := v % 2147483648 % 3) (o := v / 4 % 2147483648 % 6) (what := 1) (by omega) (by omega) (by omega)
  have c1 : ∀ what : Int, 0 ≤ what ∧ what ≤ 1 → rwF A (v % 2147483648 % 3) (v / 4 % 2147483648 % 6) what = if what = 0 then trF A (v % 2147483648 % 3) (v / 4 % 2147483648 % 6) 8 + trF A (v % 2147483648 % 3) (v / 4 % 2147483648 % 6) 9 + trF A (v % 2147483648 % 3) (v / 4 % 2147483648 % 6) 10 else trF A (v % 2147483648 % 3) (v / 4 % 2147483648 % 6) 11 + trF A (v % 2147483648 % 3) (v / 4 % 2147483648 % 6) 12 + trF A (v % 2147483648 % 3) (v / 4 % 2147483648 % 6) 13 := fun what hw => by
    unfold rwF
    rw [if_pos (by omega)]
  rw [c1 0 (by omega), if_pos rfl] at e1
  rw [c1 1 (by omega), if_neg (by decide)] at e2
  refine ⟨S2, ?_, L2, g1.trans g2⟩
  simp (disch := omega) only [eL_comes_301, eL_comes_302, eL_comes_303, eL_comes_306, eL_comes_308, eL_comes_309, eL_comes_310, eL_comes_311, eL_comes_313, eL_comes_316, eL_comes_318, eL_comes_319, eL_comes_321, eL_comes_323, eL_comes_324, eL_comes_327, eL_comes_329, eL_comes_330, eL_comes_332, eL_comes_334, eL_comes_335, eL_comes_338, if_pos, if_neg, if_true, if_false, Option.bind_some, Option.toList_some, Option.toList_none, List.cons_append, List.nil_append, s_up, e1, e2]
theorem l_co6a (hs : 0 ≤ s ∧ s ≤ 2) (ho : 0 ≤ o ∧ o ≤ 5) (h : LWs S A m H K V P n) : ∃ S', rn xL_comes (340, [some (vR 0), some (vI wd), some (vI v), some (vJ u), none, some (vI mt), some (vI rw), some (vI fi), some (vI la), some (vI wi), some (vI be), some (vI le), some (vI s), some (vI o), some (vI lps), some (vI lk), none, none, none, none], [], S) = rn xL_comes (369, [some (vR 0), some (vI wd), some (vI v), some (vJ u), none, some (vI mt), some (vI rw), some (vI fi), some (vI la), some (vI wi), some (vI be), some (vI le), some (vI s), some (vI o), some (vI lps), some (vI lk), none, none, none, none], [], S') ∧ LWs S' (mBegin (mSet (mSet A 2 s) 3 o)) (mM (mM (mM m))) (mH (mM (mM m)) (mH (mM m) (mH m H A) (mSet A 2 s)) (mSet (mSet A 2 s) 3 o)) K V P n ∧ fr S S' := by
  obtain ⟨S1, e1, L1, g1⟩ := o_set h (j := 2) (z := s) (by omega) hs
  obtain ⟨S2, e2, L2, g2⟩ := o_set L1 (j := 3) (z := o) (by omega) ho
  obtain ⟨S3, e3, L3, g3⟩ := o_begin L2
  have a2 := h.1.aok.1.2.2.1
  have a3 := L1.1.aok.1.2.2.2
  have e1 : fX8_set [vR 0, vI 2, vI s] S = some (some (vI (A 2)), S1) := e1
  have e2 : fX8_set [vR 0, vI 3, vI o] S1 = some (some (vI (mSet A 2 s 3)), S2) := e2
  refine ⟨S3, ?_, L3, (g1.trans g2).trans g3⟩
  by_cases q : mBegin (mSet (mSet A 2 s) 3 o) 4 = 2
  · rw [if_pos q] at e3
    simp (disch := omega) only [eL_comes_340, eL_comes_341, eL_comes_342, eL_comes_344, eL_comes_347, eL_comes_350, eL_comes_351, eL_comes_352, eL_comes_354, eL_comes_357, eL_comes_360, eL_comes_361, eL_comes_364, eL_comes_367, eL_comes_368, if_pos, if_neg, if_true, if_false, Option.bind_some, Option.toList_some, Option.toList_none, List.cons_append, List.nil_append, e1, e2, e3]
  · rw [if_neg q] at e3
    simp (disch := omega) only [eL_comes_340, eL_comes_341, eL_comes_342, eL_comes_344, eL_comes_347, eL_comes_350, eL_comes_351, eL_comes_352, eL_comes_354, eL_comes_357, eL_comes_360, eL_comes_361, eL_comes_364, eL_comes_367, eL_comes_368, if_pos, if_neg, if_true, if_false, Option.bind_some, Option.toList_some, Option.toList_none, List.cons_append, List.nil_append, e1, e2, e3]
theorem l_co6c (h : XIs S A' m H K V P n) (hov : ov = 0 ∨ ov = 1) (h4 : A' 4 = 2) (hl : lps = A' 8 + A' 9 + A' 10) (hk : lk = A' 11 + A' 12 + A' 13) (hm : mt = (cnt (MetA A') 300 : Int)) (hr : rw = sumk (MetA A') 300) : rn xL_comes (409, [some (vR 0), some (vI wd), some (vI v), some (vJ u), none, some (vI mt), some (vI rw), some (vI fi), some (vI la), some (vI wi), some (vI be), some (vI le), some (vI s), some (vI o), some (vI lps), some (vI lk), some (vI ov), none, none, none], [], S) = rn xL_comes (464, [some (vR 0), some (vI wd), some (vI v), some (vJ u), none, some (vI mt), some (vI rw), some (vI fi), some (vI la), some (vI wi), some (vI be), some (vI le), some (vI s), some (vI o), some (vI lps), some (vI lk), some (vI ov), some (vI 0), none, none], [], S) := by
  have ha := h.aok
  have f0 := r_run h (k := 0) (by omega)
  rw [figR_0 (by omega), h4] at f0
  have f3 := r_run h (k := 3) (by omega)
  rw [figR_3 (by omega), ← hm] at f3
  have f4 := r_run h (k := 4) (by omega)
  rw [figR_4 (by omega), ← hr] at f4
  have f5 := r_run h (k := 5) (by omega)
  rw [figR_5 (by omega), ← hl] at f5
  have f6 := r_run h (k := 6) (by omega)
  rw [figR_6 (by omega), ← hk] at f6
  have w0 := ha.2.2.2.2.1.w (w := 0) (by omega)
  have w1 := ha.2.2.2.2.1.w (w := 1) (by omega)
  have w2 := ha.2.2.2.2.1.w (w := 2) (by omega)
  simp only [Nat.add_zero, Nat.reduceAdd] at w0 w1 w2
  have hcM := cnt_le (MetA A') 300
  have hsm := sumk_b (f := MetA A') (c := 729) (m := 300) ha.2.2.2.2.1.2.2.1
  have b5 : 0 ≤ lps ∧ lps ≤ 1000 := by omega
  have b6 : 0 ≤ lk ∧ lk ≤ 100000 := by omega
  have b3 : 0 ≤ mt ∧ mt ≤ 300 := by omega
  have b4 : 0 ≤ rw ∧ rw ≤ 300000 := by omega
  clear hl hk hm hr
  simp (disch := omega) only [eL_comes_409, eL_comes_410, eL_comes_411, eL_comes_414, eL_comes_416, eL_comes_419, eL_comes_420, eL_comes_422, eL_comes_425, eL_comes_427, eL_comes_430, eL_comes_431, eL_comes_432, eL_comes_435, eL_comes_437, eL_comes_440, eL_comes_441, eL_comes_442, eL_comes_445, eL_comes_447, eL_comes_450, eL_comes_451, eL_comes_452, eL_comes_455, eL_comes_456, eL_comes_459, eL_comes_460, eL_comes_461, eL_comes_462, if_pos, if_neg, if_true, if_false, Option.bind_some, Option.toList_some, Option.toList_none, List.cons_append, List.nil_append, f0, f3, f4, f5, f6]
theorem l_coU {k : Int} (h : LWs S A m H K V P n) (hm : 0 < m) (hk : 0 ≤ k ∧ k ≤ 3) (hov : (ov = 0 ∧ k < 4) ∨ (ov = 1 ∧ k < 3)) : ∃ S', rn xL_comes (464, [some (vR 0), some (vI wd), some (vI v), some (vJ u), none, some (vI mt), some (vI rw), some (vI fi), some (vI la), some (vI wi), some (vI be), some (vI le), some (vI s), some (vI o), some (vI lps), some (vI lk), some (vI ov), some (vI k), none, none], [], S) = rn xL_comes (464, [some (vR 0), some (vI wd), some (vI v), some (vJ u), none, some (vI mt), some (vI rw), some (vI fi), some (vI la), some (vI wi), some (vI be), some (vI le), some (vI s), some (vI o), some (vI lps), some (vI lk), some (vI ov), some (vI (k + 1)), none, none], [], S') ∧ LWs S' (H (m - 1)) (m - 1) H K V P n ∧ fr S S' := by
  obtain ⟨S1, e1, L1, g1⟩ := o_undo h hm
  have h6 := h.1.m6
  refine ⟨S1, ?_, L1, g1⟩
  rw [eL_comes_464]
  rcases hov with ⟨q, q2⟩ | ⟨q, q2⟩
  · subst q
    simp (disch := omega) only [eL_comes_466, eL_comes_468, eL_comes_471, eL_comes_472, eL_comes_475, eL_comes_476, eL_comes_479, eL_comes_480, eL_comes_483, eL_comes_486, eL_comes_487, eL_comes_488, eL_comes_491, if_pos, if_neg, if_true, if_false, Option.bind_some, Option.toList_some, Option.toList_none, List.cons_append, List.nil_append, e1]
  · subst q
    simp (disch := omega) only [eL_comes_466, eL_comes_468, eL_comes_471, eL_comes_472, eL_comes_475, eL_comes_476, eL_comes_479, eL_comes_480, eL_comes_483, eL_comes_486, eL_comes_487, eL_comes_488, eL_comes_491, if_pos, if_neg, if_true, if_false, Option.bind_some, Option.toList_some, Option.toList_none, List.cons_append, List.nil_append, e1]
theorem l_coE {a b : Int} (h : LWs S A m H K V P n) (hab : (0 ≤ a ∧ a ≤ 299) ∧ a ≤ b ∧ b ≤ 299) (hr : rw = wkF A 1) (hb : 0 ≤ rw ∧ rw ≤ 300000) (hu : u = prF A) {x16 x19 : Option VV} : ∃ S', rn xL_comes (521, [some (vR 0), some (vI wd), some (vI v), some (vJ u), none, some (vI mt), some (vI rw), some (vI fi), some (vI la), some (vI wi), some (vI be), some (vI le), some (vI s), some (vI o), some (vI lps), some (vI lk), x16, some (vI a), some (vI b), x19], [], S) = some (some (vI 1), S') ∧ LX S' A K V ∧ fr S S' := by
  have ha := h.1.aok
  have e0 := s_lostBy h.1 (a := a) (b := b) (by omega) (by omega)
  obtain ⟨S1, e1, L1, g1⟩ := o_flood h (w := -6) (a := a) (b := b) (Or.inl rfl) hab.1 hab.2
  obtain ⟨S2, e2, L2, g2⟩ := o_undo L1 mM_pos
  rw [mH_top h.1.m6] at L2
  have w1 := s_walking L1.1 (what := 1) (by omega)
  rw [walk_take ha hab, ← hr] at w1
  have p := s_print L2.1
  rw [← hu] at p
  have hp := prF_b A
  rw [← hu] at hp
  have hrwB : ∀ k, k < 300 → ∀ lo hi : Int, 0 ≤ rwB (RA A) lo hi k ∧ rwB (RA A) lo hi k ≤ 729 := fun k hk lo hi => by
    unfold rwB rwR
    rw [rv_in hk, rv_in hk, rv_in hk]
    have := mul3_b (ha.2.1 0 k (by omega) hk) (ha.2.1 1 k (by omega) hk) (ha.2.1 2 k (by omega) hk)
    split <;> omega
  have hlo : 0 ≤ lostF A a b ∧ lostF A a b ≤ 300000 := by
    unfold lostF
    rw [if_pos hab]
    have := sumk_b (m := 300) (fun k hk => hrwB k hk (if a < A 0 then A 0 else a) (if A 1 < b then A 1 else b))
    omega
  have hm := mM_pos (m := m)
  have hm6 := (mM_b h.1.m6).1
  have n0 := cnt_le (nT A (-6) a b 0) 300
  have n1 := cnt_le (nT A (-6) a b 1) 300
  have n2 := cnt_le (nT A (-6) a b 2) 300
  refine ⟨S2, ?_, L2.lx, g1.trans g2⟩
  clear hrwB
  simp (disch := omega) only [eL_comes_521, eL_comes_522, eL_comes_524, eL_comes_526, eL_comes_529, eL_comes_531, eL_comes_532, eL_comes_534, eL_comes_536, eL_comes_538, eL_comes_541, eL_comes_544, eL_comes_545, eL_comes_546, eL_comes_549, eL_comes_551, eL_comes_553, eL_comes_554, eL_comes_557, eL_comes_558, eL_comes_561, eL_comes_564, eL_comes_565, eL_comes_566, eL_comes_567, eL_comes_570, eL_comes_571, eL_comes_572, eL_comes_575, eL_comes_576, eL_comes_579, eL_comes_580, if_pos, if_neg, if_true, if_false, Option.bind_some, Option.toList_some, Option.toList_none, List.cons_append, List.nil_append, e0, e1, w1, e2, p]
end CO
end LAW14

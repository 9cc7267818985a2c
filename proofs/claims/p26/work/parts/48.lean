/-! the law's leap -/
section LAW8
variable {S S' : MM} {A A' : Nat → Int} {R : Nat → Nat → Int} {m : Nat} {H : Nat → Nat → Int} {K : Nat → Int} {V : Nat → Nat → Int} {P : Nat → Int} {n : Nat}
theorem leap_ne {k : Nat} (hA : StgR A) (h4 : k ≠ 4) (h5 : k ≠ 5) (hb : k < 925 ∨ 1225 ≤ k) : mLeap A R k = lpW A R k := mLook_ne h4 h5 hb (Or.inr (Or.inr (by rw [show mLeapW A (R (nxtW A).toNat) (nxtW A).toNat 1 = A 1 from lp_k (by omega)]; exact hA.2.1.2)))
theorem leap_20 {u : Nat} (hA : StgR A) (hu : u < 3) : mLeap A R (20 + u) = if u = (nxtW A).toNat then (lpK A R : Int) else A (20 + u) := (leap_ne hA (by omega) (by omega) (by omega)).trans (mLeapW_20 (by have := nxtW_b A; omega) hu)
theorem leap_8 (hA : StgR A) : mLeap A R (8 + (nxtW A).toNat) = A (8 + (nxtW A).toNat) + 1 := by
  have hn := nxtW_b A
  exact (leap_ne hA (by omega) (by omega) (by omega)).trans ((mLeapW_8 (by omega) (by omega)).trans (if_pos rfl))
theorem leap_11 (hA : StgR A) : mLeap A R (11 + (nxtW A).toNat) = A (11 + (nxtW A).toNat) + lks (A 2) (cnt (R (nxtW A).toNat) (A (20 + (nxtW A).toNat)).toNat) (cnt (R (nxtW A).toNat) 300) (cnt (R (nxtW A).toNat) (A 5).toNat) := by
  have hn := nxtW_b A
  exact (leap_ne hA (by omega) (by omega) (by omega)).trans ((mLeapW_11 (by omega) (by omega)).trans (if_pos rfl))
theorem leap_17 (hA : StgR A) : mLeap A R (17 + (nxtW A).toNat) = if (lpK A R : Int) < 300 ∧ A (17 + (nxtW A).toNat) < (lpK A R : Int) - A (20 + (nxtW A).toNat) then (lpK A R : Int) - A (20 + (nxtW A).toNat) else A (17 + (nxtW A).toNat) := by
  have hn := nxtW_b A
  exact (leap_ne hA (by omega) (by omega) (by omega)).trans ((mLeapW_17 (by omega) (by omega)).trans (if_pos rfl))
theorem leap_6 (hA : StgR A) : mLeap A R 6 = bhd (A 3) (nxtW A) 1 := by
  have hn := nxtW_b A
  rw [leap_ne hA (by omega) (by omega) (by omega)]
  show (if 6 = 6 then bhd (A 3) (((nxtW A).toNat : Nat) : Int) 1 else _) = _
  rw [if_pos rfl, Int.toNat_of_nonneg hn.1]
theorem leap_lo {k : Nat} (hA : StgR A) (hk : k < 4) : mLeap A R k = A k := (leap_ne hA (by omega) (by omega) (by omega)).trans (lp_k (by omega))
theorem sumk_up {M : Nat → Int} {j : Nat} {t : Int} (h0 : M j = 0) : ∀ m, sumk (up M j t) m = sumk M m + (if j < m then t else 0)
  | 0 => rfl
  | m + 1 => by
    rw [sumk, sumk, sumk_up h0 m, up_at]
    by_cases q : m = j
    · rw [if_pos q, if_neg (by omega), if_pos (by omega), q, h0]
      try omega
    · rw [if_neg q]
      by_cases q2 : j < m
      · rw [if_pos q2, if_pos (by omega)]
        omega
      · rw [if_neg q2, if_neg (by omega)]
        omega
section TAIL
variable {o g mt rows pl w i nn to lk lp was far due key f6 hi k0 k1 k2 r0 r1 r2 t : Int} {S1 : MM} {x15 x16 x17 : Option VV}
theorem l_leA (hb : (0 ≤ w ∧ w ≤ 2) ∧ (0 ≤ to ∧ to ≤ 40) ∧ (0 ≤ lp ∧ lp ≤ 1000) ∧ (0 ≤ lk ∧ lk ≤ 100000) ∧ (0 ≤ due ∧ due ≤ 1000) ∧ (0 ≤ t ∧ t ≤ 2) ∧ (0 ≤ pl ∧ pl ≤ 2)) (l1 : fX8_leap [vR 0] S = some (some (vI w), S1)) (g1 : fX8_ofWalker [vR 0, vI w, vI 1] S1 = some (some (vI to), S1)) (g3 : fX8_ofWalker [vR 0, vI w, vI 3] S1 = some (some (vI (lp + 1)), S1)) (g4 : fX8_ofWalker [vR 0, vI w, vI 4] S1 = some (some (vI (lk + due)), S1)) (r_2 : fX8_ofRun [vR 0, vI 2] S1 = some (some (vI t), S1)) (it : fL_inTurn [vI o, vI ((pl + 1) % 3)] S1 = some (some (vI t), S1)) : rn xL_leap (309, [some (vR 0), some (vI o), some (vI g), some (vI mt), some (vI rows), some (vI pl), some (vI w), some (vI i), some (vI nn), some (vI to), some (vI lk), some (vI lp), some (vI was), some (vI far), some (vI due), x15, x16, x17], [], S) = rn xL_leap (379, [some (vR 0), some (vI o), some (vI g), some (vI mt), some (vI rows), some (vI pl), some (vI w), some (vI i), some (vI nn), some (vI to), some (vI lk), some (vI lp), some (vI was), some (vI far), some (vI due), x15, x16, x17], [], S1) := by
  simp (disch := omega) only [eL_leap_309, eL_leap_310, eL_leap_313, eL_leap_315, eL_leap_318, eL_leap_319, eL_leap_321, eL_leap_322, eL_leap_325, eL_leap_327, eL_leap_330, eL_leap_331, eL_leap_333, eL_leap_334, eL_leap_337, eL_leap_339, eL_leap_340, eL_leap_341, eL_leap_344, eL_leap_345, eL_leap_347, eL_leap_348, eL_leap_351, eL_leap_353, eL_leap_355, eL_leap_356, eL_leap_359, eL_leap_360, eL_leap_361, eL_leap_364, eL_leap_365, eL_leap_367, eL_leap_368, eL_leap_369, eL_leap_370, eL_leap_371, eL_leap_374, eL_leap_377, eL_leap_378, if_pos, if_neg, if_true, if_false, Option.bind_some, Option.toList_some, Option.toList_none, List.cons_append, List.nil_append, l1, g1, g3, g4, r_2, it]
theorem l_leB (hb : (0 ≤ w ∧ w ≤ 2) ∧ (0 ≤ was ∧ was ≤ 300) ∧ (0 ≤ far ∧ far ≤ 300) ∧ (-6 ≤ key ∧ key ≤ 300) ∧ (0 ≤ f6 ∧ f6 ≤ 300)) (g2 : fX8_ofWalker [vR 0, vI w, vI 2] S1 = some (some (vI key), S1)) (g6 : fX8_ofWalker [vR 0, vI w, vI 6] S1 = some (some (vI f6), S1)) (h1 : 0 ≤ key → f6 = if far < key - was then key - was else far) (h2 : key < 0 → f6 = far ∧ fX8_ofRun [vR 0, vI 0] S1 = some (some (vI 1), S1)) : rn xL_leap (379, [some (vR 0), some (vI o), some (vI g), some (vI mt), some (vI rows), some (vI pl), some (vI w), some (vI i), some (vI nn), some (vI to), some (vI lk), some (vI lp), some (vI was), some (vI far), some (vI due), x15, x16, x17], [], S1) = rn xL_leap (453, [some (vR 0), some (vI o), some (vI g), some (vI mt), some (vI rows), some (vI pl), some (vI w), some (vI i), some (vI nn), some (vI to), some (vI lk), some (vI lp), some (vI was), some (vI far), some (vI due), some (vI key), x16, x17], [], S1) := by
  by_cases q : 0 ≤ key
  · have h1 := h1 q
    by_cases q1 : far < key - was
    · rw [if_pos q1] at h1
      simp (disch := omega) only [eL_leap_379, eL_leap_380, eL_leap_382, eL_leap_383, eL_leap_386, eL_leap_388, eL_leap_390, eL_leap_393, eL_leap_394, eL_leap_396, eL_leap_398, eL_leap_401, eL_leap_403, eL_leap_405, eL_leap_406, eL_leap_408, eL_leap_411, eL_leap_413, eL_leap_415, eL_leap_416, eL_leap_419, eL_leap_421, eL_leap_424, eL_leap_426, eL_leap_429, eL_leap_430, eL_leap_432, eL_leap_434, eL_leap_437, eL_leap_439, eL_leap_442, eL_leap_443, eL_leap_444, eL_leap_447, eL_leap_448, eL_leap_451, eL_leap_452, if_pos, if_neg, if_true, if_false, Option.bind_some, Option.toList_some, Option.toList_none, List.cons_append, List.nil_append, g2, g6]
    · rw [if_neg q1] at h1
      simp (disch := omega) only [eL_leap_379, eL_leap_380, eL_leap_382, eL_leap_383, eL_leap_386, eL_leap_388, eL_leap_390, eL_leap_393, eL_leap_394, eL_leap_396, eL_leap_398, eL_leap_401, eL_leap_403, eL_leap_405, eL_leap_406, eL_leap_408, eL_leap_411, eL_leap_413, eL_leap_415, eL_leap_416, eL_leap_419, eL_leap_421, eL_leap_424, eL_leap_426, eL_leap_429, eL_leap_430, eL_leap_432, eL_leap_434, eL_leap_437, eL_leap_439, eL_leap_442, eL_leap_443, eL_leap_444, eL_leap_447, eL_leap_448, eL_leap_451, eL_leap_452, if_pos, if_neg, if_true, if_false, Option.bind_some, Option.toList_some, Option.toList_none, List.cons_append, List.nil_append, g2, g6]
  · obtain ⟨h2, h3⟩ := h2 (by omega)
    simp (disch := omega) only [eL_leap_379, eL_leap_380, eL_leap_382, eL_leap_383, eL_leap_386, eL_leap_388, eL_leap_390, eL_leap_393, eL_leap_394, eL_leap_396, eL_leap_398, eL_leap_401, eL_leap_403, eL_leap_405, eL_leap_406, eL_leap_408, eL_leap_411, eL_leap_413, eL_leap_415, eL_leap_416, eL_leap_419, eL_leap_421, eL_leap_424, eL_leap_426, eL_leap_429, eL_leap_430, eL_leap_432, eL_leap_434, eL_leap_437, eL_leap_439, eL_leap_442, eL_leap_443, eL_leap_444, eL_leap_447, eL_leap_448, eL_leap_451, eL_leap_452, if_pos, if_neg, if_true, if_false, Option.bind_some, Option.toList_some, Option.toList_none, List.cons_append, List.nil_append, g2, g6, h3]
theorem l_leC (hb : (-6 ≤ key ∧ key ≤ 300) ∧ (0 ≤ hi ∧ hi ≤ 299) ∧ (0 ≤ g ∧ g ≤ 300) ∧ (0 ≤ mt ∧ mt ≤ 300)) (hk : key < 0 ∨ hi < key) (c3 : fX8_count [vR 0, vI 3] S1 = some (some (vI hi), S1)) (r_0 : fX8_ofRun [vR 0, vI 0] S1 = some (some (vI 1), S1)) (r_1 : fX8_ofRun [vR 0, vI 1] S1 = some (some (vI g), S1)) (r_3 : fX8_ofRun [vR 0, vI 3] S1 = some (some (vI mt), S1)) : rn xL_leap (453, [some (vR 0), some (vI o), some (vI g), some (vI mt), some (vI rows), some (vI pl), some (vI w), some (vI i), some (vI nn), some (vI to), some (vI lk), some (vI lp), some (vI was), some (vI far), some (vI due), some (vI key), x16, x17], [], S1) = some (some (vI 1), S1) := by
  by_cases q : key < 0
  · simp (disch := omega) only [eL_leap_453, eL_leap_455, eL_leap_458, eL_leap_460, eL_leap_461, eL_leap_462, eL_leap_465, eL_leap_468, eL_leap_469, eL_leap_470, eL_leap_473, eL_leap_474, eL_leap_477, eL_leap_478, eL_leap_479, eL_leap_482, eL_leap_483, eL_leap_486, eL_leap_487, eL_leap_488, eL_leap_491, eL_leap_492, eL_leap_495, eL_leap_496, eL_leap_499, eL_leap_500, if_pos, if_neg, if_true, if_false, Option.bind_some, Option.toList_some, Option.toList_none, List.cons_append, List.nil_append, c3, r_0, r_1, r_3]
  · simp (disch := omega) only [eL_leap_453, eL_leap_455, eL_leap_458, eL_leap_460, eL_leap_461, eL_leap_462, eL_leap_465, eL_leap_468, eL_leap_469, eL_leap_470, eL_leap_473, eL_leap_474, eL_leap_477, eL_leap_478, eL_leap_479, eL_leap_482, eL_leap_483, eL_leap_486, eL_leap_487, eL_leap_488, eL_leap_491, eL_leap_492, eL_leap_495, eL_leap_496, eL_leap_499, eL_leap_500, if_pos, if_neg, if_true, if_false, Option.bind_some, Option.toList_some, Option.toList_none, List.cons_append, List.nil_append, c3, r_0, r_1, r_3]
theorem l_leD2 (hb : (0 ≤ key ∧ key ≤ hi) ∧ (0 ≤ hi ∧ hi ≤ 299) ∧ (0 ≤ k0 ∧ k0 ≤ 300) ∧ (0 ≤ k1 ∧ k1 ≤ 300) ∧ (0 ≤ k2 ∧ k2 ≤ 300)) (c3 : fX8_count [vR 0, vI 3] S1 = some (some (vI hi), S1)) (w0 : fX8_ofWalker [vR 0, vI 0, vI 2] S1 = some (some (vI k0), S1)) (w1 : fX8_ofWalker [vR 0, vI 1, vI 2] S1 = some (some (vI k1), S1)) (w2 : fX8_ofWalker [vR 0, vI 2, vI 2] S1 = some (some (vI k2), S1)) (y0 : fL_repeats [vR 0, vI 0, vI key] S1 = some (some (vI r0), S1)) (y1 : fL_repeats [vR 0, vI 1, vI key] S1 = some (some (vI r1), S1)) (y2 : fL_repeats [vR 0, vI 2, vI key] S1 = some (some (vI r2), S1)) : rn xL_leap (453, [some (vR 0), some (vI o), some (vI g), some (vI mt), some (vI rows), some (vI pl), some (vI w), some (vI i), some (vI nn), some (vI to), some (vI lk), some (vI lp), some (vI was), some (vI far), some (vI due), some (vI key), x16, x17], [], S1) = rn xL_leap (566, [some (vR 0), some (vI o), some (vI g), some (vI mt), some (vI rows), some (vI pl), some (vI w), some (vI i), some (vI nn), some (vI to), some (vI lk), some (vI lp), some (vI was), some (vI far), some (vI due), some (vI key), some (vI (if k0 = key ∧ k1 = key ∧ k2 = key then 1 else 0)), some (vI (r0 * r1 * r2))], [], S1) := by
  by_cases q0 : k0 = key
  · by_cases q1 : k1 = key
    · by_cases q2 : k2 = key
      · rw [if_pos ⟨q0, q1, q2⟩]
        simp (disch := omega) only [eL_leap_453, eL_leap_455, eL_leap_458, eL_leap_460, eL_leap_461, eL_leap_462, eL_leap_465, eL_leap_468, eL_leap_469, eL_leap_470, eL_leap_473, eL_leap_474, eL_leap_477, eL_leap_478, eL_leap_479, eL_leap_482, eL_leap_483, eL_leap_486, eL_leap_487, eL_leap_488, eL_leap_491, eL_leap_492, eL_leap_495, eL_leap_496, eL_leap_499, eL_leap_500, eL_leap_501, eL_leap_502, eL_leap_503, eL_leap_504, eL_leap_507, eL_leap_509, eL_leap_512, eL_leap_513, eL_leap_514, eL_leap_515, eL_leap_518, eL_leap_520, eL_leap_523, eL_leap_524, eL_leap_525, eL_leap_526, eL_leap_529, eL_leap_531, eL_leap_534, eL_leap_535, eL_leap_538, eL_leap_539, eL_leap_541, eL_leap_542, eL_leap_543, eL_leap_545, eL_leap_548, eL_leap_549, eL_leap_550, eL_leap_552, eL_leap_555, eL_leap_556, eL_leap_557, eL_leap_558, eL_leap_560, eL_leap_563, eL_leap_564, if_pos, if_neg, if_true, if_false, Option.bind_some, Option.toList_some, Option.toList_none, List.cons_append, List.nil_append, c3, w0, w1, w2, y0, y1, y2]
      · rw [if_neg (fun z => q2 z.2.2)]
        simp (disch := omega) only [eL_leap_453, eL_leap_455, eL_leap_458, eL_leap_460, eL_leap_461, eL_leap_462, eL_leap_465, eL_leap_468, eL_leap_469, eL_leap_470, eL_leap_473, eL_leap_474, eL_leap_477, eL_leap_478, eL_leap_479, eL_leap_482, eL_leap_483, eL_leap_486, eL_leap_487, eL_leap_488, eL_leap_491, eL_leap_492, eL_leap_495, eL_leap_496, eL_leap_499, eL_leap_500, eL_leap_501, eL_leap_502, eL_leap_503, eL_leap_504, eL_leap_507, eL_leap_509, eL_leap_512, eL_leap_513, eL_leap_514, eL_leap_515, eL_leap_518, eL_leap_520, eL_leap_523, eL_leap_524, eL_leap_525, eL_leap_526, eL_leap_529, eL_leap_531, eL_leap_534, eL_leap_535, eL_leap_538, eL_leap_539, eL_leap_541, eL_leap_542, eL_leap_543, eL_leap_545, eL_leap_548, eL_leap_549, eL_leap_550, eL_leap_552, eL_leap_555, eL_leap_556, eL_leap_557, eL_leap_558, eL_leap_560, eL_leap_563, eL_leap_564, if_pos, if_neg, if_true, if_false, Option.bind_some, Option.toList_some, Option.toList_none, List.cons_append, List.nil_append, c3, w0, w1, w2, y0, y1, y2]
    · rw [if_neg (fun z => q1 z.2.1)]
      simp (disch := omega) only [eL_leap_453, eL_leap_455, eL_leap_458, eL_leap_460, eL_leap_461, eL_leap_462, eL_leap_465, eL_leap_468, eL_leap_469, eL_leap_470, eL_leap_473, eL_leap_474, eL_leap_477, eL_leap_478, eL_leap_479, eL_leap_482, eL_leap_483, eL_leap_486, eL_leap_487, eL_leap_488, eL_leap_491, eL_leap_492, eL_leap_495, eL_leap_496, eL_leap_499, eL_leap_500, eL_leap_501, eL_leap_502, eL_leap_503, eL_leap_504, eL_leap_507, eL_leap_509, eL_leap_512, eL_leap_513, eL_leap_514, eL_leap_515, eL_leap_518, eL_leap_520, eL_leap_523, eL_leap_524, eL_leap_525, eL_leap_526, eL_leap_529, eL_leap_531, eL_leap_534, eL_leap_535, eL_leap_538, eL_leap_539, eL_leap_541, eL_leap_542, eL_leap_543, eL_leap_545, eL_leap_548, eL_leap_549, eL_leap_550, eL_leap_552, eL_leap_555, eL_leap_556, eL_leap_557, eL_leap_558, eL_leap_560, eL_leap_563, eL_leap_564, if_pos, if_neg, if_true, if_false, Option.bind_some, Option.toList_some, Option.toList_none, List.cons_append, List.nil_append, c3, w0, w1, w2, y0, y1, y2]
  · rw [if_neg (fun z => q0 z.1)]
    simp (disch := omega) only [eL_leap_453, eL_leap_455, eL_leap_458, eL_leap_460, eL_leap_461, eL_leap_462, eL_leap_465, eL_leap_468, eL_leap_469, eL_leap_470, eL_leap_473, eL_leap_474, eL_leap_477, eL_leap_478, eL_leap_479, eL_leap_482, eL_leap_483, eL_leap_486, eL_leap_487, eL_leap_488, eL_leap_491, eL_leap_492, eL_leap_495, eL_leap_496, eL_leap_499, eL_leap_500, eL_leap_501, eL_leap_502, eL_leap_503, eL_leap_504, eL_leap_507, eL_leap_509, eL_leap_512, eL_leap_513, eL_leap_514, eL_leap_515, eL_leap_518, eL_leap_520, eL_leap_523, eL_leap_524, eL_leap_525, eL_leap_526, eL_leap_529, eL_leap_531, eL_leap_534, eL_leap_535, eL_leap_538, eL_leap_539, eL_leap_541, eL_leap_542, eL_leap_543, eL_leap_545, eL_leap_548, eL_leap_549, eL_leap_550, eL_leap_552, eL_leap_555, eL_leap_556, eL_leap_557, eL_leap_558, eL_leap_560, eL_leap_563, eL_leap_564, if_pos, if_neg, if_true, if_false, Option.bind_some, Option.toList_some, Option.toList_none, List.cons_append, List.nil_append, c3, w0, w1, w2, y0, y1, y2]
theorem l_leE (hb : (0 ≤ key ∧ key ≤ 300) ∧ (0 ≤ mt ∧ mt ≤ 300) ∧ (0 ≤ rows ∧ rows ≤ 500000) ∧ (0 ≤ t ∧ t ≤ 1000)) (r_0 : fX8_ofRun [vR 0, vI 0] S1 = some (some (vI 0), S1)) (r_1 : fX8_ofRun [vR 0, vI 1] S1 = some (some (vI (key + 1)), S1)) (r_3 : fX8_ofRun [vR 0, vI 3] S1 = some (some (vI (mt + 1)), S1)) (r_4 : fX8_ofRun [vR 0, vI 4] S1 = some (some (vI (rows + t)), S1)) (m0 : fX8_meeting [vR 0, vI mt, vI 0] S1 = some (some (vI key), S1)) (m1 : fX8_meeting [vR 0, vI mt, vI 1] S1 = some (some (vI t), S1)) : rn xL_leap (566, [some (vR 0), some (vI o), some (vI g), some (vI mt), some (vI rows), some (vI pl), some (vI w), some (vI i), some (vI nn), some (vI to), some (vI lk), some (vI lp), some (vI was), some (vI far), some (vI due), some (vI key), some (vI 1), some (vI t)], [], S1) = some (some (vI 1), S1) := by
  simp (disch := omega) only [eL_leap_566, eL_leap_568, eL_leap_571, eL_leap_572, eL_leap_573, eL_leap_576, eL_leap_579, eL_leap_580, eL_leap_581, eL_leap_584, eL_leap_586, eL_leap_587, eL_leap_588, eL_leap_591, eL_leap_592, eL_leap_593, eL_leap_596, eL_leap_597, eL_leap_598, eL_leap_599, eL_leap_602, eL_leap_603, eL_leap_604, eL_leap_607, eL_leap_609, eL_leap_611, eL_leap_612, eL_leap_615, eL_leap_616, eL_leap_617, eL_leap_618, eL_leap_621, eL_leap_623, eL_leap_626, eL_leap_627, eL_leap_628, eL_leap_629, eL_leap_632, eL_leap_634, eL_leap_637, eL_leap_638, eL_leap_641, eL_leap_642, eL_leap_643, eL_leap_644, eL_leap_645, eL_leap_648, eL_leap_651, eL_leap_652, eL_leap_653, eL_leap_656, eL_leap_658, eL_leap_659, eL_leap_662, eL_leap_664, eL_leap_667, eL_leap_668, eL_leap_671, eL_leap_672, eL_leap_673, eL_leap_676, eL_leap_677, eL_leap_680, eL_leap_681, eL_leap_682, eL_leap_685, eL_leap_687, eL_leap_690, eL_leap_691, eL_leap_694, eL_leap_695, if_pos, if_neg, if_true, if_false, Option.bind_some, Option.toList_some, Option.toList_none, List.cons_append, List.nil_append, r_0, r_1, r_3, r_4, m0, m1]
theorem l_leF (hb : (0 ≤ key ∧ key ≤ 300) ∧ (0 ≤ g ∧ g ≤ key) ∧ (0 ≤ mt ∧ mt ≤ 300) ∧ (0 ≤ rows ∧ rows ≤ 500000)) (r_0 : fX8_ofRun [vR 0, vI 0] S1 = some (some (vI 0), S1)) (r_1 : fX8_ofRun [vR 0, vI 1] S1 = some (some (vI key), S1)) (r_3 : fX8_ofRun [vR 0, vI 3] S1 = some (some (vI mt), S1)) (r_4 : fX8_ofRun [vR 0, vI 4] S1 = some (some (vI rows), S1)) : rn xL_leap (566, [some (vR 0), some (vI o), some (vI g), some (vI mt), some (vI rows), some (vI pl), some (vI w), some (vI i), some (vI nn), some (vI to), some (vI lk), some (vI lp), some (vI was), some (vI far), some (vI due), some (vI key), some (vI 0), some (vI t)], [], S1) = some (some (vI 1), S1) := by
  by_cases q : g < key
  · simp (disch := omega) only [eL_leap_566, eL_leap_568, eL_leap_571, eL_leap_572, eL_leap_573, eL_leap_576, eL_leap_579, eL_leap_580, eL_leap_581, eL_leap_584, eL_leap_586, eL_leap_587, eL_leap_588, eL_leap_591, eL_leap_592, eL_leap_593, eL_leap_596, eL_leap_597, eL_leap_598, eL_leap_599, eL_leap_602, eL_leap_603, eL_leap_604, eL_leap_607, eL_leap_609, eL_leap_611, eL_leap_612, eL_leap_615, eL_leap_616, eL_leap_617, eL_leap_618, eL_leap_621, eL_leap_623, eL_leap_626, eL_leap_627, eL_leap_628, eL_leap_629, eL_leap_632, eL_leap_634, eL_leap_637, eL_leap_638, eL_leap_641, eL_leap_642, eL_leap_643, eL_leap_644, eL_leap_645, eL_leap_648, eL_leap_651, eL_leap_652, eL_leap_653, eL_leap_656, eL_leap_658, eL_leap_659, eL_leap_662, eL_leap_664, eL_leap_667, eL_leap_668, eL_leap_671, eL_leap_672, eL_leap_673, eL_leap_676, eL_leap_677, eL_leap_680, eL_leap_681, eL_leap_682, eL_leap_685, eL_leap_687, eL_leap_690, eL_leap_691, eL_leap_694, eL_leap_695, if_pos, if_neg, if_true, if_false, Option.bind_some, Option.toList_some, Option.toList_none, List.cons_append, List.nil_append, r_0, r_1, r_3, r_4]
  · simp (disch := omega) only [eL_leap_566, eL_leap_568, eL_leap_571, eL_leap_572, eL_leap_573, eL_leap_576, eL_leap_579, eL_leap_580, eL_leap_581, eL_leap_584, eL_leap_586, eL_leap_587, eL_leap_588, eL_leap_591, eL_leap_592, eL_leap_593, eL_leap_596, eL_leap_597, eL_leap_598, eL_leap_599, eL_leap_602, eL_leap_603, eL_leap_604, eL_leap_607, eL_leap_609, eL_leap_611, eL_leap_612, eL_leap_615, eL_leap_616, eL_leap_617, eL_leap_618, eL_leap_621, eL_leap_623, eL_leap_626, eL_leap_627, eL_leap_628, eL_leap_629, eL_leap_632, eL_leap_634, eL_leap_637, eL_leap_638, eL_leap_641, eL_leap_642, eL_leap_643, eL_leap_644, eL_leap_645, eL_leap_648, eL_leap_651, eL_leap_652, eL_leap_653, eL_leap_656, eL_leap_658, eL_leap_659, eL_leap_662, eL_leap_664, eL_leap_667, eL_leap_668, eL_leap_671, eL_leap_672, eL_leap_673, eL_leap_676, eL_leap_677, eL_leap_680, eL_leap_681, eL_leap_682, eL_leap_685, eL_leap_687, eL_leap_690, eL_leap_691, eL_leap_694, eL_leap_695, if_pos, if_neg, if_true, if_false, Option.bind_some, Option.toList_some, Option.toList_none, List.cons_append, List.nil_append, r_0, r_1, r_3, r_4]
end TAIL
set_option maxHeartbeats 4000000 in
theorem t_leap (h : LWs S A m H K V P n) (h4 : A 4 = 1) : ∃ S', fL_leap [vR 0] S = some (some (vI 1), S') ∧ LWs S' (mLeap A (RA A)) (mM m) (mH m H A) K V P n ∧ fr S S' := by
  obtain ⟨hx, hI, -⟩ := id h
  obtain ⟨hA, hR, h40, h7, hr, hs⟩ := hx.aok
  obtain ⟨s0, s1, s2, s3⟩ := id hA
  have b5 := hr.1
  have b6 := hr.2.1
  have hn := nxtW_b A
  have hsh := nxtW_short hA hs h4
  obtain ⟨K1, K2, K3, K4⟩ := lpK_s (R := RA A) hA hr
  obtain ⟨S1, l1, L1, g1⟩ := o_leap h h4
  have hle := leap_eq (R := RA A) hA hr hI h4
  have hB := L1.1.aok
  have a8 := leap_8 (R := RA A) hA
  have a11 := leap_11 (R := RA A) hA
  have a17 := leap_17 (R := RA A) hA
  have a6 := leap_6 (R := RA A) hA
  have a20 := fun u hu => leap_20 (R := RA A) (u := u) hA hu
  have B4 : mLeap A (RA A) 4 ≠ 0 := by
    have := mLook_4 (A := lpW A (RA A)) (R := RA A)
    rw [show lpW A (RA A) 4 = A 4 from lp_k (by omega)] at this
    rw [show mLeap A (RA A) 4 = mLook (lpW A (RA A)) (RA A) 4 from rfl, this]
    split <;> omega
  have hz : ((nxtW A).toNat : Int) = nxtW A := Int.toNat_of_nonneg hn.1
  have hw : (nxtW A).toNat < 3 := by omega
  obtain ⟨pl, p1, p2, i1⟩ := l_le1 hx h4 (mt := (cnt (MetA A) 300 : Int)) (rows := sumk (MetA A) 300) (x6 := none) (x7 := none) (x8 := none) (x9 := none) (x10 := none) (x11 := none) (x12 := none) (x13 := none) (x14 := none) (x15 := none) (x16 := none) (x17 := none)
  have a6' : mLeap A (RA A) 6 = trn (A 3) ((pl + 1) % 3) := by
    rw [a6, ← p2]
    unfold bhd
    rw [plc_t s3 p1]
  generalize hwd : (nxtW A).toNat = w at *
  have st := ((hs.2.1 h4).1 w hw)
  have wb := hr.w hw
  have hc40 := h40 w hw
  have e0 := r_w hx (w := w) (k := 0) hw (by omega)
  rw [ofW_0 hw] at e0
  have e1 := r_w hx (w := w) (k := 1) hw (by omega)
  rw [ofW_1 hw (by omega)] at e1
  have e2 := r_w hx (w := w) (k := 2) hw (by omega)
  rw [ofW_2 hw (by omega), if_neg (by omega)] at e2
  have e3 := r_w hx (w := w) (k := 3) hw (by omega)
  rw [ofW_3 hw (by omega)] at e3
  have e4 := r_w hx (w := w) (k := 4) hw (by omega)
  rw [ofW_4 hw (by omega)] at e4
  have e6 := r_w hx (w := w) (k := 6) hw (by omega)
  rw [ofW_6 hw (by omega)] at e6
  have ef := s_from hx hw (key := A 5) (by omega)
  have c5 := r_c5 hx
  have f1 := r_run hx (k := 1) (by omega)
  rw [figR_1 (by omega)] at f1
  have f3 := r_run hx (k := 3) (by omega)
  rw [figR_3 (by omega)] at f3
  have f4 := r_run hx (k := 4) (by omega)
  rw [figR_4 (by omega)] at f4
  have hcM := cnt_le (MetA A) 300
  have hsm := sumk_b (f := MetA A) (c := 729) (m := 300) hr.2.2.1
  have hlt : cnt (RA A w) (A (20 + w)).toNat < cnt (RA A w) (A 5).toNat := cnt_lt (by omega) st.2.2
  have hm := cnt_mono (RA A w) (show (A 5).toNat ≤ 300 by omega)
  obtain ⟨y15, y16, y17, i2⟩ := l_leK (S := S) hx (o := A 3) (g := A 5) (mt := (cnt (MetA A) 300 : Int)) (rows := sumk (MetA A) 300) (pl := pl) (w := (w : Int)) (i := (cnt (RA A w) (A (20 + w)).toNat : Int)) (nn := (cnt (RA A w) 300 : Int)) (to := (cnt (RA A w) (A 5).toNat : Int)) (lk := A (11 + w)) (lp := A (8 + w)) (was := A (20 + w)) (far := A (17 + w)) (by omega) (by omega) (by omega) (x15 := none) (x16 := none) (x17 := none)
  have hlk := lks_b (A 2) (cnt (RA A w) (A (20 + w)).toNat : Int) (cnt (RA A w) 300) (cnt (RA A w) (A 5).toNat)
  have eRA : ∀ u k, u < 3 → k < 300 → RA (mLeap A (RA A)) u k = RA A u k := fun u k hu hk => leap_R hx.aok hu hk
  have eC : ∀ u k, u < 3 → k ≤ 300 → cnt (RA (mLeap A (RA A)) u) k = cnt (RA A u) k := fun u k hu hk => cnt_congr (fun j hj => by rw [eRA u j hu (by omega)])
  have gz := a20 w hw
  rw [if_pos rfl] at gz
  have eK : lpK A (RA A) = fst (RA A w) (A 5).toNat := by unfold lpK; rw [hwd]
  have g_1 := r_w L1.1 (w := w) (k := 1) hw (by omega)
  rw [ofW_1 hw B4, gz, Int.toNat_natCast, eC w _ hw K2, eK, cnt_fst _ (by omega)] at g_1
  have g_3 := r_w L1.1 (w := w) (k := 3) hw (by omega)
  rw [ofW_3 hw B4, a8] at g_3
  have g_4 := r_w L1.1 (w := w) (k := 4) hw (by omega)
  rw [ofW_4 hw B4, a11] at g_4
  have g_2 := r_w L1.1 (w := w) (k := 2) hw (by omega)
  rw [ofW_2 hw B4, gz] at g_2
  have g_6 := r_w L1.1 (w := w) (k := 6) hw (by omega)
  rw [ofW_6 hw B4, a17] at g_6
  have k_3 := r_c3 L1.1
  rw [leap_lo hA (by omega)] at k_3
  have r_0 := r_run L1.1 (k := 0) (by omega)
  rw [figR_0 B4] at r_0
  have r_1 := r_run L1.1 (k := 1) (by omega)
  rw [figR_1 B4] at r_1
  have r_2 := r_run L1.1 (k := 2) (by omega)
  rw [figR_2 B4, a6'] at r_2
  have r_3 := r_run L1.1 (k := 3) (by omega)
  rw [figR_3 B4] at r_3
  have r_4 := r_run L1.1 (k := 4) (by omega)
  rw [figR_4 B4] at r_4
  have t1 := trn_b (A 3) ((pl + 1) % 3)
  have wI : nxtW A = (w : Int) := hz.symm
  rw [wI] at p2 l1
  refine ⟨S1, ?_, L1, g1⟩
  rw [uL_leap]
  simp (disch := omega) only [eL_leap_0, eL_leap_1, eL_leap_2, eL_leap_5, eL_leap_6, eL_leap_7, eL_leap_8, eL_leap_11, eL_leap_12, eL_leap_13, eL_leap_14, eL_leap_17, eL_leap_18, eL_leap_19, eL_leap_20, eL_leap_23, eL_leap_25, eL_leap_26, if_pos, if_neg, if_true, if_false, Option.bind_some, Option.toList_some, Option.toList_none, List.cons_append, List.nil_append, c5, f1, f3, f4]
  rw [i1]
  simp (disch := omega) only [eL_leap_74, eL_leap_75, eL_leap_77, eL_leap_80, eL_leap_82, eL_leap_83, eL_leap_85, eL_leap_86, eL_leap_89, eL_leap_91, eL_leap_92, eL_leap_94, eL_leap_95, eL_leap_98, eL_leap_100, eL_leap_101, eL_leap_103, eL_leap_104, eL_leap_107, eL_leap_109, eL_leap_110, eL_leap_112, eL_leap_113, eL_leap_116, eL_leap_118, eL_leap_119, eL_leap_121, eL_leap_122, eL_leap_125, eL_leap_127, eL_leap_128, eL_leap_130, eL_leap_131, eL_leap_134, eL_leap_136, eL_leap_137, eL_leap_139, eL_leap_141, eL_leap_144, eL_leap_146, eL_leap_147, if_pos, if_neg, if_true, if_false, Option.bind_some, Option.toList_some, Option.toList_none, List.cons_append, List.nil_append, s_inTurn s3, p2, e0, e1, e2, e3, e4, e6, ef]
  rw [i2]
  have e4' : ∀ k, MetA (lpW A (RA A)) k = MetA A k := fun k => lp_k (by omega)
  have eMf : MetA (lpW A (RA A)) = MetA A := funext e4'
  rw [l_leA ⟨by omega, by omega, by omega, by omega, by omega, t1, p1⟩ l1 g_1 g_3 g_4 r_2 (s_inTurn s3 (by omega))]
  by_cases qo : A 1 < (lpK A (RA A) : Int)
  · rw [if_pos qo] at hle
    have v4 : mLeap A (RA A) 4 = 2 := by rw [hle, up_eq]
    have v5 : mLeap A (RA A) 5 = A 5 := by rw [hle, up_ne (by omega)]; exact lp_k (by omega)
    have vM : MetA (mLeap A (RA A)) = MetA A := by rw [hle, MetA_up (by omega), eMf]
    rw [v4] at r_0
    rw [v5] at r_1
    rw [vM] at r_3 r_4
    by_cases q3 : (lpK A (RA A) : Int) = 300
    · rw [if_pos q3] at g_2
      rw [if_neg (by omega)] at g_6
      rw [l_leB ⟨by omega, by omega, by omega, by omega, by omega⟩ g_2 g_6 (fun z => by omega) (fun _ => ⟨rfl, r_0⟩)]
      exact l_leC ⟨by omega, by omega, by omega, by omega⟩ (Or.inl (by omega)) k_3 r_0 r_1 r_3
    · rw [if_neg q3] at g_2
      have hf6 : (if (lpK A (RA A) : Int) < 300 ∧ A (17 + w) < (lpK A (RA A) : Int) - A (20 + w) then (lpK A (RA A) : Int) - A (20 + w) else A (17 + w)) = if A (17 + w) < (lpK A (RA A) : Int) - A (20 + w) then (lpK A (RA A) : Int) - A (20 + w) else A (17 + w) := by
        by_cases q6 : A (17 + w) < (lpK A (RA A) : Int) - A (20 + w)
        · rw [if_pos ⟨by omega, q6⟩, if_pos q6]
        · rw [if_neg (fun z => q6 z.2), if_neg q6]
      rw [hf6] at g_6
      rw [l_leB ⟨by omega, by omega, by omega, by omega, by split <;> omega⟩ g_2 g_6 (fun _ => rfl) (fun z => by omega)]
      exact l_leC ⟨by omega, by omega, by omega, by omega⟩ (Or.inr (by omega)) k_3 r_0 r_1 r_3
  · rw [if_neg qo] at hle
    have hK3 : lpK A (RA A) < 300 := by omega
    rw [if_neg (by omega)] at g_2
    have hf6 : (if (lpK A (RA A) : Int) < 300 ∧ A (17 + w) < (lpK A (RA A) : Int) - A (20 + w) then (lpK A (RA A) : Int) - A (20 + w) else A (17 + w)) = if A (17 + w) < (lpK A (RA A) : Int) - A (20 + w) then (lpK A (RA A) : Int) - A (20 + w) else A (17 + w) := by
      by_cases q6 : A (17 + w) < (lpK A (RA A) : Int) - A (20 + w)
      · rw [if_pos ⟨by omega, q6⟩, if_pos q6]
      · rw [if_neg (fun z => q6 z.2), if_neg q6]
    rw [hf6] at g_6
    rw [l_leB ⟨by omega, by omega, by omega, by omega, by split <;> omega⟩ g_2 g_6 (fun _ => rfl) (fun z => by omega)]
    have bw : ∀ u : Nat, u < 3 → 0 ≤ mLeap A (RA A) (20 + u) ∧ mLeap A (RA A) (20 + u) < 300 := fun u hu => by
      have := a20 u hu
      have hb := (hr.w hu).1
      have hst := ((hs.2.1 h4).1 u hu).1
      rw [this]
      split <;> omega
    have x2 : ∀ u : Nat, u < 3 → fX8_ofWalker [vR 0, vI (u : Int), vI 2] S1 = some (some (vI (mLeap A (RA A) (20 + u))), S1) := fun u hu => by
      have e := r_w L1.1 (w := u) (k := 2) hu (by omega)
      have := bw u hu
      rw [ofW_2 hu B4, if_neg (by omega)] at e
      exact e
    have x20 : fX8_ofWalker [vR 0, vI 0, vI 2] S1 = some (some (vI (mLeap A (RA A) 20)), S1) := x2 0 (by omega)
    have x21 : fX8_ofWalker [vR 0, vI 1, vI 2] S1 = some (some (vI (mLeap A (RA A) 21)), S1) := x2 1 (by omega)
    have x22 : fX8_ofWalker [vR 0, vI 2, vI 2] S1 = some (some (vI (mLeap A (RA A) 22)), S1) := x2 2 (by omega)
    have bw0 := bw 0 (by omega)
    have bw1 := bw 1 (by omega)
    have bw2 := bw 2 (by omega)
    simp only [Nat.add_zero, Nat.reduceAdd] at bw0 bw1 bw2
    have y2 : ∀ u : Nat, u < 3 → fL_repeats [vR 0, vI (u : Int), vI (lpK A (RA A) : Int)] S1 = some (some (vI (RA A u (lpK A (RA A)))), S1) := fun u hu => by
      have e := s_repeats L1.1 hu hK3
      rw [eRA u _ hu hK3] at e
      exact e
    have y20 : fL_repeats [vR 0, vI 0, vI (lpK A (RA A) : Int)] S1 = some (some (vI (RA A 0 (lpK A (RA A)))), S1) := y2 0 (by omega)
    have y21 : fL_repeats [vR 0, vI 1, vI (lpK A (RA A) : Int)] S1 = some (some (vI (RA A 1 (lpK A (RA A)))), S1) := y2 1 (by omega)
    have y22 : fL_repeats [vR 0, vI 2, vI (lpK A (RA A) : Int)] S1 = some (some (vI (RA A 2 (lpK A (RA A)))), S1) := y2 2 (by omega)
    have hm3 := mul3_b (hR 0 _ (by omega) hK3) (hR 1 _ (by omega) hK3) (hR 2 _ (by omega) hK3)
    have hrw : rwR (RA A) (lpK A (RA A) : Int) = RA A 0 (lpK A (RA A)) * RA A 1 (lpK A (RA A)) * RA A 2 (lpK A (RA A)) := by
      unfold rwR
      rw [rv_in hK3, rv_in hK3, rv_in hK3]
    have u4 : lpW A (RA A) 4 = A 4 := lp_k (by omega)
    have eW : ∀ u : Nat, u < 3 → lpW A (RA A) (20 + u) = mLeap A (RA A) (20 + u) := fun u hu => (leap_ne hA (by omega) (by omega) (by omega)).symm
    have eW0 := eW 0 (by omega)
    have eW1 := eW 1 (by omega)
    have eW2 := eW 2 (by omega)
    simp only [Nat.add_zero, Nat.reduceAdd] at eW0 eW1 eW2
    rw [eW0, eW1, eW2] at hle
    have hwK : mLeap A (RA A) 20 = (lpK A (RA A) : Int) ∨ mLeap A (RA A) 21 = (lpK A (RA A) : Int) ∨ mLeap A (RA A) 22 = (lpK A (RA A) : Int) := by
      rcases (show w = 0 ∨ w = 1 ∨ w = 2 by omega) with q | q | q
      · left
        rw [q] at gz
        exact gz
      · right
        left
        rw [q] at gz
        exact gz
      · right
        right
        rw [q] at gz
        exact gz
    rw [l_leD2 ⟨by omega, by omega, by omega, by omega, by omega⟩ k_3 x20 x21 x22 y20 y21 y22]
    generalize hgv : RA A 0 (lpK A (RA A)) * RA A 1 (lpK A (RA A)) * RA A 2 (lpK A (RA A)) = gv at hm3 hrw
    by_cases qm : mLeap A (RA A) 20 = mLeap A (RA A) 21 ∧ mLeap A (RA A) 20 = mLeap A (RA A) 22
    · rw [if_pos qm] at hle
      have v4 : mLeap A (RA A) 4 = 1 := by rw [hle, up_ne (by omega), up_ne (by omega), u4]; exact h4
      have v5 : mLeap A (RA A) 5 = (lpK A (RA A) : Int) + 1 := by rw [hle, up_eq]
      have vM : MetA (mLeap A (RA A)) = up (MetA A) (lpK A (RA A)) gv := by
        rw [hle, MetA_up (by omega), hrw]
        funext k
        show (if 925 + k = 925 + lpK A (RA A) then gv else lpW A (RA A) (925 + k)) = if k = lpK A (RA A) then gv else MetA A k
        by_cases q : k = lpK A (RA A)
        · rw [if_pos (by omega), if_pos q]
        · rw [if_neg (by omega), if_neg q]
          exact e4' k
      have hM0 : ¬ 0 < MetA A (lpK A (RA A)) := fun z => by have := hr.2.2.2.1 _ hK3 z; omega
      have hM1 : MetA A (lpK A (RA A)) = 0 := by have := hr.2.2.1 _ hK3; omega
      have hpos : 0 < gv := by
        rw [← hgv, mul3_pos (hR 0 _ (by omega) hK3).1 (hR 1 _ (by omega) hK3).1 (hR 2 _ (by omega) hK3).1]
        have hp : ∀ u : Nat, u < 3 → 0 < RA A u (lpK A (RA A)) := fun u hu => by
          have h1 := a20 u hu
          have h2 : mLeap A (RA A) (20 + u) = (lpK A (RA A) : Int) := by
            rcases (show u = 0 ∨ u = 1 ∨ u = 2 by omega) with q | q | q
            · rw [q]
              show mLeap A (RA A) 20 = _
              omega
            · rw [q]
              show mLeap A (RA A) 21 = _
              omega
            · rw [q]
              show mLeap A (RA A) 22 = _
              omega
          by_cases q : u = w
          · rw [q, ← hwd]
            rw [← hwd] at K4
            exact K4 hK3
          · rw [if_neg q, h2] at h1
            have := ((hs.2.1 h4).1 u hu).2.2
            rw [← h1, Int.toNat_natCast] at this
            exact this
        exact ⟨hp 0 (by omega), hp 1 (by omega), hp 2 (by omega)⟩
      have hcnt : cnt (MetA (mLeap A (RA A))) 300 = cnt (MetA A) 300 + 1 := by rw [vM, cnt_up0 hpos hM0, if_pos hK3]
      have hcK : cnt (MetA (mLeap A (RA A))) (lpK A (RA A)) = cnt (MetA A) 300 := by
        rw [vM, cnt_up0 hpos hM0, if_neg (by omega), Nat.add_zero]
        exact (cnt_skip (by omega) (fun j q1 q2 z => by have := hr.2.2.2.1 j q2 z; omega)).symm
      have hmp : 0 < MetA (mLeap A (RA A)) (lpK A (RA A)) := by rw [vM, up_eq]; exact hpos
      have hk := kth_u (r := MetA (mLeap A (RA A))) hK3 hmp hcK
      have m0 := s_meetingK L1.1 (j := cnt (MetA A) 300) (what := 0) (by omega) (by omega)
      have m1 := s_meetingK L1.1 (j := cnt (MetA A) 300) (what := 1) (by omega) (by omega)
      rw [hk] at m0 m1
      rw [show MetA (mLeap A (RA A)) (lpK A (RA A)) = gv by rw [vM, up_eq]] at m1
      rw [v4] at r_0
      rw [v5] at r_1
      rw [hcnt] at r_3
      rw [vM, sumk_up hM1, if_pos hK3] at r_4
      have w20 : mLeap A (RA A) 20 = (lpK A (RA A) : Int) := by omega
      have w21 : mLeap A (RA A) 21 = (lpK A (RA A) : Int) := by omega
      have w22 : mLeap A (RA A) 22 = (lpK A (RA A) : Int) := by omega
      rw [if_pos ⟨w20, w21, w22⟩]
      exact l_leE ⟨by omega, by omega, by omega, by omega⟩ r_0 r_1 r_3 r_4 m0 m1
    · rw [if_neg qm] at hle
      have v4 : mLeap A (RA A) 4 = 1 := by rw [hle, up_ne (by omega), u4]; exact h4
      have v5 : mLeap A (RA A) 5 = (lpK A (RA A) : Int) := by rw [hle, up_eq]
      have vM : MetA (mLeap A (RA A)) = MetA A := by rw [hle, MetA_up (by omega), eMf]
      rw [v4] at r_0
      rw [v5] at r_1
      rw [vM] at r_3 r_4
      rw [if_neg (fun z => qm (by omega))]
      exact l_leF ⟨by omega, by omega, by omega, by omega⟩ r_0 r_1 r_3 r_4
end LAW8

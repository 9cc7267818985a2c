/-! the law's acts: a run begins; all acts -/
section LAW12
variable {S S' : MM} {A A' : Nat → Int} {m : Nat} {H : Nat → Nat → Int} {K : Nat → Int} {V : Nat → Nat → Int} {P : Nat → Int} {n : Nat} {wd v x y key : Int} {w : Nat}
def bgK (A : Nat → Int) (u : Nat) : Int := (fst (RA A u) (A 0).toNat : Int)
def bgI (A : Nat → Int) (u : Nat) : Int := if bgK A u = 300 then -6 else bgK A u
theorem bgK_b (ha : AOk A) (u : Nat) : A 0 ≤ bgK A u ∧ bgK A u ≤ 300 := by
  have h0 := ha.1.1
  have f := fst_spec (RA A u) (k := (A 0).toNat) (by omega)
  unfold bgK
  omega
theorem beg_20 (ha : AOk A) {u : Nat} (hu : u < 3) : mBegin A (20 + u) = bgK A u := (mLook_20 (by rw [mBeg_k (by omega)]; exact ha.1.2.1.2) hu).trans (mBeg_w hu)
theorem beg_lo (ha : AOk A) {k : Nat} (hk : k < 4 ∨ (25 ≤ k ∧ k < 925)) : mBegin A k = A k := (mLook_ne (by omega) (by omega) (by omega) (Or.inr (Or.inr (by rw [mBeg_k (by omega)]; exact ha.1.2.1.2)))).trans (mBeg_k (by omega))
theorem beg_6 (ha : AOk A) : mBegin A 6 = trn (A 3) 0 := mLook_ne (by omega) (by omega) (by omega) (Or.inr (Or.inr (by rw [mBeg_k (by omega)]; exact ha.1.2.1.2)))
theorem l_acB (ha : AOk A) (h : XIs S (mBegin A) m H K V P n) (h4 : mBegin A 4 ≠ 0) {r ov most : Int} {u : Nat} (hu : u < 3) (hm : 0 ≤ most ∧ most ≤ 300) {x12 x13 : Option VV} : ∃ y12 y13, rn xL_act (439, [some (vR 0), some (vI wd), some (vI v), some (vI x), some (vI y), some (vI (w : Int)), some (vI key), some (vI r), some (vI ov), some (vI (A 0)), some (vI most), some (vI (u : Int)), x12, x13], [], S) = rn xL_act (439, [some (vR 0), some (vI wd), some (vI v), some (vI x), some (vI y), some (vI (w : Int)), some (vI key), some (vI r), some (vI (if A 1 < bgK A u then 1 else ov)), some (vI (A 0)), some (vI (if most < bgI A u then bgI A u else most)), some (vI ((u : Int) + 1)), y12, y13], [], S) := by
  have hb := bgK_b ha u
  obtain ⟨s0, s1, s2, s3⟩ := ha.1
  have c2 := kp_id (r_c2 h)
  rw [beg_lo ha (by omega)] at c2
  have c3 := kp_id (r_c3 h)
  rw [beg_lo ha (by omega)] at c3
  have eC : ∀ k, k ≤ 300 → cnt (RA (mBegin A) u) k = cnt (RA A u) k := fun k hk => cnt_congr (fun j hj => by rw [show RA (mBegin A) u j = RA A u j from beg_lo ha (by omega)])
  have ef := kp_id (s_from h hu (key := A 0) (by omega))
  rw [eC _ (by omega)] at ef
  have fs := fst_spec (RA A u) (k := (A 0).toNat) (by omega)
  have e1 := kp_id (r_w h (w := u) (k := 1) hu (by omega))
  rw [ofW_1 hu h4, beg_20 ha hu] at e1
  have ek : (bgK A u).toNat = fst (RA A u) (A 0).toNat := by unfold bgK; rw [Int.toNat_natCast]
  rw [ek, eC _ fs.2.1, cnt_fst _ (by omega)] at e1
  have hcm := cnt_mono (RA A u) (show (A 0).toNat ≤ 300 by omega)
  have hc40 := ha.2.2.1 u hu
  have e3 := kp_id (r_w h (w := u) (k := 3) hu (by omega))
  rw [ofW_3 hu h4, show mBegin A (8 + u) = 0 from beg_0 ha.1 (by omega)] at e3
  have e4 := kp_id (r_w h (w := u) (k := 4) hu (by omega))
  rw [ofW_4 hu h4, show mBegin A (11 + u) = 0 from beg_0 ha.1 (by omega)] at e4
  have e5 := kp_id (r_w h (w := u) (k := 5) hu (by omega))
  rw [ofW_5 hu h4, show mBegin A (14 + u) = 0 from beg_0 ha.1 (by omega)] at e5
  have e6 := kp_id (r_w h (w := u) (k := 6) hu (by omega))
  rw [ofW_6 hu h4, show mBegin A (17 + u) = 0 from beg_0 ha.1 (by omega)] at e6
  have e2 := kp_id (r_w h (w := u) (k := 2) hu (by omega))
  rw [ofW_2 hu h4, beg_20 ha hu] at e2
  have e2 : kp fX8_ofWalker [vR 0, vI (u : Int), vI 2] S = some (some (vI (bgI A u)), S) := e2
  refine ⟨some (vI (cnt (RA A u) (A 0).toNat)), some (vI (bgI A u)), ?_⟩
  clear fs ek eC
  by_cases q : bgK A u = 300
  · have qi : bgI A u = -6 := if_pos q
    rw [qi] at e2 ⊢
    rw [if_pos (show A 1 < bgK A u by omega), if_neg (show ¬ most < -6 by omega), eL_act_439]
    simp (disch := omega) only [eL_act_441, eL_act_442, eL_act_445, eL_act_446, eL_act_448, eL_act_449, eL_act_450, eL_act_453, eL_act_456, eL_act_458, eL_act_460, eL_act_461, eL_act_463, eL_act_464, eL_act_467, eL_act_470, eL_act_471, eL_act_473, eL_act_474, eL_act_477, eL_act_480, eL_act_481, eL_act_483, eL_act_484, eL_act_487, eL_act_490, eL_act_491, eL_act_493, eL_act_494, eL_act_497, eL_act_500, eL_act_501, eL_act_503, eL_act_505, eL_act_508, eL_act_511, eL_act_512, eL_act_513, eL_act_514, eL_act_516, eL_act_517, eL_act_520, eL_act_522, eL_act_524, eL_act_527, eL_act_529, eL_act_530, eL_act_531, eL_act_534, eL_act_537, eL_act_538, eL_act_540, eL_act_542, eL_act_544, eL_act_547, eL_act_549, eL_act_551, eL_act_554, if_pos, if_neg, if_true, if_false, Option.bind_some, Option.toList_some, Option.toList_none, List.cons_append, List.nil_append, c2, c3, ef, e1, e2, e3, e4, e5, e6]
  · have qi : bgI A u = bgK A u := if_neg q
    rw [qi] at e2 ⊢
    by_cases q1 : A 1 < bgK A u
    · rw [if_pos q1]
      by_cases q2 : most < bgK A u
      · rw [if_pos q2, eL_act_439]
        simp (disch := omega) only [eL_act_441, eL_act_442, eL_act_445, eL_act_446, eL_act_448, eL_act_449, eL_act_450, eL_act_453, eL_act_456, eL_act_458, eL_act_460, eL_act_461, eL_act_463, eL_act_464, eL_act_467, eL_act_470, eL_act_471, eL_act_473, eL_act_474, eL_act_477, eL_act_480, eL_act_481, eL_act_483, eL_act_484, eL_act_487, eL_act_490, eL_act_491, eL_act_493, eL_act_494, eL_act_497, eL_act_500, eL_act_501, eL_act_503, eL_act_505, eL_act_508, eL_act_511, eL_act_512, eL_act_513, eL_act_514, eL_act_516, eL_act_517, eL_act_520, eL_act_522, eL_act_524, eL_act_527, eL_act_529, eL_act_530, eL_act_531, eL_act_534, eL_act_537, eL_act_538, eL_act_540, eL_act_542, eL_act_544, eL_act_547, eL_act_549, eL_act_551, eL_act_554, if_pos, if_neg, if_true, if_false, Option.bind_some, Option.toList_some, Option.toList_none, List.cons_append, List.nil_append, c2, c3, ef, e1, e2, e3, e4, e5, e6]
      · rw [if_neg q2, eL_act_439]
        simp (disch := omega) only [eL_act_441, eL_act_442, eL_act_445, eL_act_446, eL_act_448, eL_act_449, eL_act_450, eL_act_453, eL_act_456, eL_act_458, eL_act_460, eL_act_461, eL_act_463, eL_act_464, eL_act_467, eL_act_470, eL_act_471, eL_act_473, eL_act_474, eL_act_477, eL_act_480, eL_act_481, eL_act_483, eL_act_484, eL_act_487, eL_act_490, eL_act_491, eL_act_493, eL_act_494, eL_act_497, eL_act_500, eL_act_501, eL_act_503, eL_act_505, eL_act_508, eL_act_511, eL_act_512, eL_act_513, eL_act_514, eL_act_516, eL_act_517, eL_act_520, eL_act_522, eL_act_524, eL_act_527, eL_act_529, eL_act_530, eL_act_531, eL_act_534, eL_act_537, eL_act_538, eL_act_540, eL_act_542, eL_act_544, eL_act_547, eL_act_549, eL_act_551, eL_act_554, if_pos, if_neg, if_true, if_false, Option.bind_some, Option.toList_some, Option.toList_none, List.cons_append, List.nil_append, c2, c3, ef, e1, e2, e3, e4, e5, e6]
    · rw [if_neg q1]
      by_cases q2 : most < bgK A u
      · rw [if_pos q2, eL_act_439]
        simp (disch := omega) only [eL_act_441, eL_act_442, eL_act_445, eL_act_446, eL_act_448, eL_act_449, eL_act_450, eL_act_453, eL_act_456, eL_act_458, eL_act_460, eL_act_461, eL_act_463, eL_act_464, eL_act_467, eL_act_470, eL_act_471, eL_act_473, eL_act_474, eL_act_477, eL_act_480, eL_act_481, eL_act_483, eL_act_484, eL_act_487, eL_act_490, eL_act_491, eL_act_493, eL_act_494, eL_act_497, eL_act_500, eL_act_501, eL_act_503, eL_act_505, eL_act_508, eL_act_511, eL_act_512, eL_act_513, eL_act_514, eL_act_516, eL_act_517, eL_act_520, eL_act_522, eL_act_524, eL_act_527, eL_act_529, eL_act_530, eL_act_531, eL_act_534, eL_act_537, eL_act_538, eL_act_540, eL_act_542, eL_act_544, eL_act_547, eL_act_549, eL_act_551, eL_act_554, if_pos, if_neg, if_true, if_false, Option.bind_some, Option.toList_some, Option.toList_none, List.cons_append, List.nil_append, c2, c3, ef, e1, e2, e3, e4, e5, e6]
      · rw [if_neg q2, eL_act_439]
        simp (disch := omega) only [eL_act_441, eL_act_442, eL_act_445, eL_act_446, eL_act_448, eL_act_449, eL_act_450, eL_act_453, eL_act_456, eL_act_458, eL_act_460, eL_act_461, eL_act_463, eL_act_464, eL_act_467, eL_act_470, eL_act_471, eL_act_473, eL_act_474, eL_act_477, eL_act_480, eL_act_481, eL_act_483, eL_act_484, eL_act_487, eL_act_490, eL_act_491, eL_act_493, eL_act_494, eL_act_497, eL_act_500, eL_act_501, eL_act_503, eL_act_505, eL_act_508, eL_act_511, eL_act_512, eL_act_513, eL_act_514, eL_act_516, eL_act_517, eL_act_520, eL_act_522, eL_act_524, eL_act_527, eL_act_529, eL_act_530, eL_act_531, eL_act_534, eL_act_537, eL_act_538, eL_act_540, eL_act_542, eL_act_544, eL_act_547, eL_act_549, eL_act_551, eL_act_554, if_pos, if_neg, if_true, if_false, Option.bind_some, Option.toList_some, Option.toList_none, List.cons_append, List.nil_append, c2, c3, ef, e1, e2, e3, e4, e5, e6]
theorem l_acC {r ov g most i0 i1 i2 o t mt : Int} {x11 x12 x13 : Option VV} (hr : r = 0 ∨ r = 1) (ho : ov = r) (hb : (0 ≤ g ∧ g ≤ 300) ∧ (0 ≤ most ∧ most ≤ 300) ∧ (-6 ≤ i0 ∧ i0 ≤ 300) ∧ (-6 ≤ i1 ∧ i1 ≤ 300) ∧ (-6 ≤ i2 ∧ i2 ≤ 300) ∧ (0 ≤ t ∧ t ≤ 2) ∧ (0 ≤ mt ∧ mt ≤ 300)) (w0 : kp fX8_ofWalker [vR 0, vI 0, vI 2] S = some (some (vI i0), S)) (w1 : kp fX8_ofWalker [vR 0, vI 1, vI 2] S = some (some (vI i1), S)) (w2 : kp fX8_ofWalker [vR 0, vI 2, vI 2] S = some (some (vI i2), S)) (f0 : kp fX8_ofRun [vR 0, vI 0] S = some (some (vI r), S)) (f1 : kp fX8_ofRun [vR 0, vI 1] S = some (some (vI (if r = 1 then g else if i0 = i1 ∧ i1 = i2 then most + 1 else if g < most then most else g)), S)) (f2 : kp fX8_ofRun [vR 0, vI 2] S = some (some (vI t), S)) (c5 : kp fX8_count [vR 0, vI 5] S = some (some (vI o), S)) (it : kp fL_inTurn [vI o, vI 0] S = some (some (vI t), S)) (f3 : kp fX8_ofRun [vR 0, vI 3] S = some (some (vI mt), S)) (hmt : mt = if r = 0 ∧ i0 = i1 ∧ i1 = i2 then 1 else 0) : rn xL_act (557, [some (vR 0), some (vI wd), some (vI v), some (vI x), some (vI y), some (vI (w : Int)), some (vI key), some (vI r), some (vI ov), some (vI g), some (vI most), x11, x12, x13], [], S) = some (some (vI 1), S) := by
  subst ho
  by_cases q : i0 = i1 ∧ i1 = i2
  · obtain ⟨q1, q2⟩ := q
    subst q1
    subst q2
    rcases hr with hr | hr
    · subst hr
      rw [if_neg (by decide), if_pos ⟨rfl, rfl⟩] at f1
      rw [if_pos ⟨rfl, rfl, rfl⟩] at hmt
      subst hmt
      simp (disch := omega) only [eL_act_557, eL_act_558, eL_act_559, eL_act_560, eL_act_563, eL_act_564, eL_act_565, eL_act_566, eL_act_569, eL_act_572, eL_act_573, eL_act_574, eL_act_575, eL_act_578, eL_act_579, eL_act_580, eL_act_581, eL_act_584, eL_act_587, eL_act_588, eL_act_591, eL_act_592, eL_act_594, eL_act_596, eL_act_599, eL_act_601, eL_act_604, eL_act_606, eL_act_607, eL_act_608, eL_act_611, eL_act_613, eL_act_615, eL_act_618, eL_act_620, eL_act_623, eL_act_625, eL_act_627, eL_act_629, eL_act_631, eL_act_634, eL_act_635, eL_act_638, eL_act_639, eL_act_642, eL_act_643, eL_act_644, eL_act_647, eL_act_649, eL_act_652, eL_act_653, eL_act_654, eL_act_657, eL_act_659, eL_act_662, eL_act_663, eL_act_664, eL_act_667, eL_act_668, eL_act_669, eL_act_672, eL_act_673, eL_act_676, eL_act_679, eL_act_680, eL_act_681, eL_act_684, eL_act_686, eL_act_689, eL_act_691, eL_act_694, eL_act_695, eL_act_698, eL_act_699, eL_act_702, eL_act_703, eL_act_706, eL_act_707, if_pos, if_neg, if_true, if_false, Option.bind_some, Option.toList_some, Option.toList_none, List.cons_append, List.nil_append, w0, w1, w2, f0, f1, f2, c5, it, f3]
    · subst hr
      rw [if_pos rfl] at f1
      rw [if_neg (by omega)] at hmt
      subst hmt
      simp (disch := omega) only [eL_act_557, eL_act_558, eL_act_559, eL_act_560, eL_act_563, eL_act_564, eL_act_565, eL_act_566, eL_act_569, eL_act_572, eL_act_573, eL_act_574, eL_act_575, eL_act_578, eL_act_579, eL_act_580, eL_act_581, eL_act_584, eL_act_587, eL_act_588, eL_act_591, eL_act_592, eL_act_594, eL_act_596, eL_act_599, eL_act_601, eL_act_604, eL_act_606, eL_act_607, eL_act_608, eL_act_611, eL_act_613, eL_act_615, eL_act_618, eL_act_620, eL_act_623, eL_act_625, eL_act_627, eL_act_629, eL_act_631, eL_act_634, eL_act_635, eL_act_638, eL_act_639, eL_act_642, eL_act_643, eL_act_644, eL_act_647, eL_act_649, eL_act_652, eL_act_653, eL_act_654, eL_act_657, eL_act_659, eL_act_662, eL_act_663, eL_act_664, eL_act_667, eL_act_668, eL_act_669, eL_act_672, eL_act_673, eL_act_676, eL_act_679, eL_act_680, eL_act_681, eL_act_684, eL_act_686, eL_act_689, eL_act_691, eL_act_694, eL_act_695, eL_act_698, eL_act_699, eL_act_702, eL_act_703, eL_act_706, eL_act_707, if_pos, if_neg, if_true, if_false, Option.bind_some, Option.toList_some, Option.toList_none, List.cons_append, List.nil_append, w0, w1, w2, f0, f1, f2, c5, it, f3]
  · have hmt : mt = 0 := by rw [hmt, if_neg (fun z => q z.2)]
    subst hmt
    rw [if_neg (c := i0 = i1 ∧ i1 = i2) q] at f1
    rcases hr with hr | hr
    · subst hr
      rw [if_neg (by decide)] at f1
      by_cases q3 : g < most
      · rw [if_pos q3] at f1
        by_cases q1 : i0 = i1
        · have q2 : ¬ i1 = i2 := fun z => q ⟨q1, z⟩
          simp (disch := omega) only [eL_act_557, eL_act_558, eL_act_559, eL_act_560, eL_act_563, eL_act_564, eL_act_565, eL_act_566, eL_act_569, eL_act_572, eL_act_573, eL_act_574, eL_act_575, eL_act_578, eL_act_579, eL_act_580, eL_act_581, eL_act_584, eL_act_587, eL_act_588, eL_act_591, eL_act_592, eL_act_594, eL_act_596, eL_act_599, eL_act_601, eL_act_604, eL_act_606, eL_act_607, eL_act_608, eL_act_611, eL_act_613, eL_act_615, eL_act_618, eL_act_620, eL_act_623, eL_act_625, eL_act_627, eL_act_629, eL_act_631, eL_act_634, eL_act_635, eL_act_638, eL_act_639, eL_act_642, eL_act_643, eL_act_644, eL_act_647, eL_act_649, eL_act_652, eL_act_653, eL_act_654, eL_act_657, eL_act_659, eL_act_662, eL_act_663, eL_act_664, eL_act_667, eL_act_668, eL_act_669, eL_act_672, eL_act_673, eL_act_676, eL_act_679, eL_act_680, eL_act_681, eL_act_684, eL_act_686, eL_act_689, eL_act_691, eL_act_694, eL_act_695, eL_act_698, eL_act_699, eL_act_702, eL_act_703, eL_act_706, eL_act_707, if_pos, if_neg, if_true, if_false, Option.bind_some, Option.toList_some, Option.toList_none, List.cons_append, List.nil_append, w0, w1, w2, f0, f1, f2, c5, it, f3]
        · simp (disch := omega) only [eL_act_557, eL_act_558, eL_act_559, eL_act_560, eL_act_563, eL_act_564, eL_act_565, eL_act_566, eL_act_569, eL_act_572, eL_act_573, eL_act_574, eL_act_575, eL_act_578, eL_act_579, eL_act_580, eL_act_581, eL_act_584, eL_act_587, eL_act_588, eL_act_591, eL_act_592, eL_act_594, eL_act_596, eL_act_599, eL_act_601, eL_act_604, eL_act_606, eL_act_607, eL_act_608, eL_act_611, eL_act_613, eL_act_615, eL_act_618, eL_act_620, eL_act_623, eL_act_625, eL_act_627, eL_act_629, eL_act_631, eL_act_634, eL_act_635, eL_act_638, eL_act_639, eL_act_642, eL_act_643, eL_act_644, eL_act_647, eL_act_649, eL_act_652, eL_act_653, eL_act_654, eL_act_657, eL_act_659, eL_act_662, eL_act_663, eL_act_664, eL_act_667, eL_act_668, eL_act_669, eL_act_672, eL_act_673, eL_act_676, eL_act_679, eL_act_680, eL_act_681, eL_act_684, eL_act_686, eL_act_689, eL_act_691, eL_act_694, eL_act_695, eL_act_698, eL_act_699, eL_act_702, eL_act_703, eL_act_706, eL_act_707, if_pos, if_neg, if_true, if_false, Option.bind_some, Option.toList_some, Option.toList_none, List.cons_append, List.nil_append, w0, w1, w2, f0, f1, f2, c5, it, f3]
      · rw [if_neg q3] at f1
        by_cases q1 : i0 = i1
        · have q2 : ¬ i1 = i2 := fun z => q ⟨q1, z⟩
          simp (disch := omega) only [eL_act_557, eL_act_558, eL_act_559, eL_act_560, eL_act_563, eL_act_564, eL_act_565, eL_act_566, eL_act_569, eL_act_572, eL_act_573, eL_act_574, eL_act_575, eL_act_578, eL_act_579, eL_act_580, eL_act_581, eL_act_584, eL_act_587, eL_act_588, eL_act_591, eL_act_592, eL_act_594, eL_act_596, eL_act_599, eL_act_601, eL_act_604, eL_act_606, eL_act_607, eL_act_608, eL_act_611, eL_act_613, eL_act_615, eL_act_618, eL_act_620, eL_act_623, eL_act_625, eL_act_627, eL_act_629, eL_act_631, eL_act_634, eL_act_635, eL_act_638, eL_act_639, eL_act_642, eL_act_643, eL_act_644, eL_act_647, eL_act_649, eL_act_652, eL_act_653, eL_act_654, eL_act_657, eL_act_659, eL_act_662, eL_act_663, eL_act_664, eL_act_667, eL_act_668, eL_act_669, eL_act_672, eL_act_673, eL_act_676, eL_act_679, eL_act_680, eL_act_681, eL_act_684, eL_act_686, eL_act_689, eL_act_691, eL_act_694, eL_act_695, eL_act_698, eL_act_699, eL_act_702, eL_act_703, eL_act_706, eL_act_707, if_pos, if_neg, if_true, if_false, Option.bind_some, Option.toList_some, Option.toList_none, List.cons_append, List.nil_append, w0, w1, w2, f0, f1, f2, c5, it, f3]
        · simp (disch := omega) only [eL_act_557, eL_act_558, eL_act_559, eL_act_560, eL_act_563, eL_act_564, eL_act_565, eL_act_566, eL_act_569, eL_act_572, eL_act_573, eL_act_574, eL_act_575, eL_act_578, eL_act_579, eL_act_580, eL_act_581, eL_act_584, eL_act_587, eL_act_588, eL_act_591, eL_act_592, eL_act_594, eL_act_596, eL_act_599, eL_act_601, eL_act_604, eL_act_606, eL_act_607, eL_act_608, eL_act_611, eL_act_613, eL_act_615, eL_act_618, eL_act_620, eL_act_623, eL_act_625, eL_act_627, eL_act_629, eL_act_631, eL_act_634, eL_act_635, eL_act_638, eL_act_639, eL_act_642, eL_act_643, eL_act_644, eL_act_647, eL_act_649, eL_act_652, eL_act_653, eL_act_654, eL_act_657, eL_act_659, eL_act_662, eL_act_663, eL_act_664, eL_act_667, eL_act_668, eL_act_669, eL_act_672, eL_act_673, eL_act_676, eL_act_679, eL_act_680, eL_act_681, eL_act_684, eL_act_686, eL_act_689, eL_act_691, eL_act_694, eL_act_695, eL_act_698, eL_act_699, eL_act_702, eL_act_703, eL_act_706, eL_act_707, if_pos, if_neg, if_true, if_false, Option.bind_some, Option.toList_some, Option.toList_none, List.cons_append, List.nil_append, w0, w1, w2, f0, f1, f2, c5, it, f3]
    · subst hr
      rw [if_pos rfl] at f1
      by_cases q1 : i0 = i1
      · have q2 : ¬ i1 = i2 := fun z => q ⟨q1, z⟩
        simp (disch := omega) only [eL_act_557, eL_act_558, eL_act_559, eL_act_560, eL_act_563, eL_act_564, eL_act_565, eL_act_566, eL_act_569, eL_act_572, eL_act_573, eL_act_574, eL_act_575, eL_act_578, eL_act_579, eL_act_580, eL_act_581, eL_act_584, eL_act_587, eL_act_588, eL_act_591, eL_act_592, eL_act_594, eL_act_596, eL_act_599, eL_act_601, eL_act_604, eL_act_606, eL_act_607, eL_act_608, eL_act_611, eL_act_613, eL_act_615, eL_act_618, eL_act_620, eL_act_623, eL_act_625, eL_act_627, eL_act_629, eL_act_631, eL_act_634, eL_act_635, eL_act_638, eL_act_639, eL_act_642, eL_act_643, eL_act_644, eL_act_647, eL_act_649, eL_act_652, eL_act_653, eL_act_654, eL_act_657, eL_act_659, eL_act_662, eL_act_663, eL_act_664, eL_act_667, eL_act_668, eL_act_669, eL_act_672, eL_act_673, eL_act_676, eL_act_679, eL_act_680, eL_act_681, eL_act_684, eL_act_686, eL_act_689, eL_act_691, eL_act_694, eL_act_695, eL_act_698, eL_act_699, eL_act_702, eL_act_703, eL_act_706, eL_act_707, if_pos, if_neg, if_true, if_false, Option.bind_some, Option.toList_some, Option.toList_none, List.cons_append, List.nil_append, w0, w1, w2, f0, f1, f2, c5, it, f3]
      · simp (disch := omega) only [eL_act_557, eL_act_558, eL_act_559, eL_act_560, eL_act_563, eL_act_564, eL_act_565, eL_act_566, eL_act_569, eL_act_572, eL_act_573, eL_act_574, eL_act_575, eL_act_578, eL_act_579, eL_act_580, eL_act_581, eL_act_584, eL_act_587, eL_act_588, eL_act_591, eL_act_592, eL_act_594, eL_act_596, eL_act_599, eL_act_601, eL_act_604, eL_act_606, eL_act_607, eL_act_608, eL_act_611, eL_act_613, eL_act_615, eL_act_618, eL_act_620, eL_act_623, eL_act_625, eL_act_627, eL_act_629, eL_act_631, eL_act_634, eL_act_635, eL_act_638, eL_act_639, eL_act_642, eL_act_643, eL_act_644, eL_act_647, eL_act_649, eL_act_652, eL_act_653, eL_act_654, eL_act_657, eL_act_659, eL_act_662, eL_act_663, eL_act_664, eL_act_667, eL_act_668, eL_act_669, eL_act_672, eL_act_673, eL_act_676, eL_act_679, eL_act_680, eL_act_681, eL_act_684, eL_act_686, eL_act_689, eL_act_691, eL_act_694, eL_act_695, eL_act_698, eL_act_699, eL_act_702, eL_act_703, eL_act_706, eL_act_707, if_pos, if_neg, if_true, if_false, Option.bind_some, Option.toList_some, Option.toList_none, List.cons_append, List.nil_append, w0, w1, w2, f0, f1, f2, c5, it, f3]
theorem a_begin (h : LWs S A m H K V P n) (hw : w < 3) (hk : 0 ≤ key ∧ key ≤ 299) (hx : -2147483648 ≤ x ∧ x ≤ 2147483647) (hy : -2147483648 ≤ y ∧ y ≤ 2147483647) : ∃ (S' : MM) (A' : Nat → Int), rn xL_act (417, [some (vR 0), some (vI wd), some (vI v), some (vI x), some (vI y), some (vI (w : Int)), some (vI key), none, none, none, none, none, none, none], [], S) = some (some (vI 1), S') ∧ LX S' A' K V ∧ gf S S' := by
  have ha := h.1.aok
  obtain ⟨s0, s1, s2, s3⟩ := ha.1
  obtain ⟨S1, e1, L1, g1⟩ := o_begin h
  have e1 := kfr e1 g1
  have hbe := beg_eq (R := RA A) ha.1 ha.2.1
  have hb := beg_ok (R := RA A) ha.1 ha.2.1
  have b4 := hb.2.1.1
  have n4 : mBegin A 4 ≠ 0 := (beg_cv (R := RA A) ha.1 ha.2.1).2.2
  have b40 : 0 ≤ mBegin A 4 ∧ mBegin A 4 ≤ 2 := b4
  have k0 := bgK_b ha 0
  have k1 := bgK_b ha 1
  have k2 := bgK_b ha 2
  have c2 := kp_id (r_c2 L1.1)
  rw [beg_lo ha (by omega)] at c2
  have c5 := kp_id (r_c5 L1.1)
  rw [beg_lo ha (by omega)] at c5
  have e20 : mBeg A (RA A) 20 = bgK A 0 := mBeg_w (w := 0) (by omega)
  have e21 : mBeg A (RA A) 21 = bgK A 1 := mBeg_w (w := 1) (by omega)
  have e22 : mBeg A (RA A) 22 = bgK A 2 := mBeg_w (w := 2) (by omega)
  rw [e20, e21, e22] at hbe
  have gs := gr3_s (bgK A 0) (bgK A 1) (bgK A 2)
  have w' : ∀ u : Nat, u < 3 → kp fX8_ofWalker [vR 0, vI (u : Int), vI 2] S1 = some (some (vI (bgI A u)), S1) := fun u hu => by
    have e := kp_id (r_w L1.1 (w := u) (k := 2) hu (by omega))
    rw [ofW_2 hu n4, beg_20 ha hu] at e
    exact e
  have w0 : kp fX8_ofWalker [vR 0, vI 0, vI 2] S1 = some (some (vI (bgI A 0)), S1) := w' 0 (by omega)
  have w1 : kp fX8_ofWalker [vR 0, vI 1, vI 2] S1 = some (some (vI (bgI A 1)), S1) := w' 1 (by omega)
  have w2 : kp fX8_ofWalker [vR 0, vI 2, vI 2] S1 = some (some (vI (bgI A 2)), S1) := w' 2 (by omega)
  have ib : ∀ u : Nat, -6 ≤ bgI A u ∧ bgI A u ≤ 300 ∧ (bgK A u ≤ 299 → bgI A u = bgK A u) := fun u => by
    have := bgK_b ha u
    unfold bgI
    split <;> omega
  have ib0 := ib 0
  have ib1 := ib 1
  have ib2 := ib 2
  have f0 := kp_id (r_run L1.1 (k := 0) (by omega))
  rw [figR_0 n4] at f0
  have f1 := kp_id (r_run L1.1 (k := 1) (by omega))
  rw [figR_1 n4] at f1
  have f2 := kp_id (r_run L1.1 (k := 2) (by omega))
  rw [figR_2 n4, beg_6 ha] at f2
  have f3 := kp_id (r_run L1.1 (k := 3) (by omega))
  rw [figR_3 n4] at f3
  have it := kp_id (s_inTurn (S := S1) (o := A 3) (p := 0) s3 (by omega))
  have t0 := trn_b (A 3) 0
  have hcM := cnt_le (MetA (mBegin A)) 300
  obtain ⟨p12, p13, i0⟩ := l_acB (wd := wd) (v := v) (x := x) (y := y) (w := w) (key := key) ha L1.1 n4 (r := mBegin A 4 - 1) (ov := 0) (most := 0) (u := 0) (by omega) (by omega) (x12 := none) (x13 := none)
  have mb0 : 0 ≤ (if (0 : Int) < bgI A 0 then bgI A 0 else 0) ∧ (if (0 : Int) < bgI A 0 then bgI A 0 else 0) ≤ 300 := by split <;> omega
  obtain ⟨q12, q13, i1⟩ := l_acB (wd := wd) (v := v) (x := x) (y := y) (w := w) (key := key) ha L1.1 n4 (r := mBegin A 4 - 1) (ov := if A 1 < bgK A 0 then 1 else 0) (most := if (0 : Int) < bgI A 0 then bgI A 0 else 0) (u := 1) (by omega) mb0 (x12 := p12) (x13 := p13)
  have mb1 : 0 ≤ (if (if (0 : Int) < bgI A 0 then bgI A 0 else 0) < bgI A 1 then bgI A 1 else (if (0 : Int) < bgI A 0 then bgI A 0 else 0)) ∧ (if (if (0 : Int) < bgI A 0 then bgI A 0 else 0) < bgI A 1 then bgI A 1 else (if (0 : Int) < bgI A 0 then bgI A 0 else 0)) ≤ 300 := by split <;> omega
  obtain ⟨r12, r13, i2⟩ := l_acB (wd := wd) (v := v) (x := x) (y := y) (w := w) (key := key) ha L1.1 n4 (r := mBegin A 4 - 1) (ov := if A 1 < bgK A 1 then 1 else if A 1 < bgK A 0 then 1 else 0) (most := if (if (0 : Int) < bgI A 0 then bgI A 0 else 0) < bgI A 1 then bgI A 1 else (if (0 : Int) < bgI A 0 then bgI A 0 else 0)) (u := 2) (by omega) mb1 (x12 := q12) (x13 := q13)
  obtain ⟨ov, hov⟩ : ∃ ov : Int, ov = (if A 1 < bgK A 2 then 1 else if A 1 < bgK A 1 then 1 else if A 1 < bgK A 0 then 1 else 0) := ⟨_, rfl⟩
  obtain ⟨most, hmost⟩ : ∃ most : Int, most = (if (if (if (0 : Int) < bgI A 0 then bgI A 0 else 0) < bgI A 1 then bgI A 1 else (if (0 : Int) < bgI A 0 then bgI A 0 else 0)) < bgI A 2 then bgI A 2 else (if (if (0 : Int) < bgI A 0 then bgI A 0 else 0) < bgI A 1 then bgI A 1 else (if (0 : Int) < bgI A 0 then bgI A 0 else 0))) := ⟨_, rfl⟩
  rw [← hov, ← hmost] at i2
  have mostb : 0 ≤ most ∧ most ≤ 300 := by rw [hmost]; split <;> omega
  have hst : rn xL_act (417, [some (vR 0), some (vI wd), some (vI v), some (vI x), some (vI y), some (vI (w : Int)), some (vI key), none, none, none, none, none, none, none], [], S) = rn xL_act (557, [some (vR 0), some (vI wd), some (vI v), some (vI x), some (vI y), some (vI (w : Int)), some (vI key), some (vI (mBegin A 4 - 1)), some (vI ov), some (vI (A 0)), some (vI most), some (vI 3), r12, r13], [], S1) := by
    have i0 : rn xL_act (439, [some (vR 0), some (vI wd), some (vI v), some (vI x), some (vI y), some (vI (w : Int)), some (vI key), some (vI (mBegin A 4 - 1)), some (vI 0), some (vI (A 0)), some (vI 0), some (vI 0), none, none], [], S1) = _ := i0
    have i1 : rn xL_act (439, [some (vR 0), some (vI wd), some (vI v), some (vI x), some (vI y), some (vI (w : Int)), some (vI key), some (vI (mBegin A 4 - 1)), some (vI (if A 1 < bgK A 0 then 1 else 0)), some (vI (A 0)), some (vI (if (0 : Int) < bgI A 0 then bgI A 0 else 0)), some (vI (((0 : Nat) : Int) + 1)), p12, p13], [], S1) = _ := i1
    have i2 : rn xL_act (439, [some (vR 0), some (vI wd), some (vI v), some (vI x), some (vI y), some (vI (w : Int)), some (vI key), some (vI (mBegin A 4 - 1)), some (vI (if A 1 < bgK A 1 then 1 else if A 1 < bgK A 0 then 1 else 0)), some (vI (A 0)), some (vI (if (if (0 : Int) < bgI A 0 then bgI A 0 else 0) < bgI A 1 then bgI A 1 else (if (0 : Int) < bgI A 0 then bgI A 0 else 0))), some (vI (((1 : Nat) : Int) + 1)), q12, q13], [], S1) = _ := i2
    have er : (if mBegin A 4 = 2 then (1 : Int) else 0) = mBegin A 4 - 1 := by split <;> omega
    rw [er] at e1
    simp (disch := omega) only [eL_act_417, eL_act_418, eL_act_421, eL_act_423, eL_act_424, eL_act_426, eL_act_427, eL_act_428, eL_act_431, eL_act_433, eL_act_434, eL_act_436, eL_act_437, if_pos, if_neg, if_true, if_false, Option.bind_some, Option.toList_some, Option.toList_none, List.cons_append, List.nil_append, e1, c2]
    rw [i0, i1, i2, show (((2 : Nat) : Int) + 1) = 3 from rfl, eL_act_439]
    simp (disch := omega) only [eL_act_441, eL_act_442, if_pos, if_neg, if_true, if_false, Option.bind_some, Option.toList_some, Option.toList_none, List.cons_append, List.nil_append]
  refine ⟨S1, _, ?_, L1.lx, g1.gf⟩
  rw [hst]
  clear hst i0 i1 i2
  have hm4 : mBegin A 4 = mLook (mBeg A (RA A)) (RA A) 4 := rfl
  have hm5 : mBegin A 5 = mLook (mBeg A (RA A)) (RA A) 5 := rfl
  have v5 : mBeg A (RA A) 5 = A 0 := rfl
  have v4 : mBeg A (RA A) 4 = 1 := rfl
  by_cases q : A 1 < gr3 (bgK A 0) (bgK A 1) (bgK A 2)
  · rw [if_pos q] at hbe
    have w4 : mBegin A 4 = 2 := by rw [hm4, hbe, up_eq]
    have w5 : mBegin A 5 = A 0 := by rw [hm5, hbe, up_ne (by omega), v5]
    have wM : ∀ k, k < 300 → MetA (mBegin A) k = 0 := fun k hk => by
      show MetA (mLook (mBeg A (RA A)) (RA A)) k = 0
      rw [hbe, MetA_up (by omega), mBeg_M hk]
    rw [w4] at f0 ⊢
    rw [w5] at f1
    rw [cnt_zero wM] at f3
    have ho1 : ov = 1 := by
      rw [hov]
      rcases gs.2.2.2 with z | z | z
      · split
        · rfl
        split
        · rfl
        · rw [if_pos (by omega)]
      · split
        · rfl
        · rw [if_pos (by omega)]
      · rw [if_pos (by omega)]
    refine l_acC (r := 2 - 1) (Or.inr rfl) ho1 ⟨by omega, mostb, by omega, by omega, by omega, t0, ?_⟩ w0 w1 w2 f0 ?_ f2 c5 it f3 ?_
    · omega
    · rw [if_pos (show (2 : Int) - 1 = 1 from rfl)]
      exact f1
    · rw [if_neg (by omega)]
      rfl
  · rw [if_neg q] at hbe
    have ho0 : ov = 0 := by
      rw [hov, if_neg (by omega), if_neg (by omega), if_neg (by omega)]
    have hmg : most = gr3 (bgK A 0) (bgK A 1) (bgK A 2) := by
      rw [ib0.2.2 (by omega), ib1.2.2 (by omega), ib2.2.2 (by omega)] at hmost
      rw [hmost]
      split
      · omega
      split
      · omega
      split
      · omega
      · omega
    by_cases q2 : bgK A 0 = bgK A 1 ∧ bgK A 0 = bgK A 2
    · rw [if_pos q2] at hbe
      have w4 : mBegin A 4 = 1 := by rw [hm4, hbe, up_ne (by omega), up_ne (by omega), v4]
      have w5 : mBegin A 5 = bgK A 0 + 1 := by rw [hm5, hbe, up_eq]
      have hK : (bgK A 0).toNat < 300 := by omega
      have hpos : 0 < rwR (RA A) (bgK A 0) := by
        have hon := onS_beg (A := A) (R := RA A) ha.1
        have := onS_rw hon (RunR_beg ha.1) (by rw [e20, e21, e22]; exact q2) (by rw [e20]; omega)
        rw [e20] at this
        exact this
      have wM : MetA (mBegin A) = up (MetA (mBeg A (RA A))) (bgK A 0).toNat (rwR (RA A) (bgK A 0)) := by
        show MetA (mLook (mBeg A (RA A)) (RA A)) = _
        rw [hbe, MetA_up (by omega)]
        funext k
        show (if 925 + k = 925 + (bgK A 0).toNat then rwR (RA A) (bgK A 0) else mBeg A (RA A) (925 + k)) = if k = (bgK A 0).toNat then rwR (RA A) (bgK A 0) else mBeg A (RA A) (925 + k)
        by_cases z : k = (bgK A 0).toNat
        · rw [if_pos (by omega), if_pos z]
        · rw [if_neg (by omega), if_neg z]
      have wz : MetA (mBeg A (RA A)) (bgK A 0).toNat = 0 := mBeg_M hK
      rw [w4] at f0 ⊢
      rw [w5] at f1
      rw [wM, cnt_up0 hpos (by omega), cnt_zero (fun k hk => mBeg_M hk), if_pos hK] at f3
      refine l_acC (r := 1 - 1) (Or.inl rfl) ho0 ⟨by omega, mostb, by omega, by omega, by omega, t0, ?_⟩ w0 w1 w2 f0 ?_ f2 c5 it f3 ?_
      · omega
      · rw [if_neg (show ¬ (1 : Int) - 1 = 1 by decide), if_pos (by rw [ib0.2.2 (by omega), ib1.2.2 (by omega), ib2.2.2 (by omega)]; omega)]
        rw [show most + 1 = bgK A 0 + 1 by omega]
        exact f1
      · rw [if_pos (by rw [ib0.2.2 (by omega), ib1.2.2 (by omega), ib2.2.2 (by omega)]; omega)]
        rfl
    · rw [if_neg q2] at hbe
      have w4 : mBegin A 4 = 1 := by rw [hm4, hbe, up_ne (by omega), v4]
      have w5 : mBegin A 5 = gr3 (bgK A 0) (bgK A 1) (bgK A 2) := by rw [hm5, hbe, up_eq]
      have wM : ∀ k, k < 300 → MetA (mBegin A) k = 0 := fun k hk => by
        show MetA (mLook (mBeg A (RA A)) (RA A)) k = 0
        rw [hbe, MetA_up (by omega), mBeg_M hk]
      rw [w4] at f0 ⊢
      rw [w5] at f1
      rw [cnt_zero wM] at f3
      have qi : ¬ (bgI A 0 = bgI A 1 ∧ bgI A 1 = bgI A 2) := by
        rw [ib0.2.2 (by omega), ib1.2.2 (by omega), ib2.2.2 (by omega)]
        omega
      refine l_acC (r := 1 - 1) (Or.inl rfl) ho0 ⟨by omega, mostb, by omega, by omega, by omega, t0, ?_⟩ w0 w1 w2 f0 ?_ f2 c5 it f3 ?_
      · omega
      · rw [if_neg (show ¬ (1 : Int) - 1 = 1 by decide), if_neg qi]
        rw [show (if A 0 < most then most else A 0) = gr3 (bgK A 0) (bgK A 1) (bgK A 2) by split <;> omega]
        exact f1
      · rw [if_neg (fun z => qi z.2)]
        rfl
/-- an act of any kind -/
theorem t_act {wd v x y : Int} (hwd : wd = 40 ∨ wd = 300) (h : LWs S A m H K V P n) (h3 : S 604 3 = 0) (hv : -2147483648 ≤ v ∧ v ≤ 2147483647) (hx : -2147483648 ≤ x ∧ x ≤ 2147483647) (hy : -2147483648 ≤ y ∧ y ≤ 2147483647) : ∃ (S' : MM) (A' : Nat → Int), fL_act [vR 0, vI wd, vI v, vI x, vI y] S = some (some (vI 1), S') ∧ LX S' A' K V ∧ gf S S' := by
  have hw : (x % 2147483648 % 3).toNat < 3 := by omega
  have hz : ((x % 2147483648 % 3).toNat : Int) = x % 2147483648 % 3 := by omega
  have hb : 0 ≤ x / 4 % 2147483648 % wd ∧ x / 4 % 2147483648 % wd < wd := ⟨Int.emod_nonneg _ (by omega), Int.emod_lt_of_pos _ (by omega)⟩
  have hk : 0 ≤ x / 4 % 2147483648 % wd ∧ x / 4 % 2147483648 % wd ≤ 299 := by omega
  have hp : rn xL_act (0, [some (vR 0), some (vI wd), some (vI v), some (vI x), some (vI y), none, none, none, none, none, none, none, none, none], [], S) = rn xL_act (22, [some (vR 0), some (vI wd), some (vI v), some (vI x), some (vI y), some (vI ((x % 2147483648 % 3).toNat : Int)), some (vI (x / 4 % 2147483648 % wd)), none, none, none, none, none, none, none], [vI (v % 2147483648 % 16)], S) := by
    rw [hz]
    simp (disch := omega) only [eL_act_0, eL_act_1, eL_act_2, eL_act_5, eL_act_7, eL_act_8, eL_act_9, eL_act_10, eL_act_11, eL_act_14, eL_act_16, eL_act_17, eL_act_19, if_pos, if_neg, if_true, if_false, Option.bind_some, Option.toList_some, Option.toList_none, List.cons_append, List.nil_append, k_up]
  rw [uL_act, hp]
  generalize hwn : (x % 2147483648 % 3).toNat = w at hw
  generalize hkn : x / 4 % 2147483648 % wd = key at hk
  have hs : 0 ≤ v % 2147483648 % 16 ∧ v % 2147483648 % 16 ≤ 15 := by omega
  generalize v % 2147483648 % 16 = s at hs
  rcases (show (s = 0 ∨ s = 1 ∨ s = 2 ∨ s = 3) ∨ (s = 4 ∨ s = 5) ∨ s = 6 ∨ s = 7 ∨ (s = 8 ∨ s = 9 ∨ s = 10 ∨ s = 11) ∨ s = 12 ∨ s = 13 ∨ (s = 14 ∨ s = 15) by omega) with q | q | q | q | q | q | q | q
  · obtain ⟨S1, A1, i1, L1, g1⟩ := a_stone (wd := wd) (v := v) h hw hk hx hy
    refine ⟨S1, A1, ?_, L1, g1⟩
    rw [← i1]
    rcases q with q | q | q | q <;> (subst q; simp (disch := omega) only [eL_act_22, if_pos, if_neg, if_true, if_false, Option.bind_some, Option.toList_some, Option.toList_none, List.cons_append, List.nil_append])
  · obtain ⟨S1, A1, i1, L1, g1⟩ := a_flood (wd := wd) (v := v) h hw hk hx hy h3
    refine ⟨S1, A1, ?_, L1, g1⟩
    rw [← i1]
    rcases q with q | q <;> (subst q; simp (disch := omega) only [eL_act_22, if_pos, if_neg, if_true, if_false, Option.bind_some, Option.toList_some, Option.toList_none, List.cons_append, List.nil_append])
  · obtain ⟨S1, A1, i1, L1, g1⟩ := a_dry (wd := wd) (v := v) h hw hk hx hy
    refine ⟨S1, A1, ?_, L1, g1⟩
    rw [← i1]
    subst q
    simp (disch := omega) only [eL_act_22, if_pos, if_neg, if_true, if_false, Option.bind_some, Option.toList_some, Option.toList_none, List.cons_append, List.nil_append]
  · obtain ⟨S1, A1, i1, L1, g1⟩ := a_begin (wd := wd) (v := v) h hw hk hx hy
    refine ⟨S1, A1, ?_, L1, g1⟩
    rw [← i1]
    subst q
    simp (disch := omega) only [eL_act_22, if_pos, if_neg, if_true, if_false, Option.bind_some, Option.toList_some, Option.toList_none, List.cons_append, List.nil_append]
  · obtain ⟨S1, A1, i1, L1, g1⟩ := a_leap (wd := wd) (v := v) h hw hk hx hy
    refine ⟨S1, A1, ?_, L1, g1⟩
    rw [← i1]
    rcases q with q | q | q | q <;> (subst q; simp (disch := omega) only [eL_act_22, if_pos, if_neg, if_true, if_false, Option.bind_some, Option.toList_some, Option.toList_none, List.cons_append, List.nil_append])
  · obtain ⟨S1, A1, i1, L1, g1⟩ := a_run (wd := wd) (v := v) h hw hk hx hy
    refine ⟨S1, A1, ?_, L1, g1⟩
    rw [← i1]
    subst q
    simp (disch := omega) only [eL_act_22, if_pos, if_neg, if_true, if_false, Option.bind_some, Option.toList_some, Option.toList_none, List.cons_append, List.nil_append]
  · obtain ⟨S1, A1, i1, L1, g1⟩ := a_set (wd := wd) (v := v) h hw hk hx hy
    refine ⟨S1, A1, ?_, L1, g1⟩
    rw [← i1]
    subst q
    simp (disch := omega) only [eL_act_22, if_pos, if_neg, if_true, if_false, Option.bind_some, Option.toList_some, Option.toList_none, List.cons_append, List.nil_append]
  · obtain ⟨S1, A1, i1, L1, g1⟩ := a_text (wd := wd) (v := v) h hw hk hx hy
    refine ⟨S1, A1, ?_, L1, g1⟩
    rw [← i1]
    rcases q with q | q <;> (subst q; simp (disch := omega) only [eL_act_22, if_pos, if_neg, if_true, if_false, Option.bind_some, Option.toList_some, Option.toList_none, List.cons_append, List.nil_append])
end LAW12

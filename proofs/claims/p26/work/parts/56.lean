/-! the law's way back -/
section LAW16
variable {S S' : MM} {A A' : Nat → Int} {m : Nat} {H : Nat → Nat → Int} {K : Nat → Int} {V : Nat → Nat → Int} {P : Nat → Int} {n : Nat}
theorem o_save {i : Nat} (h : LWs S A m H K V P n) (hi : i < 2) : ∃ S', fX8_save [vR 0, vI (i : Int)] S = some (some (vI (sumR A)), S') ∧ LWs S' A m H (up K i 1) (fun j => if j = i then A else V j) P n ∧ fr S S' := by
  obtain ⟨S', e, x, f⟩ := s_save h.1 hi
  exact ⟨S', e, ⟨x, h.2⟩, f⟩
theorem o_restore {i : Nat} (h : LWs S A m H K V P n) (hi : i < 2) (hk : K i = 1) (hv : Iv (V i)) : ∃ S', fX8_restore [vR 0, vI (i : Int)] S = some (some (vI (sumR (V i))), S') ∧ LWs S' (V i) (mM m) (mH m H A) K V P n ∧ fr S S' := by
  obtain ⟨S', e, x, f⟩ := s_restore h.1 hi hk
  exact ⟨S', e, h.push x hv, f⟩
theorem sumR_b (ha : AOk A) : 0 ≤ sumR A ∧ sumR A ≤ 120 := by
  have c0 := ha.2.2.1 0 (by omega)
  have c1 := ha.2.2.1 1 (by omega)
  have c2 := ha.2.2.1 2 (by omega)
  unfold sumR
  omega
section BK
variable {v all : Int} {u : Nat}
theorem l_bkU {done : Int} (hd : 0 ≤ done ∧ done ≤ 6) : ∀ (j : Nat) (k : Int) (S : MM) (X : Nat → Int) (m : Nat), k + j = done → 0 ≤ k → LWs S X m H K V P n → HT m H X A j → ∃ (S' : MM) (m' : Nat), rn xL_back (82, [some (vR 0), some (vI v), some (vJ u), none, some (vI all), some (vI done), some (vI k)], [], S) = rn xL_back (104, [some (vR 0), some (vI v), some (vJ u), none, some (vI all), some (vI done), some (vI done)], [], S') ∧ LWs S' A m' H K V P n ∧ fr S S' := by
  intro j
  induction j with
  | zero =>
    intro k S X m h1 h2 h3 h4
    obtain rfl : X = A := h4.2.1 rfl
    obtain rfl : k = done := by omega
    refine ⟨S, m, ?_, h3, fr.refl⟩
    rw [eL_back_82]
    simp (disch := omega) only [eL_back_84, eL_back_86, eL_back_89, eL_back_90, eL_back_93, eL_back_96, eL_back_97, eL_back_98, eL_back_101, if_pos, if_neg, if_true, if_false, Option.bind_some, Option.toList_some, Option.toList_none, List.cons_append, List.nil_append]
  | succ j ih =>
    intro k S X m h1 h2 h3 h4
    have hm := h4.1
    have h6 := h3.1.m6
    obtain ⟨S1, e1, L1, g1⟩ := o_undo h3 (by omega)
    obtain ⟨S2, m', i2, L2, g2⟩ := ih (k + 1) S1 (H (m - 1)) (m - 1) (by omega) (by omega) L1 h4.pop
    refine ⟨S2, m', ?_, L2, g1.trans g2⟩
    rw [← i2, eL_back_82]
    simp (disch := omega) only [eL_back_84, eL_back_86, eL_back_89, eL_back_90, eL_back_93, eL_back_96, eL_back_97, eL_back_98, eL_back_101, if_pos, if_neg, if_true, if_false, Option.bind_some, Option.toList_some, Option.toList_none, List.cons_append, List.nil_append, e1]
theorem l_bkT {done : Int} {i : Nat} {X : Nat → Int} {j : Nat} {x6 : Option VV} (hx6 : x6 = none) (hi : i < 2) (hq : v % 2147483648 % 2 = (i : Int)) (hd : 0 ≤ done ∧ done ≤ 6) (hj : (j : Int) = done) (hall : all = sumR A) (hu : u = prF A) (hAv : Iv A) (hV : V i = A) (hK : K i = 1) (hK1 : K (1 - i) = 0) (h : LWs S X m H K V P n) (ht : HT m H X A j) : ∃ S' A', rn xL_back (79, [some (vR 0), some (vI v), some (vJ u), none, some (vI all), some (vI done), x6], [], S) = some (some (vI 1), S') ∧ LX S' A' K V ∧ fr S S' := by
  subst hx6
  obtain ⟨S1, m1, i1, L1, g1⟩ := l_bkU (v := v) (all := all) (u := u) hd j 0 S X m (by omega) (by omega) h ht
  have ha := L1.1.aok
  have sb := sumR_b ha
  have p1 := s_print L1.1
  obtain ⟨S2, e2, L2, g2⟩ := o_flood L1 (w := -6) (a := 0) (b := 299) (Or.inl rfl) (by omega) (by omega)
  obtain ⟨S3, e3, L3, g3⟩ := o_restore L2 hi hK (by rw [hV]; exact hAv)
  rw [hV] at e3 L3
  have p3 := s_print L3.1
  have e4 := s_restoreN L3.1 (i := 1 - i) (by omega) hK1
  rw [show ((1 - i : Nat) : Int) = 1 - (i : Int) by omega] at e4
  have pb := prF_b A
  rw [← hu] at p1 p3 pb
  rw [← hall] at e3 sb
  refine ⟨S3, A, ?_, L3.lx, (g1.trans g2).trans g3⟩
  simp (disch := omega) only [eL_back_79, eL_back_80, if_pos, if_neg, if_true, if_false, Option.bind_some, Option.toList_some, Option.toList_none, List.cons_append, List.nil_append]
  rw [i1]
  clear i1 hall hu
  have hup := s_up (S := S2) (a := v) (b := 2) (by decide)
  have hup3 := s_up (S := S3) (a := v) (b := 2) (by decide)
  rw [hq] at hup hup3
  simp (disch := omega) only [eL_back_104, eL_back_105, eL_back_108, eL_back_109, eL_back_110, eL_back_113, eL_back_114, eL_back_115, eL_back_116, eL_back_118, eL_back_119, eL_back_122, eL_back_125, eL_back_126, eL_back_127, eL_back_128, eL_back_129, eL_back_132, eL_back_135, eL_back_137, eL_back_140, eL_back_141, eL_back_144, eL_back_145, eL_back_146, eL_back_149, eL_back_150, eL_back_151, eL_back_152, eL_back_153, eL_back_156, eL_back_157, eL_back_160, eL_back_162, eL_back_165, eL_back_166, eL_back_169, eL_back_170, if_pos, if_neg, if_true, if_false, Option.bind_some, Option.toList_some, Option.toList_none, List.cons_append, List.nil_append, p1, e2, hup, e3, p3, hup3, e4]
end BK
theorem t_back {v : Int} (hv : -2147483648 ≤ v ∧ v ≤ 2147483647) (hK : K 0 = 0 ∧ K 1 = 0) (h : LWs S A m H K V P n) : ∃ S' A' K' V', fL_back [vR 0, vI v] S = some (some (vI 1), S') ∧ LX S' A' K' V' ∧ fr S S' := by
  have ha := h.1.aok
  have sb := sumR_b ha
  have h6 := h.1.m6
  obtain ⟨i, hi, hq⟩ : ∃ i : Nat, i < 2 ∧ v % 2147483648 % 2 = (i : Int) := ⟨(v % 2147483648 % 2).toNat, by omega, by omega⟩
  have p0 := s_print h.1
  have c0 := r_c0 h.1
  have c0 : fX8_count [vR 0, vI 0] S = some (some (vI (sumR A)), S) := c0
  have hup := s_up (S := S) (a := v) (b := 2) (by decide)
  rw [hq] at hup
  obtain ⟨S1, e1, L1, g1⟩ := o_save h hi
  obtain ⟨S2, e2, L2, g2⟩ := o_begin L1
  obtain ⟨S3, e3, L3, g3⟩ := o_flood L2 (w := -6) (a := 0) (b := v / 2 % 2147483648 % 299) (Or.inl rfl) (by omega) (by omega)
  have hK1 : up K i 1 i = 1 := up_eq
  have hK2 : up K i 1 (1 - i) = 0 := by
    rw [up_ne (by omega)]
    rcases (show i = 0 ∨ i = 1 by omega) with rfl | rfl
    · exact hK.2
    · exact hK.1
  have m1 := (mM_b h6).1
  have m2 := (mM_b m1).1
  have m3 := (mM_b m2).1
  have t2 := ((HT.zero (m := m) (H := H) (A := A)).push (X' := mBegin A) h6 (by omega)).push (X' := mTake (mBegin A) (-6) 0 (v / 2 % 2147483648 % 299)) m1 (by omega)
  have n0 := cnt_le (nT (mBegin A) (-6) 0 (v / 2 % 2147483648 % 299) 0) 300
  have n1 := cnt_le (nT (mBegin A) (-6) 0 (v / 2 % 2147483648 % 299) 1) 300
  have n2 := cnt_le (nT (mBegin A) (-6) 0 (v / 2 % 2147483648 % 299) 2) 300
  have gg := (g1.trans g2).trans g3
  have hpb := prF_b A
  have hAI := h.2.1
  have hV : (fun j => if j = i then A else V j) i = A := if_pos rfl
  have hfront : fL_back [vR 0, vI v] S = rn xL_back (59, [some (vR 0), some (vI v), some (vJ (prF A)), none, some (vI (sumR A)), some (vI 2), none], [], S3) := by
    rw [uL_back]
    by_cases q : mBegin A 4 = 2
    · rw [if_pos q] at e2
      simp (disch := omega) only [eL_back_0, eL_back_1, eL_back_4, eL_back_5, eL_back_6, eL_back_7, eL_back_10, eL_back_12, eL_back_13, eL_back_14, eL_back_15, eL_back_18, eL_back_21, eL_back_23, eL_back_26, eL_back_27, eL_back_28, eL_back_29, eL_back_31, eL_back_32, eL_back_35, eL_back_38, eL_back_39, eL_back_41, eL_back_42, eL_back_43, eL_back_44, eL_back_45, eL_back_48, eL_back_51, eL_back_54, eL_back_57, eL_back_58, if_pos, if_neg, if_true, if_false, Option.bind_some, Option.toList_some, Option.toList_none, List.cons_append, List.nil_append, p0, c0, hup, e1, e2, s_up, e3]
    · rw [if_neg q] at e2
      simp (disch := omega) only [eL_back_0, eL_back_1, eL_back_4, eL_back_5, eL_back_6, eL_back_7, eL_back_10, eL_back_12, eL_back_13, eL_back_14, eL_back_15, eL_back_18, eL_back_21, eL_back_23, eL_back_26, eL_back_27, eL_back_28, eL_back_29, eL_back_31, eL_back_32, eL_back_35, eL_back_38, eL_back_39, eL_back_41, eL_back_42, eL_back_43, eL_back_44, eL_back_45, eL_back_48, eL_back_51, eL_back_54, eL_back_57, eL_back_58, if_pos, if_neg, if_true, if_false, Option.bind_some, Option.toList_some, Option.toList_none, List.cons_append, List.nil_append, p0, c0, hup, e1, e2, s_up, e3]
  rw [hfront]
  clear hfront
  generalize mTake (mBegin A) (-6) 0 (v / 2 % 2147483648 % 299) = X3 at *
  have tail : ∀ (S4 : MM) (X4 : Nat → Int) (m4 : Nat) (H4 : Nat → Nat → Int) (j : Nat), (2 ≤ j ∧ j ≤ 3) → m4 ≤ 6 → LWs S4 X4 m4 H4 (up K i 1) (fun j => if j = i then A else V j) P n → HT m4 H4 X4 A j → ∃ S' A' K' V', rn xL_back (69, [some (vR 0), some (vI v), some (vJ (prF A)), none, some (vI (sumR A)), some (vI (j : Int)), none], [], S4) = some (some (vI 1), S') ∧ LX S' A' K' V' ∧ fr S4 S' := by
    intro S4 X4 m4 H4 j hj h46 L4 t4
    by_cases q : X4 4 = 1
    · obtain ⟨S5, e5, L5, g5⟩ := o_leap L4 q
      have hn := nxtW_b X4
      obtain ⟨S6, A6, i6, L6, g6⟩ := l_bkT (v := v) (all := sumR A) (u := prF A) (done := (j : Int) + 1) (i := i) (j := j + 1) (x6 := none) rfl hi hq (by omega) (by omega) rfl rfl hAI hV hK1 hK2 L5 (t4.push h46 (by omega))
      refine ⟨S6, A6, _, _, ?_, L6, g5.trans g6⟩
      rw [← i6]
      clear i6
      simp (disch := omega) only [eL_back_69, eL_back_70, eL_back_73, eL_back_76, if_pos, if_neg, if_true, if_false, Option.bind_some, Option.toList_some, Option.toList_none, List.cons_append, List.nil_append, e5]
    · have e5 := s_leapX L4.1 q
      obtain ⟨S6, A6, i6, L6, g6⟩ := l_bkT (v := v) (all := sumR A) (u := prF A) (done := (j : Int)) (i := i) (j := j) (x6 := none) rfl hi hq (by omega) rfl rfl rfl hAI hV hK1 hK2 L4 t4
      refine ⟨S6, A6, _, _, ?_, L6, g6⟩
      rw [← i6]
      clear i6
      simp (disch := omega) only [eL_back_69, eL_back_70, eL_back_73, eL_back_76, if_pos, if_neg, if_true, if_false, Option.bind_some, Option.toList_some, Option.toList_none, List.cons_append, List.nil_append, e5]
  by_cases q : errDry X3 = 0
  · obtain ⟨S4, e4, L4, g4⟩ := o_dry L3 q
    have k0 := cnt_le (tk X3 0) 300
    have k1 := cnt_le (tk X3 1) 300
    have k2 := cnt_le (tk X3 2) 300
    obtain ⟨S5, A5, K5, V5, i5, L5, g5⟩ := tail S4 (mDry X3) _ _ 3 (by omega) m3 L4 (t2.push m2 (by omega))
    refine ⟨S5, A5, K5, V5, ?_, L5, (gg.trans g4).trans g5⟩
    have i5 : rn xL_back (69, [some (vR 0), some (vI v), some (vJ (prF A)), none, some (vI (sumR A)), some (vI 3), none], [], S4) = _ := i5
    rw [← i5]
    clear i5 tail
    simp (disch := omega) only [eL_back_59, eL_back_60, eL_back_63, eL_back_66, if_pos, if_neg, if_true, if_false, Option.bind_some, Option.toList_some, Option.toList_none, List.cons_append, List.nil_append, e4, ta3]
  · have q2 : errDry X3 < 0 ∧ -5 ≤ errDry X3 := by
      rcases errDry_v (A := X3) with z | z
      · exact absurd z q
      · exact z
    have e4 := s_dryX L3.1 q2.1
    obtain ⟨S5, A5, K5, V5, i5, L5, g5⟩ := tail S3 X3 _ _ 2 (by omega) m2 L3 t2
    refine ⟨S5, A5, K5, V5, ?_, L5, gg.trans g5⟩
    have i5 : rn xL_back (69, [some (vR 0), some (vI v), some (vJ (prF A)), none, some (vI (sumR A)), some (vI 2), none], [], S3) = _ := i5
    rw [← i5]
    clear i5 tail
    simp (disch := omega) only [eL_back_59, eL_back_60, eL_back_63, eL_back_66, if_pos, if_neg, if_true, if_false, Option.bind_some, Option.toList_some, Option.toList_none, List.cons_append, List.nil_append, e4]
/-! the law's refusals -/
theorem tx_none : ¬ (Tx P 0 80 0).1 = true := by
  have z : ∀ p, nx P 0 p = 0 := fun p => if_neg (by omega)
  have o : (Od P 0 0).1 = false := by
    unfold Od
    rw [z, if_neg (by omega), if_neg (by omega), if_neg (by omega)]
  rw [Tx, if_neg (by rw [o]; exact fun q => ft q)]
  exact fun q => ft q
theorem l_ref {v w : Int} (hw : (-1000000100 ≤ w ∧ w ≤ -7) ∨ (300 ≤ w ∧ w ≤ 1000000400)) (hK : K 0 = 0 ∧ K 1 = 0) (h : LWs S A0 0 H K V P 0) : ∃ S', rn xL_refused (35, [some (vR 0), some (vI v), some (vI w)], [], S) = some (some (vI 1), S') ∧ LWs S' A0 0 H K V P 0 ∧ fr S S' := by
  have hx := h.1
  have hrw : rng w := by omega
  have a4 : A0 4 = 0 := A0_z (by omega)
  have a7 : A0 7 = 0 := A0_z (by omega)
  have hM : cnt (MetA A0) 300 = 0 := cnt_zero (fun k _ => A0_z (by omega))
  have eL1 : errLay A0 w 0 1 = -1 := by unfold errLay; rw [if_pos (by omega)]
  have eL2 : errLay A0 0 w 1 = -2 := by unfold errLay; rw [if_neg (by omega), if_pos (by omega)]
  have eL3 : errLay A0 0 0 w = -2 := by unfold errLay; rw [if_neg (by omega), if_pos (by omega)]
  have eF1 : errFl w 0 1 = -1 := by unfold errFl; rw [if_pos (by omega)]
  have eF2 : errFl 0 w w = -2 := by unfold errFl; rw [if_neg (by omega), if_neg (by omega)]
  have eF3 : errFl (-6) 0 w = -2 := by unfold errFl; rw [if_neg (by omega), if_neg (by omega)]
  have eD : errDry A0 = -5 := by unfold errDry; rw [if_pos a7]
  have c1 := s_setX (S := S) (j := w) (z := 0) hrw (by omega) (by omega)
  have c2 := s_setX (S := S) (j := 0) (z := w) (by omega) hrw (by have := hiS_b 0; omega)
  have c3 := s_setX (S := S) (j := 3) (z := w) (by omega) hrw (by have := hiS_b 3; omega)
  have c4 := s_stoneX hx (w := w) (key := 0) (t := 1) hrw (by omega) (by omega) (by omega)
  have c5 := s_stoneX hx (w := 0) (key := w) (t := 1) (by omega) hrw (by omega) (by omega)
  have c6 := s_stoneX hx (w := 0) (key := 0) (t := w) (by omega) (by omega) hrw (by omega)
  rw [eL1] at c4
  rw [eL2] at c5
  rw [eL3] at c6
  have c7 := s_floodX (S := S) (w := w) (a := 0) (b := 1) hrw (by omega) (by omega) (by omega)
  have c8 := s_floodX (S := S) (w := 0) (a := w) (b := w) (by omega) hrw hrw (by omega)
  have c9 := s_floodX (S := S) (w := -6) (a := 0) (b := w) (by omega) (by omega) hrw (by omega)
  rw [eF1] at c7
  rw [eF2] at c8
  rw [eF3] at c9
  have d1 := s_dryX hx (by omega)
  rw [eD] at d1
  have d2 := s_leapX hx (by omega)
  have d3 := s_runX hx (by omega)
  have d4 := s_ofWalker hx (w := w) (what := 0) hrw (by omega)
  rw [show ofW A0 w 0 = -1 by unfold ofW; rw [if_pos (by omega)]] at d4
  have d5 := s_ofWalker hx (w := 0) (what := w) (by omega) hrw
  rw [show ofW A0 0 w = -2 by unfold ofW; rw [if_neg (by omega), if_pos (by omega)]] at d5
  have d6 := s_ofWalker hx (w := 0) (what := 1) (by omega) (by omega)
  rw [show ofW A0 0 1 = -6 from ofW_N (w := 0) (by omega) (by omega) a4] at d6
  have d7 := s_ofStoneX hx (w := 0) (j := w) (what := 0) (by omega) hrw (by omega) (Or.inl (by have := cnt_zero (M := RA A0 ((0 : Int)).toNat) (fun k _ => A0_z (by omega)); omega))
  rw [if_pos (by have := cnt_zero (M := RA A0 ((0 : Int)).toNat) (fun k _ => A0_z (by omega)); omega)] at d7
  have d8 := s_ofRun hx (what := w) hrw
  rw [if_neg (by omega)] at d8
  have d9 := r_run hx (k := 0) (by omega)
  rw [figR_N a4] at d9
  have f1 := s_meetingX hx (j := w) (what := 0) hrw (by omega) (Or.inl (by omega))
  rw [if_pos (by omega)] at f1
  have f2 := s_count hx (what := w) hrw
  rw [show cntF A0 0 0 w = -2 by unfold cntF; rw [if_neg (by omega), if_neg (by omega), if_neg (by omega), if_neg (by omega), if_neg (by omega)]] at f2
  have f3 := s_walking hx (what := w) hrw
  rw [show wkF A0 w = -2 by unfold wkF; rw [if_neg (by omega), if_neg (by omega), if_neg (by omega), if_neg (by omega), if_neg (by omega)]] at f3
  obtain ⟨S1, g1, L1, k1⟩ := o_runWith h (s := w) (o := 0) (what := 0) hrw (by omega) (by omega)
  rw [show rwF A0 w 0 0 = -2 by unfold rwF; rw [if_neg (by omega)]] at g1
  obtain ⟨S2, g2, L2, k2⟩ := o_runWith L1 (s := 0) (o := w) (what := 0) (by omega) hrw (by omega)
  rw [show rwF A0 0 w 0 = -2 by unfold rwF; rw [if_neg (by omega)]] at g2
  obtain ⟨S3, g3, L3, k3⟩ := o_runWith L2 (s := 0) (o := 0) (what := w) (by omega) (by omega) hrw
  rw [show rwF A0 0 0 w = -2 by unfold rwF; rw [if_neg (by omega)]] at g3
  obtain ⟨S4, g4, L4, k4⟩ := o_cheapest L3 (what := w) hrw
  rw [show chF A0 w = -2 by unfold chF; rw [if_neg (by omega)]] at g4
  have g5 := s_lostBy L4.1 (a := w) (b := w) hrw hrw
  rw [show lostF A0 w w = -2 by unfold lostF; rw [if_neg (by omega)]] at g5
  have g6 := s_putX (S := S4) (u := 0) (by decide) (by decide)
  obtain ⟨S5, g7, X5, k5⟩ := s_carryOutX L4.1 tx_none
  have L5 := L4.same X5
  have g8 := s_saveX (S := S5) (i := w) hrw (by omega)
  have g9 := s_restoreX (S := S5) (i := w) hrw (by omega)
  have h1 := s_restoreN L5.1 (i := 0) (by omega) hK.1
  have h1 : fX8_restore [vR 0, vI 0] S5 = some (some (vI (-5)), S5) := h1
  have h2 := s_undo0 L5.1
  have h3 := r_c7 L5.1
  have h3 : fX8_count [vR 0, vI 7] S5 = some (some (vI 0), S5) := h3
  refine ⟨S5, ?_, L5, (((k1.trans k2).trans k3).trans k4).trans k5⟩
  clear eL1 eL2 eL3 eF1 eF2 eF3 eD hM a4 a7 hx
  have i1 : rn xL_refused (35, [some (vR 0), some (vI v), some (vI w)], [], S) = rn xL_refused (166, [some (vR 0), some (vI v), some (vI w)], [], S) := by
    simp (disch := omega) only [eL_refused_35, eL_refused_36, eL_refused_37, eL_refused_38, eL_refused_41, eL_refused_43, eL_refused_46, eL_refused_47, eL_refused_48, eL_refused_49, eL_refused_52, eL_refused_54, eL_refused_57, eL_refused_58, eL_refused_59, eL_refused_60, eL_refused_63, eL_refused_65, eL_refused_68, eL_refused_69, eL_refused_70, eL_refused_71, eL_refused_72, eL_refused_75, eL_refused_76, eL_refused_79, eL_refused_80, eL_refused_81, eL_refused_82, eL_refused_83, eL_refused_86, eL_refused_88, eL_refused_91, eL_refused_92, eL_refused_93, eL_refused_94, eL_refused_95, eL_refused_98, eL_refused_100, eL_refused_103, eL_refused_104, eL_refused_105, eL_refused_106, eL_refused_107, eL_refused_110, eL_refused_111, eL_refused_114, eL_refused_115, eL_refused_116, eL_refused_117, eL_refused_118, eL_refused_121, eL_refused_123, eL_refused_126, eL_refused_127, eL_refused_129, eL_refused_130, eL_refused_131, eL_refused_134, eL_refused_136, eL_refused_139, eL_refused_140, eL_refused_143, eL_refused_145, eL_refused_148, eL_refused_149, eL_refused_152, eL_refused_154, eL_refused_157, eL_refused_158, eL_refused_161, eL_refused_163, if_pos, if_neg, if_true, if_false, Option.bind_some, Option.toList_some, Option.toList_none, List.cons_append, List.nil_append, c1, c2, c3, c4, c5, c6, c7, c8, c9, d1, d2, d3]
  have i2 : rn xL_refused (166, [some (vR 0), some (vI v), some (vI w)], [], S) = rn xL_refused (259, [some (vR 0), some (vI v), some (vI w)], [], S) := by
    simp (disch := omega) only [eL_refused_166, eL_refused_167, eL_refused_168, eL_refused_169, eL_refused_172, eL_refused_173, eL_refused_176, eL_refused_177, eL_refused_178, eL_refused_179, eL_refused_182, eL_refused_184, eL_refused_187, eL_refused_188, eL_refused_189, eL_refused_190, eL_refused_193, eL_refused_195, eL_refused_198, eL_refused_199, eL_refused_200, eL_refused_201, eL_refused_202, eL_refused_205, eL_refused_206, eL_refused_209, eL_refused_210, eL_refused_211, eL_refused_214, eL_refused_216, eL_refused_219, eL_refused_220, eL_refused_221, eL_refused_224, eL_refused_226, eL_refused_229, eL_refused_230, eL_refused_231, eL_refused_232, eL_refused_235, eL_refused_236, eL_refused_239, eL_refused_240, eL_refused_241, eL_refused_244, eL_refused_246, eL_refused_249, eL_refused_250, eL_refused_251, eL_refused_254, eL_refused_256, if_pos, if_neg, if_true, if_false, Option.bind_some, Option.toList_some, Option.toList_none, List.cons_append, List.nil_append, d4, d5, d6, d7, d8, d9, f1, f2, f3]
  rw [i1, i2]
  simp (disch := omega) only [eL_refused_259, eL_refused_260, eL_refused_261, eL_refused_262, eL_refused_263, eL_refused_266, eL_refused_268, eL_refused_271, eL_refused_272, eL_refused_273, eL_refused_274, eL_refused_275, eL_refused_278, eL_refused_280, eL_refused_283, eL_refused_284, eL_refused_285, eL_refused_286, eL_refused_287, eL_refused_290, eL_refused_292, eL_refused_295, eL_refused_296, eL_refused_297, eL_refused_300, eL_refused_302, eL_refused_305, eL_refused_306, eL_refused_307, eL_refused_308, eL_refused_311, eL_refused_313, eL_refused_316, eL_refused_317, eL_refused_318, eL_refused_321, eL_refused_323, eL_refused_326, eL_refused_327, eL_refused_330, eL_refused_332, eL_refused_335, eL_refused_336, eL_refused_337, eL_refused_340, eL_refused_342, eL_refused_345, eL_refused_346, eL_refused_347, eL_refused_350, eL_refused_352, eL_refused_355, eL_refused_356, eL_refused_357, eL_refused_360, eL_refused_362, eL_refused_365, eL_refused_366, eL_refused_369, eL_refused_371, eL_refused_374, eL_refused_375, eL_refused_377, eL_refused_380, eL_refused_383, eL_refused_384, eL_refused_387, eL_refused_388, if_pos, if_neg, if_true, if_false, Option.bind_some, Option.toList_some, Option.toList_none, List.cons_append, List.nil_append, g1, g2, g3, g4, g5, g6, g7, g8, g9, h1, h2, h3]
theorem t_refused {v : Int} (hv : -2147483648 ≤ v ∧ v ≤ 2147483647) (hK : K 0 = 0 ∧ K 1 = 0) (h : LWs S A0 0 H K V P 0) : ∃ S', fL_refused [vR 0, vI v] S = some (some (vI 1), S') ∧ LWs S' A0 0 H K V P 0 ∧ fr S S' := by
  by_cases q : v % 2147483648 % 2 = 0
  · obtain ⟨S1, i1, L1, g1⟩ := l_ref (v := v) (w := -7 - v / 2 % 2147483648 % 1000000000) (Or.inl (by omega)) hK h
    refine ⟨S1, ?_, L1, g1⟩
    rw [uL_refused, ← i1]
    simp (disch := omega) only [eL_refused_0, eL_refused_1, eL_refused_2, eL_refused_5, eL_refused_8, eL_refused_10, eL_refused_11, eL_refused_12, eL_refused_13, eL_refused_15, eL_refused_18, eL_refused_19, eL_refused_22, eL_refused_25, eL_refused_26, eL_refused_27, eL_refused_28, eL_refused_30, eL_refused_33, eL_refused_34, if_pos, if_neg, if_true, if_false, Option.bind_some, Option.toList_some, Option.toList_none, List.cons_append, List.nil_append, s_up]
  · obtain ⟨S1, i1, L1, g1⟩ := l_ref (v := v) (w := 300 + v / 2 % 2147483648 % 1000000000) (Or.inr (by omega)) hK h
    refine ⟨S1, ?_, L1, g1⟩
    rw [uL_refused, ← i1]
    simp (disch := omega) only [eL_refused_0, eL_refused_1, eL_refused_2, eL_refused_5, eL_refused_8, eL_refused_10, eL_refused_11, eL_refused_12, eL_refused_13, eL_refused_15, eL_refused_18, eL_refused_19, eL_refused_22, eL_refused_25, eL_refused_26, eL_refused_27, eL_refused_28, eL_refused_30, eL_refused_33, eL_refused_34, if_pos, if_neg, if_true, if_false, Option.bind_some, Option.toList_some, Option.toList_none, List.cons_append, List.nil_append, s_up]
end LAW16

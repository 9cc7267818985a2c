/-! the law, whole -/
section LAW17
variable {S S' : MM} {A A' : Nat → Int} {m : Nat} {H : Nat → Nat → Int} {K : Nat → Int} {V : Nat → Nat → Int} {P : Nat → Int} {n : Nat}
theorem k_cell {k : Int} (hk : 0 ≤ k ∧ k ≤ 1000) (hL : 0 ≤ S 604 1 ∧ S 604 1 ≤ 2147483647) : ∃ z : Int, (-2147483648 ≤ z ∧ z ≤ 2147483647) ∧ kp fcN [vR 603, vI k] S = some (some (vI z), S) := by
  obtain ⟨z, e⟩ := s_cell (S := S) hk hL
  refine ⟨Int.bmod z 4294967296, ?_, kp_id (fcN_of e)⟩
  have h1 := Int.le_bmod (x := z) (m := 4294967296) (by decide)
  have h2 := Int.bmod_lt (x := z) (m := 4294967296) (by decide)
  omega
/-- the rows outside, and the count of rows made: at most g more -/
def gg (S S' : MM) (g : Int) : Prop := (∀ j, j ≠ 4 → S' 604 j = S 604 j) ∧ S 604 4 ≤ S' 604 4 ∧ S' 604 4 ≤ S 604 4 + g
theorem fr.gg (h : fr S S') : gg S S' 0 := ⟨fun j _ => by rw [h 604 (by omega)], by rw [h 604 (by omega)]; omega, by rw [h 604 (by omega)]; omega⟩
theorem gf.gg (h : gf S S') : gg S S' 1 := ⟨h.2.1, h.2.2.1, h.2.2.2⟩
theorem gg.trans {S1 : MM} {a b c : Int} (h : gg S S1 a) (h2 : gg S1 S' b) (hc : a + b ≤ c) : gg S S' c := ⟨fun j hj => (h2.1 j hj).trans (h.1 j hj), by have := h.2.1; have := h2.2.1; omega, by have := h.2.2; have := h2.2.2; omega⟩
theorem gg.L {a : Int} (h : gg S S' a) (hL : 0 ≤ S 604 1 ∧ S 604 1 ≤ 2147483647) : 0 ≤ S' 604 1 ∧ S' 604 1 ≤ 2147483647 := by
  rw [h.1 1 (by omega)]
  exact hL
theorem gg.z3 {a : Int} (h : gg S S' a) (h3 : S 604 3 = 0) : S' 604 3 = 0 := by
  rw [h.1 3 (by omega)]
  exact h3
theorem lx_stone {w : Nat} {key t : Int} (h : LX S A K V) (hw : w < 3) (hk : 0 ≤ key ∧ key ≤ 299) (ht : 1 ≤ t ∧ t ≤ 9) : ∃ S' A' r, kp fX8_stone [vR 0, vI (w : Int), vI key, vI t] S = some (some (vI r), S') ∧ LX S' A' K V ∧ fr S S' := by
  obtain ⟨m, H, P, n, h⟩ := h
  by_cases q : cnt (RA A w) 300 < 40 ∨ 0 < RA A w key.toNat
  · obtain ⟨S1, e, L1, g⟩ := o_stone h hw hk ht q
    exact ⟨S1, _, _, kfr e g, L1.lx, g⟩
  · exact ⟨S, A, _, kp_id (o_stoneT h hw hk ht q), h.lx, fr.refl⟩
section LL
variable {wd v : Int}
theorem l_lw1 (hwd : wd = 40 ∨ wd = 300) {w : Nat} (hw : w < 3) : ∀ (f k : Nat) (at_ : Int) (S : MM) (A : Nat → Int) (x7 : Option VV), k + f = 4 → (0 ≤ at_ ∧ at_ + f ≤ 500) → (x7 = none ∨ ∃ z, x7 = some (vI z)) → LX S A K V → (0 ≤ S 604 1 ∧ S 604 1 ≤ 2147483647) → ∃ (S' : MM) (A' : Nat → Int) (y7 : Option VV), (y7 = none ∨ ∃ z, y7 = some (vI z)) ∧ rn xL_law (153, [some (vR 603), some (vR 0), some (vI at_), some (vI v), some (vI wd), some (vI (w : Int)), some (vI (k : Int)), x7], [], S) = rn xL_law (218, [some (vR 603), some (vR 0), some (vI (at_ + f)), some (vI v), some (vI wd), some (vI (w : Int)), some (vI 4), y7], [], S') ∧ LX S' A' K V ∧ fr S S' := by
  intro f
  induction f with
  | zero =>
    intro k at_ S A x7 h1 h2 hx h hL
    obtain rfl : k = 4 := by omega
    refine ⟨S, A, x7, hx, ?_, h, fr.refl⟩
    rw [eL_law_153, show ((4 : Nat) : Int) = 4 from rfl, show at_ + ((0 : Nat) : Int) = at_ by omega]
    simp (disch := omega) only [eL_law_155, eL_law_156, eL_law_159, eL_law_160, eL_law_161, eL_law_164, eL_law_167, eL_law_169, eL_law_170, eL_law_172, eL_law_174, eL_law_176, eL_law_179, eL_law_180, eL_law_182, eL_law_184, eL_law_185, eL_law_187, eL_law_190, eL_law_191, eL_law_194, eL_law_195, eL_law_196, eL_law_198, eL_law_200, eL_law_201, eL_law_202, eL_law_204, eL_law_207, eL_law_208, eL_law_211, eL_law_212, eL_law_215, if_pos, if_neg, if_true, if_false, Option.bind_some, Option.toList_some, Option.toList_none, List.cons_append, List.nil_append]
  | succ f ih =>
    intro k at_ S A x7 h1 h2 hx h hL
    obtain ⟨z, hz, ez⟩ := k_cell (S := S) (k := at_) (by omega) hL
    have hb : 0 ≤ z % 2147483648 % wd ∧ z % 2147483648 % wd < wd := ⟨Int.emod_nonneg _ (by omega), Int.emod_lt_of_pos _ (by omega)⟩
    obtain ⟨S1, A1, r1, e1, L1, g1⟩ := lx_stone h hw (key := z % 2147483648 % wd) (t := 1 + z / 1024 % 2147483648 % 9) (by omega) (by omega)
    obtain ⟨S2, A2, r2, e2, L2, g2⟩ := lx_stone L1 hw (key := z / 16 % 2147483648 % 12) (t := 1) (by omega) (by omega)
    have gt := g1.trans g2
    obtain ⟨S3, A3, y7, hy, i3, L3, g3⟩ := ih (k + 1) (at_ + 1) S2 A2 (some (vI z)) (by omega) (by omega) (Or.inr ⟨_, rfl⟩) L2 (gt.gg.L hL)
    refine ⟨S3, A3, y7, hy, ?_, L3, gt.trans g3⟩
    rw [show at_ + ((f + 1 : Nat) : Int) = at_ + 1 + (f : Int) by omega, ← i3, show ((k + 1 : Nat) : Int) = (k : Int) + 1 by omega, eL_law_153]
    simp (disch := omega) only [eL_law_155, eL_law_156, eL_law_159, eL_law_160, eL_law_161, eL_law_164, eL_law_167, eL_law_169, eL_law_170, eL_law_172, eL_law_174, eL_law_176, eL_law_179, eL_law_180, eL_law_182, eL_law_184, eL_law_185, eL_law_187, eL_law_190, eL_law_191, eL_law_194, eL_law_195, eL_law_196, eL_law_198, eL_law_200, eL_law_201, eL_law_202, eL_law_204, eL_law_207, eL_law_208, eL_law_211, eL_law_212, eL_law_215, if_pos, if_neg, if_true, if_false, Option.bind_some, Option.toList_some, Option.toList_none, List.cons_append, List.nil_append, ez, k_up, e1, e2]
theorem l_lw2 (hwd : wd = 40 ∨ wd = 300) : ∀ (f w : Nat) (at_ : Int) (S : MM) (A : Nat → Int) (x6 x7 : Option VV), w + f = 3 → (0 ≤ at_ ∧ at_ + 4 * f ≤ 400) → (x6 = none ∨ ∃ z, x6 = some (vI z)) → (x7 = none ∨ ∃ z, x7 = some (vI z)) → LX S A K V → (0 ≤ S 604 1 ∧ S 604 1 ≤ 2147483647) → ∃ (S' : MM) (A' : Nat → Int) (y6 y7 : Option VV), rn xL_law (144, [some (vR 603), some (vR 0), some (vI at_), some (vI v), some (vI wd), some (vI (w : Int)), x6, x7], [], S) = rn xL_law (224, [some (vR 603), some (vR 0), some (vI (at_ + 4 * f)), some (vI v), some (vI wd), some (vI 3), y6, y7], [], S') ∧ LX S' A' K V ∧ fr S S' := by
  intro f
  induction f with
  | zero =>
    intro w at_ S A x6 x7 h1 h2 hx6 hx7 h hL
    obtain rfl : w = 3 := by omega
    refine ⟨S, A, x6, x7, ?_, h, fr.refl⟩
    rw [eL_law_144, show ((3 : Nat) : Int) = 3 from rfl, show at_ + 4 * ((0 : Nat) : Int) = at_ by omega]
    simp (disch := omega) only [eL_law_146, eL_law_147, eL_law_150, eL_law_151, eL_law_218, eL_law_221, if_pos, if_neg, if_true, if_false, Option.bind_some, Option.toList_some, Option.toList_none, List.cons_append, List.nil_append]
  | succ f ih =>
    intro w at_ S A x6 x7 h1 h2 hx6 hx7 h hL
    obtain ⟨S1, A1, y7, hy, i1, L1, g1⟩ := l_lw1 (v := v) hwd (w := w) (by omega) 4 0 at_ S A x7 rfl (by omega) hx7 h hL
    obtain ⟨S2, A2, z6, z7, i2, L2, g2⟩ := ih (w + 1) (at_ + 4) S1 A1 (some (vI 4)) y7 (by omega) (by omega) (Or.inr ⟨_, rfl⟩) hy L1 (g1.gg.L hL)
    refine ⟨S2, A2, z6, z7, ?_, L2, g1.trans g2⟩
    have i1 : rn xL_law (153, [some (vR 603), some (vR 0), some (vI at_), some (vI v), some (vI wd), some (vI (w : Int)), some (vI 0), x7], [], S) = rn xL_law (218, [some (vR 603), some (vR 0), some (vI (at_ + 4)), some (vI v), some (vI wd), some (vI (w : Int)), some (vI 4), y7], [], S1) := i1
    rw [show at_ + 4 * ((f + 1 : Nat) : Int) = at_ + 4 + 4 * (f : Int) by omega, ← i2, show ((w + 1 : Nat) : Int) = (w : Int) + 1 by omega, eL_law_144]
    rcases hx6 with rfl | ⟨z6', rfl⟩
    · simp (disch := omega) only [eL_law_146, eL_law_147, eL_law_150, eL_law_151, if_pos, if_neg, if_true, if_false, Option.bind_some, Option.toList_some, Option.toList_none, List.cons_append, List.nil_append]
      rw [i1]
      simp (disch := omega) only [eL_law_218, eL_law_221, if_pos, if_neg, if_true, if_false, Option.bind_some, Option.toList_some, Option.toList_none, List.cons_append, List.nil_append]
    · simp (disch := omega) only [eL_law_146, eL_law_147, eL_law_150, eL_law_151, if_pos, if_neg, if_true, if_false, Option.bind_some, Option.toList_some, Option.toList_none, List.cons_append, List.nil_append]
      rw [i1]
      simp (disch := omega) only [eL_law_218, eL_law_221, if_pos, if_neg, if_true, if_false, Option.bind_some, Option.toList_some, Option.toList_none, List.cons_append, List.nil_append]
theorem l_lw3 (hwd : wd = 40 ∨ wd = 300) {x6 x7 : Option VV} : ∀ (f k : Nat) (at_ : Int) (v : Int) (S : MM) (A : Nat → Int), k + f = 36 → (0 ≤ at_ ∧ at_ + 4 * f ≤ 400) → LX S A K V → (0 ≤ S 604 1 ∧ S 604 1 ≤ 2147483647) → S 604 3 = 0 → ∃ (S' : MM) (A' : Nat → Int) (at' v' : Int), rn xL_law (227, [some (vR 603), some (vR 0), some (vI at_), some (vI v), some (vI wd), some (vI (k : Int)), x6, x7], [], S) = rn xL_law (312, [some (vR 603), some (vR 0), some (vI at'), some (vI v'), some (vI wd), some (vI 36), x6, x7], [], S') ∧ LX S' A' K V ∧ gg S S' f ∧ (0 ≤ at' ∧ at' ≤ 400) := by
  intro f
  induction f with
  | zero =>
    intro k at_ v S A h1 h2 h hL h3
    obtain rfl : k = 36 := by omega
    refine ⟨S, A, at_, v, ?_, h, fr.refl.gg, by omega⟩
    rw [eL_law_227, show ((36 : Nat) : Int) = 36 from rfl]
    simp (disch := omega) only [eL_law_229, eL_law_231, eL_law_234, eL_law_235, eL_law_236, eL_law_239, eL_law_242, eL_law_243, eL_law_244, eL_law_246, eL_law_247, eL_law_248, eL_law_249, eL_law_252, eL_law_253, eL_law_254, eL_law_257, eL_law_258, eL_law_259, eL_law_262, eL_law_265, eL_law_268, eL_law_269, eL_law_272, eL_law_275, eL_law_276, eL_law_277, eL_law_279, eL_law_281, eL_law_282, eL_law_284, eL_law_287, eL_law_288, eL_law_290, eL_law_291, eL_law_292, eL_law_295, eL_law_298, eL_law_301, eL_law_304, eL_law_305, eL_law_306, eL_law_309, if_pos, if_neg, if_true, if_false, Option.bind_some, Option.toList_some, Option.toList_none, List.cons_append, List.nil_append]
  | succ f ih =>
    intro k at_ v S A h1 h2 h hL h3
    obtain ⟨m, H, P, n, h⟩ := h
    obtain ⟨z0, b0, e0⟩ := k_cell (S := S) (k := at_) (by omega) hL
    obtain ⟨z1, b1, e1⟩ := k_cell (S := S) (k := at_ + 1) (by omega) hL
    obtain ⟨z2, b2, e2⟩ := k_cell (S := S) (k := at_ + 1 + 1) (by omega) hL
    obtain ⟨S1, A1, t1, L1, g1⟩ := t_act hwd h h3 b0 b1 b2
    obtain ⟨m1, H1, P1, n1, L1⟩ := L1
    have so := kp_id (s_sound L1)
    have g1 := g1.gg
    by_cases q : (k : Int) % 12 = 11
    · obtain ⟨z3, b3, e3⟩ := k_cell (S := S1) (k := at_ + 1 + 1) (by omega) (g1.L hL)
      obtain ⟨S2, t2, L2, g2⟩ := t_comes hwd b3 L1
      have t2 := kfr t2 g2
      obtain ⟨S3, A3, at', v', i3, L3, g3, ha⟩ := ih (k + 1) (at_ + 1 + 1 + 1) z0 S2 A1 (by omega) (by omega) L2 (g2.gg.L (g1.L hL)) (g2.gg.z3 (g1.z3 h3))
      refine ⟨S3, A3, at', v', ?_, L3, (g1.trans g2.gg (c := 1) (by omega)).trans g3 (by omega), ha⟩
      rw [← i3, show ((k + 1 : Nat) : Int) = (k : Int) + 1 by omega, eL_law_227]
      simp (disch := omega) only [eL_law_229, eL_law_231, eL_law_234, eL_law_235, eL_law_236, eL_law_239, eL_law_242, eL_law_243, eL_law_244, eL_law_246, eL_law_247, eL_law_248, eL_law_249, eL_law_252, eL_law_253, eL_law_254, eL_law_257, eL_law_258, eL_law_259, eL_law_262, eL_law_265, eL_law_268, eL_law_269, eL_law_272, eL_law_275, eL_law_276, eL_law_277, eL_law_279, eL_law_281, eL_law_282, eL_law_284, eL_law_287, eL_law_288, eL_law_290, eL_law_291, eL_law_292, eL_law_295, eL_law_298, eL_law_301, eL_law_304, eL_law_305, eL_law_306, eL_law_309, if_pos, if_neg, if_true, if_false, Option.bind_some, Option.toList_some, Option.toList_none, List.cons_append, List.nil_append, e0, e1, e2, t1, so, q, e3, t2]
    · obtain ⟨S3, A3, at', v', i3, L3, g3, ha⟩ := ih (k + 1) (at_ + 1 + 1) z0 S1 A1 (by omega) (by omega) ⟨_, _, _, _, L1⟩ (g1.L hL) (g1.z3 h3)
      refine ⟨S3, A3, at', v', ?_, L3, g1.trans g3 (by omega), ha⟩
      rw [← i3, show ((k + 1 : Nat) : Int) = (k : Int) + 1 by omega, eL_law_227]
      simp (disch := omega) only [eL_law_229, eL_law_231, eL_law_234, eL_law_235, eL_law_236, eL_law_239, eL_law_242, eL_law_243, eL_law_244, eL_law_246, eL_law_247, eL_law_248, eL_law_249, eL_law_252, eL_law_253, eL_law_254, eL_law_257, eL_law_258, eL_law_259, eL_law_262, eL_law_265, eL_law_268, eL_law_269, eL_law_272, eL_law_275, eL_law_276, eL_law_277, eL_law_279, eL_law_281, eL_law_282, eL_law_284, eL_law_287, eL_law_288, eL_law_290, eL_law_291, eL_law_292, eL_law_295, eL_law_298, eL_law_301, eL_law_304, eL_law_305, eL_law_306, eL_law_309, if_pos, if_neg, if_true, if_false, Option.bind_some, Option.toList_some, Option.toList_none, List.cons_append, List.nil_append, e0, e1, e2, t1, so]
end LL
theorem t_law (h : LWs S A0 0 H K V P 0) (hK : K 0 = 0 ∧ K 1 = 0) (hL : 0 ≤ S 604 1 ∧ S 604 1 ≤ 2147483647) (h3 : S 604 3 = 0) : ∃ S', rn xL_law (8, [some (vR 603), some (vR 0), none, none, none, none, none, none], [], S) = some (some (vI 1), S') ∧ gg S S' 36 := by
  obtain ⟨z0, b0, e0⟩ := k_cell (S := S) (k := 0) (by omega) hL
  obtain ⟨S1, r1, L1, g1⟩ := t_refused b0 hK h
  have r1 := kfr r1 g1
  obtain ⟨z1, b1, e1⟩ := k_cell (S := S1) (k := 1) (by omega) (g1.gg.L hL)
  obtain ⟨S2, r2, L2, g2⟩ := o_set L1 (j := 2) (z := z1 / 4 % 2147483648 % 3) (by omega) (by show 0 ≤ z1 / 4 % 2147483648 % 3 ∧ z1 / 4 % 2147483648 % 3 ≤ 2; omega)
  have r2 : fX8_set [vR 0, vI 2, vI (z1 / 4 % 2147483648 % 3)] S1 = some (some (vI 1), S2) := r2
  have r2 := kfr r2 g2
  obtain ⟨S3, r3, L3, g3⟩ := o_set L2 (j := 3) (z := z1 / 16 % 2147483648 % 6) (by omega) (by show 0 ≤ z1 / 16 % 2147483648 % 6 ∧ z1 / 16 % 2147483648 % 6 ≤ 5; omega)
  have q3 : mSet A0 2 (z1 / 4 % 2147483648 % 3) 3 = 0 := (set_k (by omega)).trans (up_ne (by omega))
  rw [q3] at r3
  have r3 : fX8_set [vR 0, vI 3, vI (z1 / 16 % 2147483648 % 6)] S2 = some (some (vI 0), S3) := r3
  have r3 := kfr r3 g3
  have ga := (g1.trans g2).trans g3
  obtain ⟨wd, hwd, hw1⟩ : ∃ wd : Int, (wd = 40 ∨ wd = 300) ∧ wd = if z1 % 2147483648 % 3 = 0 then 300 else 40 := ⟨_, by split <;> omega, rfl⟩
  have tail : ∀ (S4 : MM) (A4 : Nat → Int), LX S4 A4 K V → fr S S4 → ∃ S', rn xL_law (141, [some (vR 603), some (vR 0), some (vI 2), some (vI z1), some (vI wd), none, none, none], [], S4) = some (some (vI 1), S') ∧ gg S S' 36 := by
    intro S4 A4 L4 g4
    obtain ⟨S5, A5, y6, y7, i5, L5, g5⟩ := l_lw2 (v := z1) hwd 3 0 2 S4 A4 none none rfl (by omega) (Or.inl rfl) (Or.inl rfl) L4 (g4.gg.L hL)
    have g45 := g4.trans g5
    obtain ⟨S6, A6, at6, v6, i6, L6, g6, hat⟩ := l_lw3 hwd (x6 := y6) (x7 := y7) 36 0 14 z1 S5 A5 rfl (by omega) L5 (g45.gg.L hL) (g45.gg.z3 h3)
    have g46 := g45.gg.trans g6 (c := 36) (by omega)
    obtain ⟨z7, b7, e7⟩ := k_cell (S := S6) (k := at6) (by omega) (g46.L hL)
    obtain ⟨m6, H6, P6, n6, L6⟩ := L6
    obtain ⟨S7, A7, K7, V7, r7, L7, g7⟩ := t_back b7 hK L6
    have r7 := kfr r7 g7
    obtain ⟨m7, H7, P7, n7, L7⟩ := L7
    have so := kp_id (s_sound L7)
    refine ⟨S7, ?_, g46.trans g7.gg (by omega)⟩
    have i5 : rn xL_law (144, [some (vR 603), some (vR 0), some (vI 2), some (vI z1), some (vI wd), some (vI 0), none, none], [], S4) = rn xL_law (224, [some (vR 603), some (vR 0), some (vI 14), some (vI z1), some (vI wd), some (vI 3), y6, y7], [], S5) := i5
    have i6 : rn xL_law (227, [some (vR 603), some (vR 0), some (vI 14), some (vI z1), some (vI wd), some (vI 0), y6, y7], [], S5) = _ := i6
    simp (disch := omega) only [eL_law_141, eL_law_142, if_pos, if_neg, if_true, if_false, Option.bind_some, Option.toList_some, Option.toList_none, List.cons_append, List.nil_append]
    rw [i5]
    simp (disch := omega) only [eL_law_224, eL_law_225, if_pos, if_neg, if_true, if_false, Option.bind_some, Option.toList_some, Option.toList_none, List.cons_append, List.nil_append]
    rw [i6]
    simp (disch := omega) only [eL_law_312, eL_law_313, eL_law_314, eL_law_315, eL_law_318, eL_law_321, eL_law_324, eL_law_327, eL_law_328, eL_law_331, eL_law_334, eL_law_335, eL_law_338, eL_law_339, if_pos, if_neg, if_true, if_false, Option.bind_some, Option.toList_some, Option.toList_none, List.cons_append, List.nil_append, e7, r7, so]
  have hst : rn xL_law (8, [some (vR 603), some (vR 0), none, none, none, none, none, none], [], S) = rn xL_law (88, [some (vR 603), some (vR 0), some (vI 2), some (vI z1), some (vI wd), none, none, none], [], S3) := by
    by_cases q : z1 % 2147483648 % 3 = 0
    · rw [if_pos q] at hw1
      rw [hw1]
      simp (disch := omega) only [eL_law_8, eL_law_9, eL_law_10, eL_law_11, eL_law_12, eL_law_13, eL_law_16, eL_law_19, eL_law_22, eL_law_25, eL_law_26, eL_law_27, eL_law_28, eL_law_29, eL_law_32, eL_law_35, eL_law_36, eL_law_37, eL_law_38, eL_law_41, eL_law_44, eL_law_47, eL_law_50, eL_law_52, eL_law_54, eL_law_55, eL_law_56, eL_law_57, eL_law_58, eL_law_59, eL_law_60, eL_law_63, eL_law_66, eL_law_67, eL_law_70, eL_law_71, eL_law_72, eL_law_73, eL_law_74, eL_law_75, eL_law_77, eL_law_80, eL_law_83, eL_law_86, eL_law_87, if_pos, if_neg, if_true, if_false, Option.bind_some, Option.toList_some, Option.toList_none, List.cons_append, List.nil_append, e0, r1, e1, k_up, r2, r3, ta1, ta2]
    · rw [if_neg q] at hw1
      rw [hw1]
      simp (disch := omega) only [eL_law_8, eL_law_9, eL_law_10, eL_law_11, eL_law_12, eL_law_13, eL_law_16, eL_law_19, eL_law_22, eL_law_25, eL_law_26, eL_law_27, eL_law_28, eL_law_29, eL_law_32, eL_law_35, eL_law_36, eL_law_37, eL_law_38, eL_law_41, eL_law_44, eL_law_47, eL_law_50, eL_law_52, eL_law_54, eL_law_55, eL_law_56, eL_law_57, eL_law_58, eL_law_59, eL_law_60, eL_law_63, eL_law_66, eL_law_67, eL_law_70, eL_law_71, eL_law_72, eL_law_73, eL_law_74, eL_law_75, eL_law_77, eL_law_80, eL_law_83, eL_law_86, eL_law_87, if_pos, if_neg, if_true, if_false, Option.bind_some, Option.toList_some, Option.toList_none, List.cons_append, List.nil_append, e0, r1, e1, k_up, r2, r3, ta1, ta2]
  rw [hst]
  clear hst
  by_cases q : z1 / 128 % 2147483648 % 2 = 0
  · obtain ⟨S4, r4, L4, g4⟩ := o_set L3 (j := 0) (z := z1 / 256 % 2147483648 % 10) (by omega) (by show 0 ≤ z1 / 256 % 2147483648 % 10 ∧ z1 / 256 % 2147483648 % 10 ≤ 299; omega)
    have q4 : mSet (mSet A0 2 (z1 / 4 % 2147483648 % 3)) 3 (z1 / 16 % 2147483648 % 6) 0 = 0 := (set_k (by omega)).trans ((up_ne (by omega)).trans ((set_k (by omega)).trans (up_ne (by omega))))
    rw [q4] at r4
    have r4 : fX8_set [vR 0, vI 0, vI (z1 / 256 % 2147483648 % 10)] S3 = some (some (vI 0), S4) := r4
    have r4 := kfr r4 g4
    obtain ⟨S5, r5, L5, g5⟩ := o_set L4 (j := 1) (z := 20 + z1 / 4096 % 2147483648 % 60) (by omega) (by show 0 ≤ 20 + z1 / 4096 % 2147483648 % 60 ∧ 20 + z1 / 4096 % 2147483648 % 60 ≤ 299; omega)
    have q5 : mSet (mSet (mSet A0 2 (z1 / 4 % 2147483648 % 3)) 3 (z1 / 16 % 2147483648 % 6)) 0 (z1 / 256 % 2147483648 % 10) 1 = 299 := (set_k (by omega)).trans ((up_ne (by omega)).trans ((set_k (by omega)).trans ((up_ne (by omega)).trans ((set_k (by omega)).trans (up_ne (by omega))))))
    rw [q5] at r5
    have r5 : fX8_set [vR 0, vI 1, vI (20 + z1 / 4096 % 2147483648 % 60)] S4 = some (some (vI 299), S5) := r5
    have r5 := kfr r5 g5
    obtain ⟨S6, i6, g6⟩ := tail S5 _ L5.lx ((ga.trans g4).trans g5)
    refine ⟨S6, ?_, g6⟩
    rw [← i6]
    clear i6 tail
    simp (disch := omega) only [eL_law_88, eL_law_89, eL_law_91, eL_law_92, eL_law_93, eL_law_96, eL_law_99, eL_law_100, eL_law_101, eL_law_102, eL_law_104, eL_law_105, eL_law_107, eL_law_110, eL_law_113, eL_law_116, eL_law_117, eL_law_118, eL_law_120, eL_law_121, eL_law_123, eL_law_124, eL_law_126, eL_law_129, eL_law_130, eL_law_133, eL_law_136, eL_law_139, eL_law_140, if_pos, if_neg, if_true, if_false, Option.bind_some, Option.toList_some, Option.toList_none, List.cons_append, List.nil_append, k_up, r4, r5]
  · obtain ⟨S6, i6, g6⟩ := tail S3 _ L3.lx ga
    refine ⟨S6, ?_, g6⟩
    rw [← i6]
    clear i6 tail
    simp (disch := omega) only [eL_law_88, eL_law_89, eL_law_91, eL_law_92, eL_law_93, eL_law_96, eL_law_99, eL_law_100, eL_law_101, eL_law_102, eL_law_104, eL_law_105, eL_law_107, eL_law_110, eL_law_113, eL_law_116, eL_law_117, eL_law_118, eL_law_120, eL_law_121, eL_law_123, eL_law_124, eL_law_126, eL_law_129, eL_law_130, eL_law_133, eL_law_136, eL_law_139, eL_law_140, if_pos, if_neg, if_true, if_false, Option.bind_some, Option.toList_some, Option.toList_none, List.cons_append, List.nil_append, k_up]
end LAW17

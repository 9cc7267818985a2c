/-! the law's texts: their walk -/
section LAW10
variable {S S' : MM} {A A' : Nat → Int} {m : Nat} {H : Nat → Nat → Int} {K : Nat → Int} {V : Nat → Nat → Int} {P : Nat → Int} {n : Nat}
def LX (S : MM) (A : Nat → Int) (K : Nat → Int) (V : Nat → Nat → Int) : Prop := ∃ (m : Nat) (H : Nat → Nat → Int) (P : Nat → Int) (n : Nat), LWs S A m H K V P n
theorem hist_iv (h : LWs S A m H K V P n) : ∀ j, j < mM m → Iv (mH m H A j) := by
  intro j hj
  unfold mM at hj
  unfold mH
  split
  next h6 =>
    rw [if_pos h6] at hj
    split
    next hm => exact h.2.2 j hm
    next hm => exact h.2.1
  next h6 =>
    rw [if_neg h6] at hj
    have := h.1.m6
    split
    next h5 => exact h.2.2 _ (by omega)
    next h5 => exact h.2.1
section TXT1
variable {x y w a b r c f t e many : Int} {u0 u1 : Nat} {k1 k2 k3 : Option VV}
theorem l_txK (hw : 0 ≤ w ∧ w ≤ 2) (hb : 0 ≤ b ∧ b ≤ 299) (hr : 1 ≤ r ∧ r ≤ 9) : ∀ (g : Nat) (key : Int) (A : Nat → Int) (S : MM), g = (b - key + 1).toNat → (0 ≤ key ∧ key ≤ 300) → LX S A K V → ∃ (S' : MM) (key' : Int), rn xL_text (288, [some (vR 0), some (vI x), some (vI y), some (vI w), some (vI a), some (vI b), some (vI r), some (vI c), some (vI f), some (vI t), some (vI e), some (vJ u0), none, some (vI many), some (vJ u1), none, some (vI 0), some (vI 1), some (vI (key))], [], S) = rn xL_text (325, [some (vR 0), some (vI x), some (vI y), some (vI w), some (vI a), some (vI b), some (vI r), some (vI c), some (vI f), some (vI t), some (vI e), some (vJ u0), none, some (vI many), some (vJ u1), none, some (vI 0), some (vI (if (lyF w r g A key).1 = true then 1 else 0)), some (vI (key'))], [], S') ∧ LX S' (lyF w r g A key).2 K V ∧ fr S S' := by
  intro g
  induction g with
  | zero =>
    intro key A S h1 h2 h3
    refine ⟨S, key, ?_, h3, fr.refl⟩
    rw [eL_text_288, lyF]
    simp (disch := omega) only [eL_text_290, eL_text_292, eL_text_295, eL_text_297, eL_text_300, eL_text_301, eL_text_302, eL_text_304, eL_text_306, eL_text_309, eL_text_312, eL_text_313, eL_text_316, eL_text_317, eL_text_319, eL_text_322, if_pos, if_neg, if_true, if_false, Option.bind_some, Option.toList_some, Option.toList_none, List.cons_append, List.nil_append]
  | succ g ih =>
    intro key A S h1 h2 h3
    obtain ⟨m, H, P, n, h3⟩ := h3
    rw [lyF]
    by_cases q : errLay A w key r < 0
    · rw [if_pos q]
      have eX := s_stoneX h3.1 (w := w) (key := key) (t := r) (by omega) (by omega) (by omega) q
      have hb4 := errLay_v (A := A) (w := w) (key := key) (t := r)
      refine ⟨S, key + 1, ?_, ⟨m, H, P, n, h3⟩, fr.refl⟩
      rw [eL_text_288]
      simp (disch := omega) only [eL_text_290, eL_text_292, eL_text_295, eL_text_297, eL_text_300, eL_text_301, eL_text_302, eL_text_304, eL_text_306, eL_text_309, eL_text_312, eL_text_313, eL_text_316, eL_text_317, eL_text_319, eL_text_322, if_pos, if_neg, if_true, if_false, Option.bind_some, Option.toList_some, Option.toList_none, List.cons_append, List.nil_append, eX]
      rw [eL_text_288]
      by_cases q2 : key + 1 ≤ b
      · simp (disch := omega) only [eL_text_290, eL_text_292, eL_text_295, eL_text_297, eL_text_300, eL_text_301, eL_text_302, eL_text_304, eL_text_306, eL_text_309, eL_text_312, eL_text_313, eL_text_316, eL_text_317, eL_text_319, eL_text_322, if_pos, if_neg, if_true, if_false, Option.bind_some, Option.toList_some, Option.toList_none, List.cons_append, List.nil_append, Bool.false_eq_true]
      · simp (disch := omega) only [eL_text_290, eL_text_292, eL_text_295, eL_text_297, eL_text_300, eL_text_301, eL_text_302, eL_text_304, eL_text_306, eL_text_309, eL_text_312, eL_text_313, eL_text_316, eL_text_317, eL_text_319, eL_text_322, if_pos, if_neg, if_true, if_false, Option.bind_some, Option.toList_some, Option.toList_none, List.cons_append, List.nil_append, Bool.false_eq_true]
    · rw [if_neg q]
      have hb4 : errLay A w key r = 0 ∧ (0 ≤ w ∧ w ≤ 2) ∧ (0 ≤ key ∧ key ≤ 299) ∧ (1 ≤ r ∧ r ≤ 9) ∧ (cnt (RA A w.toNat) 300 < 40 ∨ 0 < RA A w.toNat key.toNat) := by
        rcases errLay_v (A := A) (w := w) (key := key) (t := r) with z | z
        · exact z
        · omega
      obtain ⟨S1, e1, L1, g1⟩ := o_stone h3 (w := w.toNat) (key := key) (t := r) (by omega) hb4.2.2.1 hr hb4.2.2.2.2
      rw [Int.toNat_of_nonneg hw.1] at e1 L1
      have hrb := h3.1.aok.2.1 w.toNat key.toNat (by omega) (by omega)
      obtain ⟨S2, key', i1, L2, g2⟩ := ih (key + 1) (mLay A w key r) S1 (by omega) (by omega) ⟨_, _, _, _, L1⟩
      refine ⟨S2, key', ?_, L2, g1.trans g2⟩
      rw [← i1, eL_text_288]
      simp (disch := omega) only [eL_text_290, eL_text_292, eL_text_295, eL_text_297, eL_text_300, eL_text_301, eL_text_302, eL_text_304, eL_text_306, eL_text_309, eL_text_312, eL_text_313, eL_text_316, eL_text_317, eL_text_319, eL_text_322, if_pos, if_neg, if_true, if_false, Option.bind_some, Option.toList_some, Option.toList_none, List.cons_append, List.nil_append, e1]
theorem l_txZ {n0 : Int} : rn xL_text (348, [some (vR 0), some (vI x), some (vI y), some (vI w), some (vI a), some (vI b), some (vI r), some (vI c), some (vI f), some (vI t), some (vI e), some (vJ u0), none, some (vI many), some (vJ u1), none, some (vI (n0)), some (vI 0), k1], [], S) = rn xL_text (485, [some (vR 0), some (vI x), some (vI y), some (vI w), some (vI a), some (vI b), some (vI r), some (vI c), some (vI f), some (vI t), some (vI e), some (vJ u0), none, some (vI many), some (vJ u1), none, some (vI (n0)), some (vI 0), k1], [], S) := by
  simp (disch := omega) only [eL_text_345, eL_text_346, eL_text_348, eL_text_350, eL_text_353, eL_text_356, eL_text_358, eL_text_361, eL_text_362, eL_text_364, eL_text_366, eL_text_368, eL_text_371, eL_text_374, eL_text_375, eL_text_378, eL_text_379, eL_text_381, eL_text_383, eL_text_386, eL_text_389, eL_text_391, eL_text_394, eL_text_396, eL_text_399, eL_text_400, eL_text_403, eL_text_406, eL_text_409, eL_text_410, eL_text_413, eL_text_416, eL_text_417, eL_text_420, eL_text_421, eL_text_423, eL_text_425, eL_text_428, eL_text_431, eL_text_433, eL_text_436, eL_text_437, eL_text_440, eL_text_443, eL_text_444, eL_text_447, eL_text_448, eL_text_450, eL_text_452, eL_text_455, eL_text_458, eL_text_460, eL_text_463, eL_text_464, eL_text_467, eL_text_470, eL_text_471, eL_text_474, eL_text_475, eL_text_477, eL_text_479, eL_text_482, if_pos, if_neg, if_true, if_false, Option.bind_some, Option.toList_some, Option.toList_none, List.cons_append, List.nil_append]
theorem l_txZ3 {n0 : Int} : rn xL_text (381, [some (vR 0), some (vI x), some (vI y), some (vI w), some (vI a), some (vI b), some (vI r), some (vI c), some (vI f), some (vI t), some (vI e), some (vJ u0), none, some (vI many), some (vJ u1), none, some (vI (n0)), some (vI 0), k1], [], S) = rn xL_text (485, [some (vR 0), some (vI x), some (vI y), some (vI w), some (vI a), some (vI b), some (vI r), some (vI c), some (vI f), some (vI t), some (vI e), some (vJ u0), none, some (vI many), some (vJ u1), none, some (vI (n0)), some (vI 0), k1], [], S) := by
  simp (disch := omega) only [eL_text_345, eL_text_346, eL_text_348, eL_text_350, eL_text_353, eL_text_356, eL_text_358, eL_text_361, eL_text_362, eL_text_364, eL_text_366, eL_text_368, eL_text_371, eL_text_374, eL_text_375, eL_text_378, eL_text_379, eL_text_381, eL_text_383, eL_text_386, eL_text_389, eL_text_391, eL_text_394, eL_text_396, eL_text_399, eL_text_400, eL_text_403, eL_text_406, eL_text_409, eL_text_410, eL_text_413, eL_text_416, eL_text_417, eL_text_420, eL_text_421, eL_text_423, eL_text_425, eL_text_428, eL_text_431, eL_text_433, eL_text_436, eL_text_437, eL_text_440, eL_text_443, eL_text_444, eL_text_447, eL_text_448, eL_text_450, eL_text_452, eL_text_455, eL_text_458, eL_text_460, eL_text_463, eL_text_464, eL_text_467, eL_text_470, eL_text_471, eL_text_474, eL_text_475, eL_text_477, eL_text_479, eL_text_482, if_pos, if_neg, if_true, if_false, Option.bind_some, Option.toList_some, Option.toList_none, List.cons_append, List.nil_append]
theorem l_txZ4 {n0 : Int} : rn xL_text (423, [some (vR 0), some (vI x), some (vI y), some (vI w), some (vI a), some (vI b), some (vI r), some (vI c), some (vI f), some (vI t), some (vI e), some (vJ u0), none, some (vI many), some (vJ u1), none, some (vI (n0)), some (vI 0), k1], [], S) = rn xL_text (485, [some (vR 0), some (vI x), some (vI y), some (vI w), some (vI a), some (vI b), some (vI r), some (vI c), some (vI f), some (vI t), some (vI e), some (vJ u0), none, some (vI many), some (vJ u1), none, some (vI (n0)), some (vI 0), k1], [], S) := by
  simp (disch := omega) only [eL_text_345, eL_text_346, eL_text_348, eL_text_350, eL_text_353, eL_text_356, eL_text_358, eL_text_361, eL_text_362, eL_text_364, eL_text_366, eL_text_368, eL_text_371, eL_text_374, eL_text_375, eL_text_378, eL_text_379, eL_text_381, eL_text_383, eL_text_386, eL_text_389, eL_text_391, eL_text_394, eL_text_396, eL_text_399, eL_text_400, eL_text_403, eL_text_406, eL_text_409, eL_text_410, eL_text_413, eL_text_416, eL_text_417, eL_text_420, eL_text_421, eL_text_423, eL_text_425, eL_text_428, eL_text_431, eL_text_433, eL_text_436, eL_text_437, eL_text_440, eL_text_443, eL_text_444, eL_text_447, eL_text_448, eL_text_450, eL_text_452, eL_text_455, eL_text_458, eL_text_460, eL_text_463, eL_text_464, eL_text_467, eL_text_470, eL_text_471, eL_text_474, eL_text_475, eL_text_477, eL_text_479, eL_text_482, if_pos, if_neg, if_true, if_false, Option.bind_some, Option.toList_some, Option.toList_none, List.cons_append, List.nil_append]
theorem l_txE {n0 : Int} (hx : XIs S A m H K V P n) (hn : (0 ≤ many ∧ many ≤ 10) ∧ n0 = many) (hu : u1 = prF A) : rn xL_text (485, [some (vR 0), some (vI x), some (vI y), some (vI w), some (vI a), some (vI b), some (vI r), some (vI c), some (vI f), some (vI t), some (vI e), some (vJ u0), none, some (vI many), some (vJ u1), none, some (vI (n0)), k1, k2], [], S) = some (some (vI 1), S) := by
  have e := s_print hx
  have hb := prF_b A
  obtain ⟨hn, rfl⟩ := hn
  subst hu
  simp (disch := omega) only [eL_text_485, eL_text_487, eL_text_489, eL_text_492, eL_text_493, eL_text_496, eL_text_498, eL_text_499, eL_text_502, eL_text_503, eL_text_506, eL_text_507, if_pos, if_neg, if_true, if_false, Option.bind_some, Option.toList_some, Option.toList_none, List.cons_append, List.nil_append, e]
/-- the orders, one by one -/
def txL (w a b r c f t k : Int) : List (Int × Int × List (Int × Int × Int)) := [(115, w, [(a, b, r), (c, c, 1)]), (102, -6, [(f, t, 0)]), (k, 0, []), (103, 0, []), (108, 0, [])]
theorem crL_1 {B : Nat → Int} : crL w [(c, c, 1)] B = if errLay B w c 1 < 0 then (false, B) else (true, mLay B w c 1) := by
  have e1 : (c - c + 1).toNat = 1 := by omega
  rw [crL]
  dsimp only
  rw [e1, lyF]
  split
  · rw [if_neg (fun z => ft z)]
  · rw [lyF, if_pos rfl, crL]
theorem crL_2 : crL w [(a, b, r), (c, c, 1)] A = if (lyF w r (b - a + 1).toNat A a).1 = true then crL w [(c, c, 1)] (lyF w r (b - a + 1).toNat A a).2 else (false, (lyF w r (b - a + 1).toNat A a).2) := by
  rw [crL]
theorem crO_e : crO ((if e = 1 then 100 else 103), 0, []) A = if e = 1 then (if errDry A < 0 then (false, A) else (true, mDry A)) else (true, mBegin A) := by
  by_cases q : e = 1
  · rw [if_pos q, if_pos q, crO_d]
  · rw [if_neg q, if_neg q, crO_g]
theorem crO_fl {B : Nat → Int} (h : errFl (-6) f t = 0) : crO (102, -6, [(f, t, 0)]) B = (true, mTake B (-6) f t) := by
  rw [crO_f, if_neg (by omega)]
theorem l_tx2 (hw : 0 ≤ w ∧ w ≤ 2) (ha : 0 ≤ a ∧ a ≤ 9) (hb : 10 ≤ b ∧ b ≤ 99) (hr : 1 ≤ r ∧ r ≤ 9) (hc : 0 ≤ c ∧ c ≤ 9) (hf : 0 ≤ f ∧ f ≤ 9) (ht : 10 ≤ t ∧ t ≤ 99) (he : e = 0 ∨ e = 1) (h : LX S A K V) (hm : many = ((crT (txL w a b r c f t (if e = 1 then 100 else 103)) A).1 : Int)) (hu : u1 = prF (crT (txL w a b r c f t (if e = 1 then 100 else 103)) A).2) : ∃ (S' : MM) (A' : Nat → Int), rn xL_text (278, [some (vR 0), some (vI x), some (vI y), some (vI w), some (vI a), some (vI b), some (vI r), some (vI c), some (vI f), some (vI t), some (vI e), some (vJ u0), none, some (vI many), some (vJ u1), none, k1, k2, k3], [], S) = some (some (vI 1), S') ∧ LX S' A' K V ∧ fr S S' := by
  obtain ⟨S1, key', i1, L1, g1⟩ := l_txK (x := x) (y := y) (a := a) (c := c) (f := f) (t := t) (e := e) (many := many) (u0 := u0) (u1 := u1) hw (show 0 ≤ b ∧ b ≤ 299 by omega) hr (b - a + 1).toNat a A S rfl (by omega) h
  have hs : ∀ z, rn xL_text (278, [some (vR 0), some (vI x), some (vI y), some (vI w), some (vI a), some (vI b), some (vI r), some (vI c), some (vI f), some (vI t), some (vI e), some (vJ u0), none, some (vI many), some (vJ u1), none, k1, k2, z], [], S) = rn xL_text (288, [some (vR 0), some (vI x), some (vI y), some (vI w), some (vI a), some (vI b), some (vI r), some (vI c), some (vI f), some (vI t), some (vI e), some (vJ u0), none, some (vI many), some (vJ u1), none, some (vI 0), some (vI 1), some (vI (a))], [], S) := fun z => by
    simp (disch := omega) only [eL_text_278, eL_text_279, eL_text_281, eL_text_282, eL_text_284, eL_text_286, if_pos, if_neg, if_true, if_false, Option.bind_some, Option.toList_some, Option.toList_none, List.cons_append, List.nil_append]
  rw [hs k3, i1]
  unfold txL at hm hu
  rw [crT, crO_s, crL_2] at hm hu
  by_cases q1 : (lyF w r (b - a + 1).toNat A a).1 = true
  · rw [if_pos q1] at hm hu
    rw [if_pos q1]
    obtain ⟨m1, H1, P1, n1, L1⟩ := L1
    generalize hA1 : (lyF w r (b - a + 1).toNat A a).2 = A1 at hm hu L1
    rw [crL_1] at hm hu
    by_cases q2 : errLay A1 w c 1 < 0
    · rw [if_pos q2, if_neg (fun z => ft z)] at hm hu
      have eX := s_stoneX L1.1 (w := w) (key := c) (t := 1) (by omega) (by omega) (by omega) q2
      have hb4 := errLay_v (A := A1) (w := w) (key := c) (t := 1)
      refine ⟨S1, A1, ?_, ⟨_, _, _, _, L1⟩, g1⟩
      have hm : many = 0 := hm
      simp (disch := omega) only [eL_text_325, eL_text_327, eL_text_330, eL_text_331, eL_text_332, eL_text_334, eL_text_335, eL_text_338, eL_text_341, eL_text_342, eL_text_345, eL_text_346, if_pos, if_neg, if_true, if_false, Option.bind_some, Option.toList_some, Option.toList_none, List.cons_append, List.nil_append, eX]
      rw [l_txZ]
      exact l_txE L1.1 ⟨by omega, hm.symm⟩ hu
    · rw [if_neg q2, if_pos rfl] at hm hu
      have hb4 : errLay A1 w c 1 = 0 ∧ (0 ≤ w ∧ w ≤ 2) ∧ (0 ≤ c ∧ c ≤ 299) ∧ (1 ≤ (1 : Int) ∧ (1 : Int) ≤ 9) ∧ (cnt (RA A1 w.toNat) 300 < 40 ∨ 0 < RA A1 w.toNat c.toNat) := by
        rcases errLay_v (A := A1) (w := w) (key := c) (t := 1) with z | z
        · exact z
        · omega
      obtain ⟨S2, e2, L2, g2⟩ := o_stone L1 (w := w.toNat) (key := c) (t := 1) (by omega) hb4.2.2.1 (by omega) hb4.2.2.2.2
      rw [Int.toNat_of_nonneg hw.1] at e2 L2
      have hrb := L1.1.aok.2.1 w.toNat c.toNat (by omega) (by omega)
      obtain ⟨S3, e3, L3, g3⟩ := o_flood L2 (w := -6) (a := f) (b := t) (Or.inl rfl) (by omega) (by omega)
      have n0 := L2.1.aok.2.2.1 0 (by omega)
      have n1 := L2.1.aok.2.2.1 1 (by omega)
      have n2 := L2.1.aok.2.2.1 2 (by omega)
      have y0 := cnt_nR (A := mLay A1 w c 1) (w0 := -6) (a := f) (b := t) 0
      have y1 := cnt_nR (A := mLay A1 w c 1) (w0 := -6) (a := f) (b := t) 1
      have y2 := cnt_nR (A := mLay A1 w c 1) (w0 := -6) (a := f) (b := t) 2
      have g3 := (g1.trans g2).trans g3
      have eF : errFl (-6) f t = 0 := by
        unfold errFl
        rw [if_neg (by omega), if_pos (by omega)]
      dsimp only at hm hu
      rw [crT, crO_fl eF, if_pos rfl] at hm hu
      dsimp only at hm hu
      have i2 : rn xL_text (325, [some (vR 0), some (vI x), some (vI y), some (vI w), some (vI a), some (vI b), some (vI r), some (vI c), some (vI f), some (vI t), some (vI e), some (vJ u0), none, some (vI many), some (vJ u1), none, some (vI 0), some (vI 1), some (vI (key'))], [], S1) = rn xL_text (381, [some (vR 0), some (vI x), some (vI y), some (vI w), some (vI a), some (vI b), some (vI r), some (vI c), some (vI f), some (vI t), some (vI e), some (vJ u0), none, some (vI many), some (vJ u1), none, some (vI 1), some (vI 1), some (vI (key'))], [], S3) := by
        simp (disch := omega) only [eL_text_325, eL_text_327, eL_text_330, eL_text_331, eL_text_332, eL_text_334, eL_text_335, eL_text_338, eL_text_341, eL_text_342, eL_text_345, eL_text_346, eL_text_348, eL_text_350, eL_text_353, eL_text_356, eL_text_358, eL_text_361, eL_text_362, eL_text_364, eL_text_366, eL_text_368, eL_text_371, eL_text_374, eL_text_375, eL_text_378, eL_text_379, if_pos, if_neg, if_true, if_false, Option.bind_some, Option.toList_some, Option.toList_none, List.cons_append, List.nil_append, e2, e3, Int.zero_add]
      rw [i2]
      generalize mTake (mLay A1 w c 1) (-6) f t = A3 at hm hu L3
      rw [crT, crO_e] at hm hu
      have b0 := L3.1.aok.2.2.1 0 (by omega)
      have fin : ∀ (S4 : MM) (A4 : Nat → Int) (m4 : Nat) (H4 : Nat → Nat → Int) (P4 : Nat → Int) (n4 : Nat), LWs S4 A4 m4 H4 K V P4 n4 → many = (((crT [(103, 0, []), (108, 0, [])] A4).1 + 1 + 1 + 1 : Nat) : Int) → u1 = prF (crT [(103, 0, []), (108, 0, [])] A4).2 → ∃ (S' : MM) (A' : Nat → Int), rn xL_text (423, [some (vR 0), some (vI x), some (vI y), some (vI w), some (vI a), some (vI b), some (vI r), some (vI c), some (vI f), some (vI t), some (vI e), some (vJ u0), none, some (vI many), some (vJ u1), none, some (vI 2), some (vI 1), some (vI (key'))], [], S4) = some (some (vI 1), S') ∧ LX S' A' K V ∧ fr S4 S' := by
        intro S4 A4 m4 H4 P4 n4 L4 hm hu
        obtain ⟨S5, e5, L5, g5⟩ := o_begin L4
        rw [crT, crO_g, if_pos rfl] at hm hu
        dsimp only at hm hu
        rw [crT, crO_l] at hm hu
        by_cases q5 : mBegin A4 4 = 1
        · rw [if_pos q5, if_pos rfl] at hm hu
          obtain ⟨S6, e6, L6, g6⟩ := o_leap L5 q5
          have nb := nxtW_b (mBegin A4)
          refine ⟨S6, _, ?_, ⟨_, _, _, _, L6⟩, g5.trans g6⟩
          have hm : many = 5 := hm
          rw [if_neg (by omega)] at e5
          simp (disch := omega) only [eL_text_423, eL_text_425, eL_text_428, eL_text_431, eL_text_433, eL_text_436, eL_text_437, eL_text_440, eL_text_443, eL_text_444, eL_text_447, eL_text_448, eL_text_450, eL_text_452, eL_text_455, eL_text_458, eL_text_460, eL_text_463, eL_text_464, eL_text_467, eL_text_470, eL_text_471, eL_text_474, eL_text_475, eL_text_477, eL_text_479, eL_text_482, if_pos, if_neg, if_true, if_false, Option.bind_some, Option.toList_some, Option.toList_none, List.cons_append, List.nil_append, e5, e6, ta2, ta3, show (3 : Int) + 1 = 4 from rfl, show (4 : Int) + 1 = 5 from rfl]
          exact l_txE L6.1 ⟨by omega, hm.symm⟩ hu
        · rw [if_neg q5, if_neg (fun z => ft z)] at hm hu
          have e6 := s_leapX L5.1 q5
          refine ⟨S5, _, ?_, ⟨_, _, _, _, L5⟩, g5⟩
          have hm : many = 4 := hm
          by_cases q6 : mBegin A4 4 = 2
          · rw [if_pos q6] at e5
            simp (disch := omega) only [eL_text_423, eL_text_425, eL_text_428, eL_text_431, eL_text_433, eL_text_436, eL_text_437, eL_text_440, eL_text_443, eL_text_444, eL_text_447, eL_text_448, eL_text_450, eL_text_452, eL_text_455, eL_text_458, eL_text_460, eL_text_463, eL_text_464, eL_text_467, eL_text_470, eL_text_471, eL_text_474, eL_text_475, eL_text_477, eL_text_479, eL_text_482, if_pos, if_neg, if_true, if_false, Option.bind_some, Option.toList_some, Option.toList_none, List.cons_append, List.nil_append, e5, e6, ta2, ta3, show (3 : Int) + 1 = 4 from rfl]
            exact l_txE L5.1 ⟨by omega, hm.symm⟩ hu
          · rw [if_neg q6] at e5
            simp (disch := omega) only [eL_text_423, eL_text_425, eL_text_428, eL_text_431, eL_text_433, eL_text_436, eL_text_437, eL_text_440, eL_text_443, eL_text_444, eL_text_447, eL_text_448, eL_text_450, eL_text_452, eL_text_455, eL_text_458, eL_text_460, eL_text_463, eL_text_464, eL_text_467, eL_text_470, eL_text_471, eL_text_474, eL_text_475, eL_text_477, eL_text_479, eL_text_482, if_pos, if_neg, if_true, if_false, Option.bind_some, Option.toList_some, Option.toList_none, List.cons_append, List.nil_append, e5, e6, ta2, ta3, show (3 : Int) + 1 = 4 from rfl]
            exact l_txE L5.1 ⟨by omega, hm.symm⟩ hu
      rcases he with he | he
      · subst he
        rw [if_neg (show ¬ (0 : Int) = 1 by decide), if_pos rfl] at hm hu
        dsimp only at hm hu
        obtain ⟨S4, e4, L4, g4⟩ := o_begin L3
        obtain ⟨S5, A5, i5, L5, g5⟩ := fin S4 _ _ _ _ _ L4 (by rw [hm]) hu
        refine ⟨S5, A5, ?_, L5, (g3.trans g4).trans g5⟩
        rw [← i5]
        by_cases q6 : mBegin A3 4 = 2
        · rw [if_pos q6] at e4
          simp (disch := omega) only [eL_text_381, eL_text_383, eL_text_386, eL_text_389, eL_text_391, eL_text_394, eL_text_396, eL_text_399, eL_text_400, eL_text_403, eL_text_406, eL_text_409, eL_text_410, eL_text_413, eL_text_416, eL_text_417, eL_text_420, eL_text_421, if_pos, if_neg, if_true, if_false, Option.bind_some, Option.toList_some, Option.toList_none, List.cons_append, List.nil_append, e4, ta2]
        · rw [if_neg q6] at e4
          simp (disch := omega) only [eL_text_381, eL_text_383, eL_text_386, eL_text_389, eL_text_391, eL_text_394, eL_text_396, eL_text_399, eL_text_400, eL_text_403, eL_text_406, eL_text_409, eL_text_410, eL_text_413, eL_text_416, eL_text_417, eL_text_420, eL_text_421, if_pos, if_neg, if_true, if_false, Option.bind_some, Option.toList_some, Option.toList_none, List.cons_append, List.nil_append, e4, ta2]
      · subst he
        rw [if_pos (show (1 : Int) = 1 from rfl)] at hm hu
        by_cases q4 : errDry A3 < 0
        · rw [if_pos q4, if_neg (fun z => ft z)] at hm hu
          have e4 := s_dryX L3.1 q4
          have hb5 := errDry_v (A := A3)
          refine ⟨S3, A3, ?_, ⟨_, _, _, _, L3⟩, g3⟩
          have hm : many = 2 := hm
          simp (disch := omega) only [eL_text_381, eL_text_383, eL_text_386, eL_text_389, eL_text_391, eL_text_394, eL_text_396, eL_text_399, eL_text_400, eL_text_403, eL_text_406, eL_text_409, eL_text_410, eL_text_413, eL_text_416, eL_text_417, eL_text_420, eL_text_421, if_pos, if_neg, if_true, if_false, Option.bind_some, Option.toList_some, Option.toList_none, List.cons_append, List.nil_append, e4, ta2]
          rw [l_txZ4]
          exact l_txE L3.1 ⟨by omega, hm.symm⟩ hu
        · rw [if_neg q4, if_pos rfl] at hm hu
          dsimp only at hm hu
          have e0 : errDry A3 = 0 := by
            rcases errDry_v (A := A3) with z | z
            · exact z
            · omega
          obtain ⟨S4, e4, L4, g4⟩ := o_dry L3 e0
          obtain ⟨S5, A5, i5, L5, g5⟩ := fin S4 _ _ _ _ _ L4 (by rw [hm]) hu
          refine ⟨S5, A5, ?_, L5, (g3.trans g4).trans g5⟩
          rw [← i5]
          have k0 := cnt_le (tk A3 0) 300
          have k1 := cnt_le (tk A3 1) 300
          have k2 := cnt_le (tk A3 2) 300
          simp (disch := omega) only [eL_text_381, eL_text_383, eL_text_386, eL_text_389, eL_text_391, eL_text_394, eL_text_396, eL_text_399, eL_text_400, eL_text_403, eL_text_406, eL_text_409, eL_text_410, eL_text_413, eL_text_416, eL_text_417, eL_text_420, eL_text_421, if_pos, if_neg, if_true, if_false, Option.bind_some, Option.toList_some, Option.toList_none, List.cons_append, List.nil_append, e4, ta2]
  · rw [if_neg q1, if_neg (fun z => ft z)] at hm hu
    rw [if_neg q1]
    obtain ⟨m1, H1, P1, n1, L1⟩ := L1
    refine ⟨S1, _, ?_, ⟨_, _, _, _, L1⟩, g1⟩
    have hm : many = 0 := hm
    simp (disch := omega) only [eL_text_325, eL_text_327, eL_text_330, eL_text_331, eL_text_332, eL_text_334, eL_text_335, eL_text_338, eL_text_341, eL_text_342, eL_text_345, eL_text_346, if_pos, if_neg, if_true, if_false, Option.bind_some, Option.toList_some, Option.toList_none, List.cons_append, List.nil_append]
    rw [l_txZ]
    exact l_txE L1.1 ⟨by omega, hm.symm⟩ hu
end TXT1
set_option maxHeartbeats 1000000 in
theorem l_tx1 {x y w a b r c f t e : Int} (hw : 0 ≤ w ∧ w ≤ 2) (ha : 0 ≤ a ∧ a ≤ 9) (hb : 10 ≤ b ∧ b ≤ 99) (hr : 1 ≤ r ∧ r ≤ 9) (hc : 0 ≤ c ∧ c ≤ 9) (hf : 0 ≤ f ∧ f ≤ 9) (ht : 10 ≤ t ∧ t ≤ 99) (he : e = 0 ∨ e = 1) (h : LWs S A m H K V P n) : ∃ (S' : MM) (A' : Nat → Int), rn xL_text (92, [some (vR 0), some (vI x), some (vI y), some (vI w), some (vI a), some (vI b), some (vI r), some (vI c), some (vI f), some (vI t), some (vI e), none, none, none, none, none, none, none, none], [], S) = some (some (vI 1), S') ∧ LX S' A' K V ∧ fr S S' := by
  have hn80 := h.1.n80
  obtain ⟨S1, e1, L1, g1⟩ := o_wipe h
  obtain ⟨S2, P2, e2, L2, g2, -, p0, p1, p2, p3, p4, p5, p6, p7⟩ := t_type (c1 := 48 + w) (c2 := 58) (c3 := 48 + a) (c4 := 45) (c5 := 48 + b / 10) (c6 := 48 + b % 10) (c7 := 42) (c8 := 48 + r) L1 (by decide) (by unfold chr; omega) (by unfold chr; omega) (by unfold chr; omega) (by unfold chr; omega) (by unfold chr; omega) (by unfold chr; omega) (by unfold chr; omega) (by unfold chr; omega)
  obtain ⟨S3, P3, e3, L3, g3, k3, q0, q1, q2, q3, q4, q5, q6, q7⟩ := t_type (n := 8) (c1 := 44) (c2 := 48 + c) (c3 := 59) (c4 := 102) (c5 := 42) (c6 := 58) (c7 := 48 + f) (c8 := 45) L2 (by decide) (by unfold chr; omega) (by unfold chr; omega) (by unfold chr; omega) (by unfold chr; omega) (by unfold chr; omega) (by unfold chr; omega) (by unfold chr; omega) (by unfold chr; omega)
  obtain ⟨S4, P4, e4, L4, g4, k4, r0, r1, r2, r3, r4, r5, r6, r7⟩ := t_type (n := 16) (c1 := 48 + t / 10) (c2 := 48 + t % 10) (c3 := 59) (c4 := if e = 1 then 100 else 103) (c5 := 59) (c6 := 103) (c7 := 59) (c8 := 108) L3 (by decide) (by unfold chr; omega) (by unfold chr; omega) (by unfold chr; omega) (by unfold chr; split <;> omega) (by unfold chr; omega) (by unfold chr; omega) (by unfold chr; omega) (by unfold chr; omega)
  simp only [Nat.zero_add, Nat.reduceAdd] at p0 p1 p2 p3 p4 p5 p6 p7 q0 q1 q2 q3 q4 q5 q6 q7 r0 r1 r2 r3 r4 r5 r6 r7 L4
  have nxv : ∀ (j : Nat) (z : Int), j < 24 → P4 j = z → nx P4 24 j = z := fun j z hj hz => by
    unfold nx
    rw [if_pos hj, hz]
  have b3 : ∀ j, j < 16 → P4 j = P3 j := fun j hj => k4 j hj
  have b2 : ∀ j, j < 8 → P4 j = P2 j := fun j hj => (k4 j (by omega)).trans (k3 j hj)
  have hT := tx_all (P := P4) (w := w) (a := a) (b := b) (r := r) (c := c) (f := f) (t := t) (k := if e = 1 then 100 else 103) hw ha hb hr hc hf ht (by split <;> omega)
    (nxv 0 _ (by decide) ((b2 0 (by decide)).trans p0)) (nxv 1 _ (by decide) ((b2 1 (by decide)).trans p1)) (nxv 2 _ (by decide) ((b2 2 (by decide)).trans p2)) (nxv 3 _ (by decide) ((b2 3 (by decide)).trans p3)) (nxv 4 _ (by decide) ((b2 4 (by decide)).trans p4)) (nxv 5 _ (by decide) ((b2 5 (by decide)).trans p5)) (nxv 6 _ (by decide) ((b2 6 (by decide)).trans p6)) (nxv 7 _ (by decide) ((b2 7 (by decide)).trans p7))
    (nxv 8 _ (by decide) ((b3 8 (by decide)).trans q0)) (nxv 9 _ (by decide) ((b3 9 (by decide)).trans q1)) (nxv 10 _ (by decide) ((b3 10 (by decide)).trans q2)) (nxv 11 _ (by decide) ((b3 11 (by decide)).trans q3)) (nxv 12 _ (by decide) ((b3 12 (by decide)).trans q4)) (nxv 13 _ (by decide) ((b3 13 (by decide)).trans q5)) (nxv 14 _ (by decide) ((b3 14 (by decide)).trans q6)) (nxv 15 _ (by decide) ((b3 15 (by decide)).trans q7))
    (nxv 16 _ (by decide) r0) (nxv 17 _ (by decide) r1) (nxv 18 _ (by decide) r2) (nxv 19 _ (by decide) r3) (nxv 20 _ (by decide) r4) (nxv 21 _ (by decide) r5) (nxv 22 _ (by decide) r6) (nxv 23 _ (by decide) r7)
  obtain ⟨S5, e5, L5, g5⟩ := o_fault L4
  have hfl : fltF P4 24 = -6 := by
    unfold fltF
    rw [hT, if_pos rfl]
  rw [hfl] at e5
  have u5 := s_print L5.1
  obtain ⟨S6, e6, X6, g6⟩ := s_carryOut L5.1 (by rw [hT])
  rw [hT] at e6 X6
  dsimp only at e6 X6
  have k6 := r_c6 X6
  have u6 := s_print X6
  obtain ⟨S7, e7, X7, g7⟩ := s_undo X6 mM_pos
  rw [mH_top h.1.m6] at X7
  have hm7 : mM m ≤ 6 := by unfold mM; split <;> omega
  have u7 := s_print X7
  have L7 : LX S7 A K V := ⟨_, _, _, _, X7, h.2.1, fun j hj => hist_iv h j (by omega)⟩
  have hmp := mM_pos (m := m)
  obtain ⟨S8, A8, i8, L8, g8⟩ := l_tx2 (x := x) (y := y) (many := ((crT (txL w a b r c f t (if e = 1 then 100 else 103)) A).1 : Int)) (u0 := prF A) (u1 := prF (crT (txL w a b r c f t (if e = 1 then 100 else 103)) A).2) (k1 := none) (k2 := none) (k3 := none) hw ha hb hr hc hf ht he L7 rfl rfl
  have gg : fr S S8 := ((((((g1.trans g2).trans g3).trans g4).trans g5).trans g6).trans g7).trans g8
  have e6' : fX8_carryOut [vR 0] S5 = some (some (vI ((crT (txL w a b r c f t (if e = 1 then 100 else 103)) A).1 : Int)), S6) := e6
  have u6' : fL_print [vR 0] S6 = some (some (vJ (prF (crT (txL w a b r c f t (if e = 1 then 100 else 103)) A).2)), S6) := u6
  have hmany : (crT (txL w a b r c f t (if e = 1 then 100 else 103)) A).1 ≤ 5 := by
    have key : ∀ (l : List (Int × Int × List (Int × Int × Int))) (B : Nat → Int), (crT l B).1 ≤ l.length := by
      intro l
      induction l with
      | nil => intro B; exact Nat.le_refl _
      | cons o l ih =>
        intro B
        rw [crT]
        split
        · have := ih (crO o B).2
          show (crT l (crO o B).2).1 + 1 ≤ l.length + 1
          omega
        · exact Nat.zero_le _
    exact key _ A
  have hb1 := prF_b A
  have hb2 := prF_b (crT (txL w a b r c f t (if e = 1 then 100 else 103)) A).2
  refine ⟨S8, A8, ?_, L8, gg⟩
  rw [← i8]
  clear i8
  have k6' : fX8_count [vR 0, vI 6] S6 = some (some (vI 0), S6) := k6
  obtain ⟨cr, hcr⟩ : ∃ cr, cr = crT (txL w a b r c f t (if e = 1 then 100 else 103)) A := ⟨_, rfl⟩
  rw [← hcr] at e6' u6' hmany hb2 ⊢
  clear hcr e6 u6 hT
  rcases he with he | he
  · subst he
    rw [if_neg (show ¬ (0 : Int) = 1 by decide)] at e4
    simp (disch := omega) only [eL_text_92, eL_text_93, eL_text_96, eL_text_97, eL_text_98, eL_text_100, eL_text_101, eL_text_102, eL_text_104, eL_text_106, eL_text_108, eL_text_109, eL_text_111, eL_text_113, eL_text_115, eL_text_117, eL_text_118, eL_text_119, eL_text_121, eL_text_123, eL_text_125, eL_text_126, eL_text_127, eL_text_129, eL_text_131, eL_text_133, eL_text_134, eL_text_137, eL_text_140, eL_text_141, eL_text_143, eL_text_145, eL_text_147, eL_text_148, eL_text_150, eL_text_152, eL_text_154, eL_text_156, eL_text_158, eL_text_160, eL_text_161, eL_text_163, eL_text_166, eL_text_169, eL_text_170, eL_text_172, eL_text_174, eL_text_176, eL_text_177, eL_text_178, eL_text_180, eL_text_182, eL_text_184, eL_text_185, eL_text_186, eL_text_188, eL_text_190, eL_text_193, eL_text_195, eL_text_198, eL_text_200, eL_text_202, eL_text_204, eL_text_206, eL_text_208, eL_text_211, eL_text_214, eL_text_215, eL_text_218, eL_text_220, eL_text_223, eL_text_224, eL_text_225, eL_text_226, eL_text_229, eL_text_231, eL_text_232, eL_text_235, eL_text_237, eL_text_239, eL_text_242, eL_text_243, eL_text_245, eL_text_248, eL_text_251, eL_text_252, eL_text_253, eL_text_254, eL_text_257, eL_text_259, eL_text_260, eL_text_263, eL_text_266, eL_text_267, eL_text_270, eL_text_272, eL_text_273, eL_text_276, eL_text_277, if_pos, if_neg, if_true, if_false, Option.bind_some, Option.toList_some, Option.toList_none, List.cons_append, List.nil_append, e1, e2, e3, e4, e5, u5, e6', k6', u6', e7, u7]
  · subst he
    rw [if_pos (show (1 : Int) = 1 from rfl)] at e4
    simp (disch := omega) only [eL_text_92, eL_text_93, eL_text_96, eL_text_97, eL_text_98, eL_text_100, eL_text_101, eL_text_102, eL_text_104, eL_text_106, eL_text_108, eL_text_109, eL_text_111, eL_text_113, eL_text_115, eL_text_117, eL_text_118, eL_text_119, eL_text_121, eL_text_123, eL_text_125, eL_text_126, eL_text_127, eL_text_129, eL_text_131, eL_text_133, eL_text_134, eL_text_137, eL_text_140, eL_text_141, eL_text_143, eL_text_145, eL_text_147, eL_text_148, eL_text_150, eL_text_152, eL_text_154, eL_text_156, eL_text_158, eL_text_160, eL_text_161, eL_text_163, eL_text_166, eL_text_169, eL_text_170, eL_text_172, eL_text_174, eL_text_176, eL_text_177, eL_text_178, eL_text_180, eL_text_182, eL_text_184, eL_text_185, eL_text_186, eL_text_188, eL_text_190, eL_text_193, eL_text_195, eL_text_198, eL_text_200, eL_text_202, eL_text_204, eL_text_206, eL_text_208, eL_text_211, eL_text_214, eL_text_215, eL_text_218, eL_text_220, eL_text_223, eL_text_224, eL_text_225, eL_text_226, eL_text_229, eL_text_231, eL_text_232, eL_text_235, eL_text_237, eL_text_239, eL_text_242, eL_text_243, eL_text_245, eL_text_248, eL_text_251, eL_text_252, eL_text_253, eL_text_254, eL_text_257, eL_text_259, eL_text_260, eL_text_263, eL_text_266, eL_text_267, eL_text_270, eL_text_272, eL_text_273, eL_text_276, eL_text_277, if_pos, if_neg, if_true, if_false, Option.bind_some, Option.toList_some, Option.toList_none, List.cons_append, List.nil_append, e1, e2, e3, e4, e5, u5, e6', k6', u6', e7, u7]
theorem t_text {x y : Int} (hx : -2147483648 ≤ x ∧ x ≤ 2147483647) (hy : -2147483648 ≤ y ∧ y ≤ 2147483647) (h : LWs S A m H K V P n) : ∃ (S' : MM) (A' : Nat → Int), fL_text [vR 0, vI x, vI y] S = some (some (vI 1), S') ∧ LX S' A' K V ∧ fr S S' := by
  obtain ⟨S1, A1, i1, L1, g1⟩ := l_tx1 (x := x) (y := y) (w := x % 2147483648 % 3) (a := x / 4 % 2147483648 % 10) (b := 10 + x / 64 % 2147483648 % 4) (r := 1 + x / 256 % 2147483648 % 9) (c := x / 4096 % 2147483648 % 10) (f := y % 2147483648 % 10) (t := 10 + y / 16 % 2147483648 % 60) (e := if y / 1024 % 2147483648 % 2 = 0 then 1 else 0) (by omega) (by omega) (by omega) (by omega) (by omega) (by omega) (by omega) (by split <;> omega) h
  refine ⟨S1, A1, ?_, L1, g1⟩
  rw [uL_text, ← i1]
  by_cases q : y / 1024 % 2147483648 % 2 = 0
  · simp (disch := omega) only [eL_text_0, eL_text_1, eL_text_2, eL_text_5, eL_text_6, eL_text_7, eL_text_8, eL_text_9, eL_text_11, eL_text_14, eL_text_16, eL_text_18, eL_text_19, eL_text_21, eL_text_22, eL_text_23, eL_text_26, eL_text_27, eL_text_29, eL_text_30, eL_text_31, eL_text_33, eL_text_34, eL_text_36, eL_text_39, eL_text_40, eL_text_42, eL_text_43, eL_text_45, eL_text_46, eL_text_48, eL_text_51, eL_text_53, eL_text_54, eL_text_56, eL_text_59, eL_text_61, eL_text_63, eL_text_64, eL_text_65, eL_text_66, eL_text_68, eL_text_71, eL_text_72, eL_text_74, eL_text_75, eL_text_77, eL_text_78, eL_text_79, eL_text_82, eL_text_85, eL_text_86, eL_text_89, eL_text_90, if_pos, if_neg, if_true, if_false, Option.bind_some, Option.toList_some, Option.toList_none, List.cons_append, List.nil_append, s_up]
  · simp (disch := omega) only [eL_text_0, eL_text_1, eL_text_2, eL_text_5, eL_text_6, eL_text_7, eL_text_8, eL_text_9, eL_text_11, eL_text_14, eL_text_16, eL_text_18, eL_text_19, eL_text_21, eL_text_22, eL_text_23, eL_text_26, eL_text_27, eL_text_29, eL_text_30, eL_text_31, eL_text_33, eL_text_34, eL_text_36, eL_text_39, eL_text_40, eL_text_42, eL_text_43, eL_text_45, eL_text_46, eL_text_48, eL_text_51, eL_text_53, eL_text_54, eL_text_56, eL_text_59, eL_text_61, eL_text_63, eL_text_64, eL_text_65, eL_text_66, eL_text_68, eL_text_71, eL_text_72, eL_text_74, eL_text_75, eL_text_77, eL_text_78, eL_text_79, eL_text_82, eL_text_85, eL_text_86, eL_text_89, eL_text_90, if_pos, if_neg, if_true, if_false, Option.bind_some, Option.toList_some, Option.toList_none, List.cons_append, List.nil_append, s_up]
end LAW10

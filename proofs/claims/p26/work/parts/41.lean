/-! the law's small methods: keys by place, first places, repeats, turns, prints -/
noncomputable def kth (r : Nat → Int) (j : Nat) : Nat := @dite Nat (∃ k, k < 300 ∧ 0 < r k ∧ cnt r k = j) (Classical.propDecidable _) (fun h => h.choose) (fun _ => 0)
theorem kth_s {r : Nat → Int} {j : Nat} (h : j < cnt r 300) : kth r j < 300 ∧ 0 < r (kth r j) ∧ cnt r (kth r j) = j := by
  have q : ∃ k, k < 300 ∧ 0 < r k ∧ cnt r k = j := cnt_ex h
  unfold kth
  rw [dif_pos q]
  exact q.choose_spec
theorem cnt_inj {r : Nat → Int} {a b : Nat} (ha : 0 < r a) (hb : 0 < r b) (h : cnt r a = cnt r b) : a = b := by
  rcases Nat.lt_trichotomy a b with q | q | q
  · have := cnt_lt q ha
    omega
  · exact q
  · have := cnt_lt q hb
    omega
theorem kth_u {r : Nat → Int} {k j : Nat} (hk : k < 300) (hp : 0 < r k) (hc : cnt r k = j) : kth r j = k := by
  have h1 : cnt r k < cnt r 300 := cnt_lt hk hp
  obtain ⟨a, b, c⟩ := kth_s (r := r) (j := j) (by omega)
  exact cnt_inj b hp (by omega)
theorem kth_lt {r : Nat → Int} {j g : Nat} (h : j < cnt r 300) : kth r j < g ↔ j < cnt r g := by
  obtain ⟨a, b, c⟩ := kth_s h
  constructor
  · intro q
    have := cnt_lt q b
    omega
  · intro q
    apply Nat.lt_of_not_le
    intro z
    have := cnt_mono r z
    omega
theorem kth_mono {r : Nat → Int} {i j : Nat} (hij : i < j) (h : j < cnt r 300) : kth r i < kth r j := by
  obtain ⟨a, b, c⟩ := kth_s h
  rw [kth_lt (by omega)]
  omega
theorem sumk_b {f : Nat → Int} {c : Int} : ∀ {m : Nat}, (∀ k, k < m → 0 ≤ f k ∧ f k ≤ c) → 0 ≤ sumk f m ∧ sumk f m ≤ c * m
  | 0, _ => by
    show (0 : Int) ≤ 0 ∧ (0 : Int) ≤ c * ((0 : Nat) : Int)
    constructor
    · omega
    · rw [show ((0 : Nat) : Int) = 0 from rfl, Int.mul_zero]
      omega
  | m + 1, h => by
    have h1 := sumk_b (m := m) (fun k hk => h k (by omega))
    have h2 := h m (by omega)
    show 0 ≤ sumk f m + f m ∧ sumk f m + f m ≤ c * ((m + 1 : Nat) : Int)
    have e : c * ((m + 1 : Nat) : Int) = c * m + c := by rw [Int.natCast_add, Int.mul_add]; simp
    omega
section LAW
variable {S S' : MM} {A A' : Nat → Int} {m : Nat} {H : Nat → Nat → Int} {K : Nat → Int} {V : Nat → Nat → Int} {P : Nat → Int} {n : Nat}
/-- facts of a row -/
def AOk (A : Nat → Int) : Prop := StgR A ∧ RB (RA A) ∧ (∀ w : Nat, w < 3 → cnt (RA A w) 300 ≤ 40) ∧ (0 ≤ A 7 ∧ A 7 ≤ 4) ∧ RunR A ∧ RunS A (RA A)
theorem SceneIs.aok {s : Nat} (h : SceneIs S s A) : AOk A := by
  obtain ⟨h1, h2, h3, h4, h5, h6, h7, h8⟩ := h
  refine ⟨h2, h3.rb, fun w hw => ?_, h5, h7, h8⟩
  rcases (show w = 0 ∨ w = 1 ∨ w = 2 by omega) with rfl | rfl | rfl
  · exact h3.1.2.1
  · exact h3.2.1.2.1
  · exact h3.2.2.2.1
theorem XIs.aok (h : XIs S A m H K V P n) : AOk A := h.1.aok
theorem XIs.m6 (h : XIs S A m H K V P n) : m ≤ 6 := h.2.2.1.2.2.2.1
theorem XIs.n80 (h : XIs S A m H K V P n) : n ≤ 80 := h.2.2.2.2.2.2.1
theorem ofW_0 {w : Nat} (hw : w < 3) : ofW A w 0 = (cnt (RA A w) 300 : Int) := by
  unfold ofW
  rw [if_neg (by omega), if_neg (by omega), if_pos rfl, Int.toNat_natCast]
theorem ofW_1 {w : Nat} (hw : w < 3) (h4 : A 4 ≠ 0) : ofW A w 1 = (cnt (RA A w) (A (20 + w)).toNat : Int) := by
  unfold ofW
  rw [if_neg (by omega), if_neg (by omega), if_neg (by omega), if_pos ⟨rfl, h4⟩, Int.toNat_natCast]
theorem ofW_2 {w : Nat} (hw : w < 3) (h4 : A 4 ≠ 0) : ofW A w 2 = if A (20 + w) = 300 then -6 else A (20 + w) := by
  unfold ofW figW
  rw [if_neg (by omega), if_neg (by omega), if_neg (by omega), if_neg (by omega), if_neg h4, if_pos rfl, Int.toNat_natCast]
theorem ofW_3 {w : Nat} (hw : w < 3) (h4 : A 4 ≠ 0) : ofW A w 3 = A (8 + w) := by
  unfold ofW figW
  rw [if_neg (by omega), if_neg (by omega), if_neg (by omega), if_neg (by omega), if_neg h4, if_neg (by omega), if_pos rfl, Int.toNat_natCast]
theorem ofW_4 {w : Nat} (hw : w < 3) (h4 : A 4 ≠ 0) : ofW A w 4 = A (11 + w) := by
  unfold ofW figW
  rw [if_neg (by omega), if_neg (by omega), if_neg (by omega), if_neg (by omega), if_neg h4, if_neg (by omega), if_neg (by omega), if_pos rfl, Int.toNat_natCast]
theorem ofW_5 {w : Nat} (hw : w < 3) (h4 : A 4 ≠ 0) : ofW A w 5 = A (14 + w) := by
  unfold ofW figW
  rw [if_neg (by omega), if_neg (by omega), if_neg (by omega), if_neg (by omega), if_neg h4, if_neg (by omega), if_neg (by omega), if_neg (by omega), if_pos rfl, Int.toNat_natCast]
theorem ofW_6 {w : Nat} (hw : w < 3) (h4 : A 4 ≠ 0) : ofW A w 6 = A (17 + w) := by
  unfold ofW figW
  rw [if_neg (by omega), if_neg (by omega), if_neg (by omega), if_neg (by omega), if_neg h4, if_neg (by omega), if_neg (by omega), if_neg (by omega), if_neg (by omega), if_pos rfl, Int.toNat_natCast]
theorem ofW_N {w : Nat} {k : Int} (hw : w < 3) (hk : 1 ≤ k ∧ k ≤ 6) (h4 : A 4 = 0) : ofW A w k = -6 := by
  unfold ofW figW
  rw [if_neg (by omega), if_neg (by omega), if_neg (by omega), if_neg (by omega), if_pos h4]
theorem RunR.w (hr : RunR A) {w : Nat} (hw : w < 3) : (0 ≤ A (20 + w) ∧ A (20 + w) ≤ 300) ∧ (0 ≤ A (8 + w) ∧ A (8 + w) ≤ 300) ∧ (0 ≤ A (14 + w) ∧ A (14 + w) ≤ 300) ∧ (0 ≤ A (11 + w) ∧ A (11 + w) ≤ 24000) ∧ (0 ≤ A (17 + w) ∧ A (17 + w) ≤ 299) := by
  obtain ⟨h1, h2, h3, h4⟩ := hr.2.2.2.2 w hw
  omega
theorem ofW_b (ha : AOk A) {w : Nat} {k : Int} (hw : w < 3) (hk : 0 ≤ k ∧ k ≤ 6) : -6 ≤ ofW A w k ∧ ofW A w k ≤ 100000 := by
  obtain ⟨h1, h2, h3, h4, h5, h6⟩ := ha
  have c := h3 w hw
  obtain ⟨r1, r2, r3, r4, r5⟩ := h5.w hw
  by_cases q : A 4 = 0
  · by_cases q0 : k = 0
    · subst q0
      rw [ofW_0 hw]
      omega
    · rw [ofW_N hw (by omega) q]
      omega
  rcases (show k = 0 ∨ k = 1 ∨ k = 2 ∨ k = 3 ∨ k = 4 ∨ k = 5 ∨ k = 6 by omega) with rfl | rfl | rfl | rfl | rfl | rfl | rfl
  · rw [ofW_0 hw]
    omega
  · rw [ofW_1 hw q]
    have := cnt_mono (RA A w) (show (A (20 + w)).toNat ≤ 300 by omega)
    omega
  · rw [ofW_2 hw q]
    split <;> omega
  · rw [ofW_3 hw q]
    omega
  · rw [ofW_4 hw q]
    omega
  · rw [ofW_5 hw q]
    omega
  · rw [ofW_6 hw q]
    omega
theorem figR_b (ha : AOk A) {k : Int} (hk : 0 ≤ k ∧ k ≤ 7) : -6 ≤ figR A k ∧ figR A k ≤ 1000000 := by
  obtain ⟨h1, h2, h3, h4, h5, h6⟩ := ha
  have w0 := h5.w (w := 0) (by omega)
  have w1 := h5.w (w := 1) (by omega)
  have w2 := h5.w (w := 2) (by omega)
  simp only [Nat.add_zero, Nat.reduceAdd] at w0 w1 w2
  have hs := sumk_b (f := MetA A) (c := 729) (m := 300) h5.2.2.1
  have hc := cnt_le (MetA A) 300
  have a5 := h5.1
  have a6 := h5.2.1
  have a4 := h6.1
  unfold figR
  split
  · omega
  split
  · omega
  split
  · omega
  split
  · omega
  split
  · omega
  split
  · omega
  split
  · omega
  split
  · omega
  · omega
theorem cntF_b (ha : AOk A) (hn : n ≤ 80) (hm : m ≤ 6) {k : Int} : -2 ≤ cntF A m n k ∧ cntF A m n k ≤ 1000 := by
  obtain ⟨⟨s0, s1, s2, s3⟩, h2, h3, h4, h5, h6⟩ := ha
  have c0 := h3 0 (by omega)
  have c1 := h3 1 (by omega)
  have c2 := h3 2 (by omega)
  unfold cntF sumR
  split
  · omega
  split
  · omega
  split
  next q =>
    rcases (show k = 2 ∨ k = 3 ∨ k = 4 ∨ k = 5 by omega) with rfl | rfl | rfl | rfl
    · show -2 ≤ A 0 ∧ A 0 ≤ 1000
      omega
    · show -2 ≤ A 1 ∧ A 1 ≤ 1000
      omega
    · show -2 ≤ A 2 ∧ A 2 ≤ 1000
      omega
    · show -2 ≤ A 3 ∧ A 3 ≤ 1000
      omega
  split
  · omega
  split
  · omega
  · omega
theorem s_up {a b : Int} (hb : 0 < b ∧ b ≤ 2147483647) : fL_up [vI a, vI b] S = some (some (vI (a % 2147483648 % b)), S) := by
  rw [uL_up]
  simp (disch := omega) only [eL_up_0, eL_up_1, eL_up_3, eL_up_4, eL_up_5, eL_up_6, if_pos, if_neg, if_true, if_false, Option.bind_some, Option.toList_some, Option.toList_none, List.cons_append, List.nil_append]
theorem s_cell {k : Int} (hk : 0 ≤ k ∧ k ≤ 1000) (hL : 0 ≤ S 604 1 ∧ S 604 1 ≤ 2147483647) : ∃ z, fL_cell [vR 603, vI k] S = some (some (vI z), S) := by
  rw [uL_cell]
  by_cases q : k < S 604 1
  · refine ⟨S 603 k.toNat, ?_⟩
    simp (disch := omega) only [eL_cell_0, eL_cell_1, eL_cell_2, eL_cell_2x, eL_cell_2y, eL_cell_3, eL_cell_6, eL_cell_7, eL_cell_8, eL_cell_8x, eL_cell_8y, eL_cell_9, eL_cell_12, eL_cell_14, eL_cell_15, eL_cell_18, eL_cell_19, eL_cell_20, if_pos, if_neg, if_true, if_false, Option.bind_some, Option.toList_some, Option.toList_none, List.cons_append, List.nil_append]
  · refine ⟨73244475 * (k + 1619), ?_⟩
    simp (disch := omega) only [eL_cell_0, eL_cell_1, eL_cell_2, eL_cell_2x, eL_cell_2y, eL_cell_3, eL_cell_6, eL_cell_7, eL_cell_8, eL_cell_8x, eL_cell_8y, eL_cell_9, eL_cell_12, eL_cell_14, eL_cell_15, eL_cell_18, eL_cell_19, eL_cell_20, if_pos, if_neg, if_true, if_false, Option.bind_some, Option.toList_some, Option.toList_none, List.cons_append, List.nil_append]
theorem s_ofStoneK (h : XIs S A m H K V P n) {w j : Nat} {what : Int} (hw : w < 3) (hj : j < cnt (RA A w) 300) (hx : 0 ≤ what ∧ what ≤ 1) : fX8_ofStone [vR 0, vI w, vI j, vI what] S = some (some (vI (if what = 0 then (kth (RA A w) j : Int) else RA A w (kth (RA A w) j))), S) := by
  obtain ⟨k, h1, h2, h3, h4⟩ := s_ofStone h (w := (w : Int)) (j := (j : Int)) (what := what) (by omega) (by rw [Int.toNat_natCast]; omega) hx
  rw [Int.toNat_natCast] at h2 h3 h4
  rw [kth_u h1 h2 (by omega)]
  exact h4
theorem l_from (h : XIs S A m H K V P n) {w : Nat} (hw : w < 3) {key : Int} (hk : 0 ≤ key ∧ key ≤ 300) : ∀ (f i : Nat), i + f = cnt (RA A w) 300 → i ≤ cnt (RA A w) key.toNat → rn xL_from (10, [some (vR 0), some (vI w), some (vI key), some (vI (cnt (RA A w) 300)), some (vI i)], [], S) = some (some (vI (cnt (RA A w) key.toNat)), S) := by
  have hc40 := h.aok.2.2.1 w hw
  have hm := cnt_mono (RA A w) (show key.toNat ≤ 300 by omega)
  intro f
  induction f with
  | zero =>
    intro i h1 h2
    rw [eL_from_10]
    simp (disch := omega) only [eL_from_0, eL_from_1, eL_from_2, eL_from_3, eL_from_6, eL_from_7, eL_from_8, eL_from_12, eL_from_13, eL_from_16, eL_from_17, eL_from_18, eL_from_20, eL_from_21, eL_from_24, eL_from_25, eL_from_28, eL_from_30, eL_from_31, eL_from_34, eL_from_37, eL_from_38, if_pos, if_neg, if_true, if_false, Option.bind_some, Option.toList_some, Option.toList_none, List.cons_append, List.nil_append]
    rw [show cnt (RA A w) key.toNat = cnt (RA A w) 300 by omega]
  | succ f ih =>
    intro i h1 h2
    have e := s_ofStoneK h (w := w) (j := i) (what := 0) hw (by omega) (by omega)
    obtain ⟨k1, k2, k3⟩ := kth_s (r := RA A w) (j := i) (by omega)
    have kl := kth_lt (r := RA A w) (j := i) (g := key.toNat) (by omega)
    rw [eL_from_10]
    by_cases q : (kth (RA A w) i : Int) < key
    · have q2 : i < cnt (RA A w) key.toNat := kl.mp (by omega)
      simp (disch := omega) only [eL_from_0, eL_from_1, eL_from_2, eL_from_3, eL_from_6, eL_from_7, eL_from_8, eL_from_12, eL_from_13, eL_from_16, eL_from_17, eL_from_18, eL_from_20, eL_from_21, eL_from_24, eL_from_25, eL_from_28, eL_from_30, eL_from_31, eL_from_34, eL_from_37, eL_from_38, if_pos, if_neg, if_true, if_false, Option.bind_some, Option.toList_some, Option.toList_none, List.cons_append, List.nil_append, e]
      rw [show (i : Int) + 1 = ((i + 1 : Nat) : Int) by omega]
      exact ih (i + 1) (by omega) (by omega)
    · have q2 : ¬ i < cnt (RA A w) key.toNat := fun z => q (by have := kl.mpr z; omega)
      simp (disch := omega) only [eL_from_0, eL_from_1, eL_from_2, eL_from_3, eL_from_6, eL_from_7, eL_from_8, eL_from_12, eL_from_13, eL_from_16, eL_from_17, eL_from_18, eL_from_20, eL_from_21, eL_from_24, eL_from_25, eL_from_28, eL_from_30, eL_from_31, eL_from_34, eL_from_37, eL_from_38, if_pos, if_neg, if_true, if_false, Option.bind_some, Option.toList_some, Option.toList_none, List.cons_append, List.nil_append, e]
      rw [show cnt (RA A w) key.toNat = i by omega]
theorem s_from (h : XIs S A m H K V P n) {w : Nat} (hw : w < 3) {key : Int} (hk : 0 ≤ key ∧ key ≤ 300) : fL_from [vR 0, vI w, vI key] S = some (some (vI (cnt (RA A w) key.toNat)), S) := by
  have e := s_ofWalker h (w := (w : Int)) (what := 0) (by omega) (by omega)
  rw [ofW_0 hw] at e
  rw [uL_from]
  simp (disch := omega) only [eL_from_0, eL_from_1, eL_from_2, eL_from_3, eL_from_6, eL_from_7, eL_from_8, eL_from_12, eL_from_13, eL_from_16, eL_from_17, eL_from_18, eL_from_20, eL_from_21, eL_from_24, eL_from_25, eL_from_28, eL_from_30, eL_from_31, eL_from_34, eL_from_37, eL_from_38, if_pos, if_neg, if_true, if_false, Option.bind_some, Option.toList_some, Option.toList_none, List.cons_append, List.nil_append, e]
  exact l_from h hw hk _ 0 (Nat.zero_add _) (Nat.zero_le _)
theorem s_repeats (h : XIs S A m H K V P n) {w : Nat} (hw : w < 3) {key : Nat} (hk : key < 300) : fL_repeats [vR 0, vI w, vI (key : Int)] S = some (some (vI (RA A w key)), S) := by
  have e := s_ofWalker h (w := (w : Int)) (what := 0) (by omega) (by omega)
  rw [ofW_0 hw] at e
  have e2 := s_from h hw (key := (key : Int)) (by omega)
  rw [Int.toNat_natCast] at e2
  have hc40 := h.aok.2.2.1 w hw
  have hrb := h.aok.2.1 w key hw hk
  have hm := cnt_mono (RA A w) (show key ≤ 300 by omega)
  rw [uL_repeats]
  by_cases q : 0 < RA A w key
  · have q1 : cnt (RA A w) key < cnt (RA A w) 300 := cnt_lt hk q
    have e3 := s_ofStoneK h (w := w) (what := 0) hw q1 (by omega)
    have e4 := s_ofStoneK h (w := w) (what := 1) hw q1 (by omega)
    rw [kth_u hk q rfl] at e3 e4
    simp (disch := omega) only [eL_repeats_0, eL_repeats_1, eL_repeats_2, eL_repeats_3, eL_repeats_6, eL_repeats_7, eL_repeats_8, eL_repeats_9, eL_repeats_10, eL_repeats_11, eL_repeats_14, eL_repeats_17, eL_repeats_18, eL_repeats_19, eL_repeats_20, eL_repeats_21, eL_repeats_24, eL_repeats_25, eL_repeats_28, eL_repeats_29, eL_repeats_30, eL_repeats_31, eL_repeats_32, eL_repeats_35, eL_repeats_38, eL_repeats_39, if_pos, if_neg, if_true, if_false, Option.bind_some, Option.toList_some, Option.toList_none, List.cons_append, List.nil_append, e, e2, e3, e4]
  · have q0 : RA A w key = 0 := by omega
    by_cases q1 : cnt (RA A w) key < cnt (RA A w) 300
    · have e3 := s_ofStoneK h (w := w) (what := 0) hw q1 (by omega)
      obtain ⟨k1, k2, k3⟩ := kth_s (r := RA A w) q1
      have kn : kth (RA A w) (cnt (RA A w) key) ≠ key := fun z => by rw [z] at k2; exact q k2
      simp (disch := omega) only [eL_repeats_0, eL_repeats_1, eL_repeats_2, eL_repeats_3, eL_repeats_6, eL_repeats_7, eL_repeats_8, eL_repeats_9, eL_repeats_10, eL_repeats_11, eL_repeats_14, eL_repeats_17, eL_repeats_18, eL_repeats_19, eL_repeats_20, eL_repeats_21, eL_repeats_24, eL_repeats_25, eL_repeats_28, eL_repeats_29, eL_repeats_30, eL_repeats_31, eL_repeats_32, eL_repeats_35, eL_repeats_38, eL_repeats_39, if_pos, if_neg, if_true, if_false, Option.bind_some, Option.toList_some, Option.toList_none, List.cons_append, List.nil_append, e, e2, e3]
      rw [q0]
    · simp (disch := omega) only [eL_repeats_0, eL_repeats_1, eL_repeats_2, eL_repeats_3, eL_repeats_6, eL_repeats_7, eL_repeats_8, eL_repeats_9, eL_repeats_10, eL_repeats_11, eL_repeats_14, eL_repeats_17, eL_repeats_18, eL_repeats_19, eL_repeats_20, eL_repeats_21, eL_repeats_24, eL_repeats_25, eL_repeats_28, eL_repeats_29, eL_repeats_30, eL_repeats_31, eL_repeats_32, eL_repeats_35, eL_repeats_38, eL_repeats_39, if_pos, if_neg, if_true, if_false, Option.bind_some, Option.toList_some, Option.toList_none, List.cons_append, List.nil_append, e, e2]
      rw [q0]
theorem s_inTurn {o p : Int} (ho : 0 ≤ o ∧ o ≤ 5) (hp : 0 ≤ p ∧ p ≤ 2) : fL_inTurn [vI o, vI p] S = some (some (vI (trn o p)), S) := by
  rw [uL_inTurn]
  rcases (show o = 0 ∨ o = 1 ∨ o = 2 ∨ o = 3 ∨ o = 4 ∨ o = 5 by omega) with rfl | rfl | rfl | rfl | rfl | rfl <;> rcases (show p = 0 ∨ p = 1 ∨ p = 2 by omega) with rfl | rfl | rfl <;> (simp (disch := omega) only [eL_inTurn_0, eL_inTurn_1, eL_inTurn_4, eL_inTurn_6, eL_inTurn_9, eL_inTurn_10, eL_inTurn_11, eL_inTurn_14, eL_inTurn_16, eL_inTurn_19, eL_inTurn_20, eL_inTurn_21, eL_inTurn_24, eL_inTurn_26, eL_inTurn_29, eL_inTurn_30, eL_inTurn_31, eL_inTurn_34, eL_inTurn_36, eL_inTurn_39, eL_inTurn_40, eL_inTurn_41, eL_inTurn_44, eL_inTurn_47, eL_inTurn_50, eL_inTurn_53, eL_inTurn_54, eL_inTurn_55, eL_inTurn_58, eL_inTurn_59, eL_inTurn_61, eL_inTurn_62, eL_inTurn_65, eL_inTurn_66, eL_inTurn_67, eL_inTurn_70, eL_inTurn_71, eL_inTurn_73, eL_inTurn_74, eL_inTurn_76, eL_inTurn_77, eL_inTurn_80, eL_inTurn_81, eL_inTurn_83, eL_inTurn_84, if_pos, if_neg, if_true, if_false, Option.bind_some, Option.toList_some, Option.toList_none, List.cons_append, List.nil_append] ; rfl)
/-! prints -/
def p1 (u : Nat) (z : Int) : Nat := (31 * u % 18446744073709551616 + (z % 18446744073709551616).toNat) % 18446744073709551616
theorem p1_b (u : Nat) (z : Int) : p1 u z < 18446744073709551616 := Nat.mod_lt _ (by decide)
noncomputable def prS (r : Nat → Int) : Nat → Nat → Nat → Nat
  | 0, _, u => u
  | f + 1, k, u => prS r f (k + 1) (p1 (p1 u (kth r k : Int)) (r (kth r k)))
def prI (g : Nat → Int) : Nat → Nat → Nat → Nat
  | 0, _, u => u
  | f + 1, k, u => prI g f (k + 1) (p1 u (g k))
theorem prS_b {r : Nat → Int} : ∀ {f k u : Nat}, u < 18446744073709551616 → prS r f k u < 18446744073709551616
  | 0, _, _, h => h
  | f + 1, k, u, _ => by
    rw [prS]
    exact prS_b (p1_b _ _)
theorem prI_b {g : Nat → Int} : ∀ {f k u : Nat}, u < 18446744073709551616 → prI g f k u < 18446744073709551616
  | 0, _, _, h => h
  | f + 1, k, u, _ => by
    rw [prI]
    exact prI_b (p1_b _ _)
noncomputable def prW (A : Nat → Int) (w u : Nat) : Nat := prI (fun k => ofW A w k) 7 0 (prS (RA A w) (cnt (RA A w) 300) 0 u)
noncomputable def prF (A : Nat → Int) : Nat := prI (fun k => cntF A 0 0 k) 6 0 (prI (fun k => figR A k) 8 0 (prW A 2 (prW A 1 (prW A 0 7))))
theorem l_pr1 (h : XIs S A m H K V P n) {w : Nat} (hw : w < 3) : ∀ (f k u : Nat), k + f = cnt (RA A w) 300 → u < 18446744073709551616 → ∃ x, rn xL_print (14, [some (vR 0), some (vJ u), none, some (vI w), some (vI k)], [], S) = rn xL_print (61, [some (vR 0), some (vJ (prS (RA A w) f k u)), none, some (vI w), x], [], S) ∧ ∃ z, x = some (vI z) := by
  have hc40 := h.aok.2.2.1 w hw
  have e := s_ofWalker h (w := (w : Int)) (what := 0) (by omega) (by omega)
  rw [ofW_0 hw] at e
  intro f
  induction f with
  | zero =>
    intro k u h1 h2
    refine ⟨some (vI k), ?_, _, rfl⟩
    rw [eL_print_14]
    simp (disch := omega) only [eL_print_0, eL_print_3, eL_print_4, eL_print_5, eL_print_7, eL_print_8, eL_print_11, eL_print_12, eL_print_16, eL_print_17, eL_print_18, eL_print_19, eL_print_22, eL_print_25, eL_print_28, eL_print_31, eL_print_32, eL_print_33, eL_print_34, eL_print_35, eL_print_37, eL_print_38, eL_print_41, eL_print_42, eL_print_43, eL_print_44, eL_print_45, eL_print_46, eL_print_48, eL_print_49, eL_print_52, eL_print_53, eL_print_54, eL_print_55, eL_print_58, eL_print_61, eL_print_62, eL_print_66, eL_print_68, eL_print_71, eL_print_74, eL_print_75, eL_print_76, eL_print_77, eL_print_78, eL_print_80, eL_print_83, eL_print_84, eL_print_85, eL_print_86, eL_print_89, eL_print_92, eL_print_95, eL_print_98, eL_print_99, eL_print_101, eL_print_103, eL_print_106, eL_print_109, eL_print_110, eL_print_111, eL_print_112, eL_print_113, eL_print_116, eL_print_117, eL_print_118, eL_print_119, eL_print_122, eL_print_125, eL_print_126, eL_print_128, eL_print_130, eL_print_133, eL_print_136, eL_print_137, eL_print_138, eL_print_139, eL_print_140, eL_print_143, eL_print_144, eL_print_145, eL_print_146, eL_print_149, eL_print_152, eL_print_153, if_pos, if_neg, if_true, if_false, Option.bind_some, Option.toList_some, Option.toList_none, List.cons_append, List.nil_append, e]
    rfl
  | succ f ih =>
    intro k u h1 h2
    have e1 := s_ofStoneK h (w := w) (j := k) (what := 0) hw (by omega) (by omega)
    have e2 := s_ofStoneK h (w := w) (j := k) (what := 1) hw (by omega) (by omega)
    obtain ⟨k1, k2, k3⟩ := kth_s (r := RA A w) (j := k) (by omega)
    have hb := h.aok.2.1 w _ hw k1
    have hp := p1_b u (kth (RA A w) k : Int)
    obtain ⟨x, i1, i2⟩ := ih (k + 1) (p1 (p1 u (kth (RA A w) k : Int)) (RA A w (kth (RA A w) k))) (by omega) (p1_b _ _)
    refine ⟨x, ?_, i2⟩
    rw [prS, ← i1, eL_print_14]
    have hb1 : (31 * u % 18446744073709551616 + ((kth (RA A w) k : Int) % 18446744073709551616).toNat) % 18446744073709551616 < 18446744073709551616 := Nat.mod_lt _ (by decide)
    simp (disch := omega) only [eL_print_0, eL_print_3, eL_print_4, eL_print_5, eL_print_7, eL_print_8, eL_print_11, eL_print_12, eL_print_16, eL_print_17, eL_print_18, eL_print_19, eL_print_22, eL_print_25, eL_print_28, eL_print_31, eL_print_32, eL_print_33, eL_print_34, eL_print_35, eL_print_37, eL_print_38, eL_print_41, eL_print_42, eL_print_43, eL_print_44, eL_print_45, eL_print_46, eL_print_48, eL_print_49, eL_print_52, eL_print_53, eL_print_54, eL_print_55, eL_print_58, eL_print_61, eL_print_62, eL_print_66, eL_print_68, eL_print_71, eL_print_74, eL_print_75, eL_print_76, eL_print_77, eL_print_78, eL_print_80, eL_print_83, eL_print_84, eL_print_85, eL_print_86, eL_print_89, eL_print_92, eL_print_95, eL_print_98, eL_print_99, eL_print_101, eL_print_103, eL_print_106, eL_print_109, eL_print_110, eL_print_111, eL_print_112, eL_print_113, eL_print_116, eL_print_117, eL_print_118, eL_print_119, eL_print_122, eL_print_125, eL_print_126, eL_print_128, eL_print_130, eL_print_133, eL_print_136, eL_print_137, eL_print_138, eL_print_139, eL_print_140, eL_print_143, eL_print_144, eL_print_145, eL_print_146, eL_print_149, eL_print_152, eL_print_153, if_pos, if_neg, if_true, if_false, Option.bind_some, Option.toList_some, Option.toList_none, List.cons_append, List.nil_append, e, e1, e2]
    rfl
theorem l_pr2 (h : XIs S A m H K V P n) {w : Nat} (hw : w < 3) : ∀ (f k u : Nat), k + f = 7 → u < 18446744073709551616 → ∃ x, rn xL_print (64, [some (vR 0), some (vJ u), none, some (vI w), some (vI k)], [], S) = rn xL_print (92, [some (vR 0), some (vJ (prI (fun k => ofW A w k) f k u)), none, some (vI w), x], [], S) ∧ ∃ z, x = some (vI z) := by
  intro f
  induction f with
  | zero =>
    intro k u h1 h2
    refine ⟨some (vI k), ?_, _, rfl⟩
    rw [eL_print_64]
    simp (disch := omega) only [eL_print_0, eL_print_3, eL_print_4, eL_print_5, eL_print_7, eL_print_8, eL_print_11, eL_print_12, eL_print_16, eL_print_17, eL_print_18, eL_print_19, eL_print_22, eL_print_25, eL_print_28, eL_print_31, eL_print_32, eL_print_33, eL_print_34, eL_print_35, eL_print_37, eL_print_38, eL_print_41, eL_print_42, eL_print_43, eL_print_44, eL_print_45, eL_print_46, eL_print_48, eL_print_49, eL_print_52, eL_print_53, eL_print_54, eL_print_55, eL_print_58, eL_print_61, eL_print_62, eL_print_66, eL_print_68, eL_print_71, eL_print_74, eL_print_75, eL_print_76, eL_print_77, eL_print_78, eL_print_80, eL_print_83, eL_print_84, eL_print_85, eL_print_86, eL_print_89, eL_print_92, eL_print_95, eL_print_98, eL_print_99, eL_print_101, eL_print_103, eL_print_106, eL_print_109, eL_print_110, eL_print_111, eL_print_112, eL_print_113, eL_print_116, eL_print_117, eL_print_118, eL_print_119, eL_print_122, eL_print_125, eL_print_126, eL_print_128, eL_print_130, eL_print_133, eL_print_136, eL_print_137, eL_print_138, eL_print_139, eL_print_140, eL_print_143, eL_print_144, eL_print_145, eL_print_146, eL_print_149, eL_print_152, eL_print_153, if_pos, if_neg, if_true, if_false, Option.bind_some, Option.toList_some, Option.toList_none, List.cons_append, List.nil_append]
    rfl
  | succ f ih =>
    intro k u h1 h2
    have e := s_ofWalker h (w := (w : Int)) (what := (k : Int)) (by omega) (by omega)
    have hb := ofW_b h.aok (w := w) (k := (k : Int)) hw (by omega)
    obtain ⟨x, i1, i2⟩ := ih (k + 1) (p1 u (ofW A w k)) (by omega) (p1_b _ _)
    refine ⟨x, ?_, i2⟩
    rw [prI, ← i1, eL_print_64]
    simp (disch := omega) only [eL_print_0, eL_print_3, eL_print_4, eL_print_5, eL_print_7, eL_print_8, eL_print_11, eL_print_12, eL_print_16, eL_print_17, eL_print_18, eL_print_19, eL_print_22, eL_print_25, eL_print_28, eL_print_31, eL_print_32, eL_print_33, eL_print_34, eL_print_35, eL_print_37, eL_print_38, eL_print_41, eL_print_42, eL_print_43, eL_print_44, eL_print_45, eL_print_46, eL_print_48, eL_print_49, eL_print_52, eL_print_53, eL_print_54, eL_print_55, eL_print_58, eL_print_61, eL_print_62, eL_print_66, eL_print_68, eL_print_71, eL_print_74, eL_print_75, eL_print_76, eL_print_77, eL_print_78, eL_print_80, eL_print_83, eL_print_84, eL_print_85, eL_print_86, eL_print_89, eL_print_92, eL_print_95, eL_print_98, eL_print_99, eL_print_101, eL_print_103, eL_print_106, eL_print_109, eL_print_110, eL_print_111, eL_print_112, eL_print_113, eL_print_116, eL_print_117, eL_print_118, eL_print_119, eL_print_122, eL_print_125, eL_print_126, eL_print_128, eL_print_130, eL_print_133, eL_print_136, eL_print_137, eL_print_138, eL_print_139, eL_print_140, eL_print_143, eL_print_144, eL_print_145, eL_print_146, eL_print_149, eL_print_152, eL_print_153, if_pos, if_neg, if_true, if_false, Option.bind_some, Option.toList_some, Option.toList_none, List.cons_append, List.nil_append, e]
    rfl
theorem l_pr3 (h : XIs S A m H K V P n) : ∀ (f k u : Nat) (x : Option VV), k + f = 8 → u < 18446744073709551616 → rn xL_print (100, [some (vR 0), some (vJ u), none, some (vI k), x], [], S) = rn xL_print (125, [some (vR 0), some (vJ (prI (fun k => figR A k) f k u)), none, some (vI 8), x], [], S) := by
  intro f
  induction f with
  | zero =>
    intro k u x h1 h2
    obtain rfl : k = 8 := by omega
    rw [eL_print_100]
    simp (disch := omega) only [eL_print_0, eL_print_3, eL_print_4, eL_print_5, eL_print_7, eL_print_8, eL_print_11, eL_print_12, eL_print_16, eL_print_17, eL_print_18, eL_print_19, eL_print_22, eL_print_25, eL_print_28, eL_print_31, eL_print_32, eL_print_33, eL_print_34, eL_print_35, eL_print_37, eL_print_38, eL_print_41, eL_print_42, eL_print_43, eL_print_44, eL_print_45, eL_print_46, eL_print_48, eL_print_49, eL_print_52, eL_print_53, eL_print_54, eL_print_55, eL_print_58, eL_print_61, eL_print_62, eL_print_66, eL_print_68, eL_print_71, eL_print_74, eL_print_75, eL_print_76, eL_print_77, eL_print_78, eL_print_80, eL_print_83, eL_print_84, eL_print_85, eL_print_86, eL_print_89, eL_print_92, eL_print_95, eL_print_98, eL_print_99, eL_print_101, eL_print_103, eL_print_106, eL_print_109, eL_print_110, eL_print_111, eL_print_112, eL_print_113, eL_print_116, eL_print_117, eL_print_118, eL_print_119, eL_print_122, eL_print_125, eL_print_126, eL_print_128, eL_print_130, eL_print_133, eL_print_136, eL_print_137, eL_print_138, eL_print_139, eL_print_140, eL_print_143, eL_print_144, eL_print_145, eL_print_146, eL_print_149, eL_print_152, eL_print_153, if_pos, if_neg, if_true, if_false, Option.bind_some, Option.toList_some, Option.toList_none, List.cons_append, List.nil_append]
    rfl
  | succ f ih =>
    intro k u x h1 h2
    have e := s_ofRun h (what := (k : Int)) (by omega)
    rw [if_pos (by omega)] at e
    have hb := figR_b h.aok (k := (k : Int)) (by omega)
    rw [prI, ← ih (k + 1) (p1 u (figR A k)) x (by omega) (p1_b _ _), eL_print_100]
    simp (disch := omega) only [eL_print_0, eL_print_3, eL_print_4, eL_print_5, eL_print_7, eL_print_8, eL_print_11, eL_print_12, eL_print_16, eL_print_17, eL_print_18, eL_print_19, eL_print_22, eL_print_25, eL_print_28, eL_print_31, eL_print_32, eL_print_33, eL_print_34, eL_print_35, eL_print_37, eL_print_38, eL_print_41, eL_print_42, eL_print_43, eL_print_44, eL_print_45, eL_print_46, eL_print_48, eL_print_49, eL_print_52, eL_print_53, eL_print_54, eL_print_55, eL_print_58, eL_print_61, eL_print_62, eL_print_66, eL_print_68, eL_print_71, eL_print_74, eL_print_75, eL_print_76, eL_print_77, eL_print_78, eL_print_80, eL_print_83, eL_print_84, eL_print_85, eL_print_86, eL_print_89, eL_print_92, eL_print_95, eL_print_98, eL_print_99, eL_print_101, eL_print_103, eL_print_106, eL_print_109, eL_print_110, eL_print_111, eL_print_112, eL_print_113, eL_print_116, eL_print_117, eL_print_118, eL_print_119, eL_print_122, eL_print_125, eL_print_126, eL_print_128, eL_print_130, eL_print_133, eL_print_136, eL_print_137, eL_print_138, eL_print_139, eL_print_140, eL_print_143, eL_print_144, eL_print_145, eL_print_146, eL_print_149, eL_print_152, eL_print_153, if_pos, if_neg, if_true, if_false, Option.bind_some, Option.toList_some, Option.toList_none, List.cons_append, List.nil_append, e]
    rfl
theorem cntF_k {k : Int} (hk : 0 ≤ k ∧ k ≤ 5) {m n m' n' : Nat} : cntF A m n k = cntF A m' n' k := by
  unfold cntF
  rcases (show k = 0 ∨ k = 1 ∨ (2 ≤ k ∧ k ≤ 5) by omega) with rfl | rfl | q
  · rw [if_pos rfl, if_pos rfl]
  · rw [if_neg (by omega), if_pos rfl, if_neg (by omega), if_pos rfl]
  · rw [if_neg (by omega), if_neg (by omega), if_pos q, if_neg (by omega), if_neg (by omega), if_pos q]
theorem l_pr4 (h : XIs S A m H K V P n) : ∀ (f k u : Nat) (x : Option VV), k + f = 6 → u < 18446744073709551616 → rn xL_print (127, [some (vR 0), some (vJ u), none, some (vI k), x], [], S) = some (some (vJ (prI (fun k => cntF A 0 0 k) f k u)), S) := by
  intro f
  induction f with
  | zero =>
    intro k u x h1 h2
    obtain rfl : k = 6 := by omega
    rw [eL_print_127]
    simp (disch := omega) only [eL_print_0, eL_print_3, eL_print_4, eL_print_5, eL_print_7, eL_print_8, eL_print_11, eL_print_12, eL_print_16, eL_print_17, eL_print_18, eL_print_19, eL_print_22, eL_print_25, eL_print_28, eL_print_31, eL_print_32, eL_print_33, eL_print_34, eL_print_35, eL_print_37, eL_print_38, eL_print_41, eL_print_42, eL_print_43, eL_print_44, eL_print_45, eL_print_46, eL_print_48, eL_print_49, eL_print_52, eL_print_53, eL_print_54, eL_print_55, eL_print_58, eL_print_61, eL_print_62, eL_print_66, eL_print_68, eL_print_71, eL_print_74, eL_print_75, eL_print_76, eL_print_77, eL_print_78, eL_print_80, eL_print_83, eL_print_84, eL_print_85, eL_print_86, eL_print_89, eL_print_92, eL_print_95, eL_print_98, eL_print_99, eL_print_101, eL_print_103, eL_print_106, eL_print_109, eL_print_110, eL_print_111, eL_print_112, eL_print_113, eL_print_116, eL_print_117, eL_print_118, eL_print_119, eL_print_122, eL_print_125, eL_print_126, eL_print_128, eL_print_130, eL_print_133, eL_print_136, eL_print_137, eL_print_138, eL_print_139, eL_print_140, eL_print_143, eL_print_144, eL_print_145, eL_print_146, eL_print_149, eL_print_152, eL_print_153, if_pos, if_neg, if_true, if_false, Option.bind_some, Option.toList_some, Option.toList_none, List.cons_append, List.nil_append]
    rfl
  | succ f ih =>
    intro k u x h1 h2
    have e := s_count h (what := (k : Int)) (by omega)
    rw [cntF_k (m' := 0) (n' := 0) (by omega)] at e
    have hb := cntF_b h.aok (n := 0) (m := 0) (by omega) (by omega) (k := (k : Int))
    rw [prI, ← ih (k + 1) (p1 u (cntF A 0 0 k)) x (by omega) (p1_b _ _), eL_print_127]
    simp (disch := omega) only [eL_print_0, eL_print_3, eL_print_4, eL_print_5, eL_print_7, eL_print_8, eL_print_11, eL_print_12, eL_print_16, eL_print_17, eL_print_18, eL_print_19, eL_print_22, eL_print_25, eL_print_28, eL_print_31, eL_print_32, eL_print_33, eL_print_34, eL_print_35, eL_print_37, eL_print_38, eL_print_41, eL_print_42, eL_print_43, eL_print_44, eL_print_45, eL_print_46, eL_print_48, eL_print_49, eL_print_52, eL_print_53, eL_print_54, eL_print_55, eL_print_58, eL_print_61, eL_print_62, eL_print_66, eL_print_68, eL_print_71, eL_print_74, eL_print_75, eL_print_76, eL_print_77, eL_print_78, eL_print_80, eL_print_83, eL_print_84, eL_print_85, eL_print_86, eL_print_89, eL_print_92, eL_print_95, eL_print_98, eL_print_99, eL_print_101, eL_print_103, eL_print_106, eL_print_109, eL_print_110, eL_print_111, eL_print_112, eL_print_113, eL_print_116, eL_print_117, eL_print_118, eL_print_119, eL_print_122, eL_print_125, eL_print_126, eL_print_128, eL_print_130, eL_print_133, eL_print_136, eL_print_137, eL_print_138, eL_print_139, eL_print_140, eL_print_143, eL_print_144, eL_print_145, eL_print_146, eL_print_149, eL_print_152, eL_print_153, if_pos, if_neg, if_true, if_false, Option.bind_some, Option.toList_some, Option.toList_none, List.cons_append, List.nil_append, e]
    rfl
theorem l_prW (h : XIs S A m H K V P n) {w : Nat} (hw : w < 3) {u : Nat} (hu : u < 18446744073709551616) (x : Option VV) : ∃ x', rn xL_print (6, [some (vR 0), some (vJ u), none, some (vI w), x], [], S) = rn xL_print (6, [some (vR 0), some (vJ (prW A w u)), none, some (vI ((w + 1 : Nat) : Int)), x'], [], S) := by
  obtain ⟨x1, i1, z1, rfl⟩ := l_pr1 h hw (cnt (RA A w) 300) 0 u (Nat.zero_add _) hu
  obtain ⟨x2, i2, z2, rfl⟩ := l_pr2 h hw 7 0 _ rfl (prS_b (r := RA A w) (f := cnt (RA A w) 300) (k := 0) hu)
  refine ⟨some (vI z2), ?_⟩
  rw [eL_print_6]
  simp (disch := omega) only [eL_print_0, eL_print_3, eL_print_4, eL_print_5, eL_print_7, eL_print_8, eL_print_11, eL_print_12, eL_print_16, eL_print_17, eL_print_18, eL_print_19, eL_print_22, eL_print_25, eL_print_28, eL_print_31, eL_print_32, eL_print_33, eL_print_34, eL_print_35, eL_print_37, eL_print_38, eL_print_41, eL_print_42, eL_print_43, eL_print_44, eL_print_45, eL_print_46, eL_print_48, eL_print_49, eL_print_52, eL_print_53, eL_print_54, eL_print_55, eL_print_58, eL_print_61, eL_print_62, eL_print_66, eL_print_68, eL_print_71, eL_print_74, eL_print_75, eL_print_76, eL_print_77, eL_print_78, eL_print_80, eL_print_83, eL_print_84, eL_print_85, eL_print_86, eL_print_89, eL_print_92, eL_print_95, eL_print_98, eL_print_99, eL_print_101, eL_print_103, eL_print_106, eL_print_109, eL_print_110, eL_print_111, eL_print_112, eL_print_113, eL_print_116, eL_print_117, eL_print_118, eL_print_119, eL_print_122, eL_print_125, eL_print_126, eL_print_128, eL_print_130, eL_print_133, eL_print_136, eL_print_137, eL_print_138, eL_print_139, eL_print_140, eL_print_143, eL_print_144, eL_print_145, eL_print_146, eL_print_149, eL_print_152, eL_print_153, if_pos, if_neg, if_true, if_false, Option.bind_some, Option.toList_some, Option.toList_none, List.cons_append, List.nil_append]
  rw [show ((0 : Int)) = ((0 : Nat) : Int) from rfl, i1]
  simp (disch := omega) only [eL_print_0, eL_print_3, eL_print_4, eL_print_5, eL_print_7, eL_print_8, eL_print_11, eL_print_12, eL_print_16, eL_print_17, eL_print_18, eL_print_19, eL_print_22, eL_print_25, eL_print_28, eL_print_31, eL_print_32, eL_print_33, eL_print_34, eL_print_35, eL_print_37, eL_print_38, eL_print_41, eL_print_42, eL_print_43, eL_print_44, eL_print_45, eL_print_46, eL_print_48, eL_print_49, eL_print_52, eL_print_53, eL_print_54, eL_print_55, eL_print_58, eL_print_61, eL_print_62, eL_print_66, eL_print_68, eL_print_71, eL_print_74, eL_print_75, eL_print_76, eL_print_77, eL_print_78, eL_print_80, eL_print_83, eL_print_84, eL_print_85, eL_print_86, eL_print_89, eL_print_92, eL_print_95, eL_print_98, eL_print_99, eL_print_101, eL_print_103, eL_print_106, eL_print_109, eL_print_110, eL_print_111, eL_print_112, eL_print_113, eL_print_116, eL_print_117, eL_print_118, eL_print_119, eL_print_122, eL_print_125, eL_print_126, eL_print_128, eL_print_130, eL_print_133, eL_print_136, eL_print_137, eL_print_138, eL_print_139, eL_print_140, eL_print_143, eL_print_144, eL_print_145, eL_print_146, eL_print_149, eL_print_152, eL_print_153, if_pos, if_neg, if_true, if_false, Option.bind_some, Option.toList_some, Option.toList_none, List.cons_append, List.nil_append]
  rw [show ((0 : Int)) = ((0 : Nat) : Int) from rfl, i2]
  simp (disch := omega) only [eL_print_0, eL_print_3, eL_print_4, eL_print_5, eL_print_7, eL_print_8, eL_print_11, eL_print_12, eL_print_16, eL_print_17, eL_print_18, eL_print_19, eL_print_22, eL_print_25, eL_print_28, eL_print_31, eL_print_32, eL_print_33, eL_print_34, eL_print_35, eL_print_37, eL_print_38, eL_print_41, eL_print_42, eL_print_43, eL_print_44, eL_print_45, eL_print_46, eL_print_48, eL_print_49, eL_print_52, eL_print_53, eL_print_54, eL_print_55, eL_print_58, eL_print_61, eL_print_62, eL_print_66, eL_print_68, eL_print_71, eL_print_74, eL_print_75, eL_print_76, eL_print_77, eL_print_78, eL_print_80, eL_print_83, eL_print_84, eL_print_85, eL_print_86, eL_print_89, eL_print_92, eL_print_95, eL_print_98, eL_print_99, eL_print_101, eL_print_103, eL_print_106, eL_print_109, eL_print_110, eL_print_111, eL_print_112, eL_print_113, eL_print_116, eL_print_117, eL_print_118, eL_print_119, eL_print_122, eL_print_125, eL_print_126, eL_print_128, eL_print_130, eL_print_133, eL_print_136, eL_print_137, eL_print_138, eL_print_139, eL_print_140, eL_print_143, eL_print_144, eL_print_145, eL_print_146, eL_print_149, eL_print_152, eL_print_153, if_pos, if_neg, if_true, if_false, Option.bind_some, Option.toList_some, Option.toList_none, List.cons_append, List.nil_append]
  rfl
theorem s_print (h : XIs S A m H K V P n) : fL_print [vR 0] S = some (some (vJ (prF A)), S) := by
  rw [uL_print]
  have b0 : (7 : Nat) < 18446744073709551616 := by decide
  have b1 : prW A 0 7 < 18446744073709551616 := prI_b (prS_b b0)
  have b2 : prW A 1 (prW A 0 7) < 18446744073709551616 := prI_b (prS_b b1)
  have b3 : prW A 2 (prW A 1 (prW A 0 7)) < 18446744073709551616 := prI_b (prS_b b2)
  have b4 := prI_b (g := fun k => figR A k) (f := 8) (k := 0) b3
  obtain ⟨x0, i0⟩ := l_prW h (w := 0) (by omega) b0 none
  obtain ⟨x1, i1⟩ := l_prW h (w := 1) (by omega) b1 x0
  obtain ⟨x2, i2⟩ := l_prW h (w := 2) (by omega) b2 x1
  simp (disch := omega) only [eL_print_0, eL_print_3, eL_print_4, eL_print_5, eL_print_7, eL_print_8, eL_print_11, eL_print_12, eL_print_16, eL_print_17, eL_print_18, eL_print_19, eL_print_22, eL_print_25, eL_print_28, eL_print_31, eL_print_32, eL_print_33, eL_print_34, eL_print_35, eL_print_37, eL_print_38, eL_print_41, eL_print_42, eL_print_43, eL_print_44, eL_print_45, eL_print_46, eL_print_48, eL_print_49, eL_print_52, eL_print_53, eL_print_54, eL_print_55, eL_print_58, eL_print_61, eL_print_62, eL_print_66, eL_print_68, eL_print_71, eL_print_74, eL_print_75, eL_print_76, eL_print_77, eL_print_78, eL_print_80, eL_print_83, eL_print_84, eL_print_85, eL_print_86, eL_print_89, eL_print_92, eL_print_95, eL_print_98, eL_print_99, eL_print_101, eL_print_103, eL_print_106, eL_print_109, eL_print_110, eL_print_111, eL_print_112, eL_print_113, eL_print_116, eL_print_117, eL_print_118, eL_print_119, eL_print_122, eL_print_125, eL_print_126, eL_print_128, eL_print_130, eL_print_133, eL_print_136, eL_print_137, eL_print_138, eL_print_139, eL_print_140, eL_print_143, eL_print_144, eL_print_145, eL_print_146, eL_print_149, eL_print_152, eL_print_153, if_pos, if_neg, if_true, if_false, Option.bind_some, Option.toList_some, Option.toList_none, List.cons_append, List.nil_append]
  have i0 : rn xL_print (6, [some (vR 0), some (vJ 7), none, some (vI 0), none], [], S) = _ := i0
  rw [i0]
  have i1 : rn xL_print (6, [some (vR 0), some (vJ (prW A 0 7)), none, some (vI ((0 + 1 : Nat) : Int)), x0], [], S) = _ := i1
  rw [i1]
  have i2 : rn xL_print (6, [some (vR 0), some (vJ (prW A 1 (prW A 0 7))), none, some (vI ((1 + 1 : Nat) : Int)), x1], [], S) = _ := i2
  rw [i2, eL_print_6, show (((2 + 1 : Nat) : Int)) = 3 from rfl]
  simp (disch := omega) only [eL_print_0, eL_print_3, eL_print_4, eL_print_5, eL_print_7, eL_print_8, eL_print_11, eL_print_12, eL_print_16, eL_print_17, eL_print_18, eL_print_19, eL_print_22, eL_print_25, eL_print_28, eL_print_31, eL_print_32, eL_print_33, eL_print_34, eL_print_35, eL_print_37, eL_print_38, eL_print_41, eL_print_42, eL_print_43, eL_print_44, eL_print_45, eL_print_46, eL_print_48, eL_print_49, eL_print_52, eL_print_53, eL_print_54, eL_print_55, eL_print_58, eL_print_61, eL_print_62, eL_print_66, eL_print_68, eL_print_71, eL_print_74, eL_print_75, eL_print_76, eL_print_77, eL_print_78, eL_print_80, eL_print_83, eL_print_84, eL_print_85, eL_print_86, eL_print_89, eL_print_92, eL_print_95, eL_print_98, eL_print_99, eL_print_101, eL_print_103, eL_print_106, eL_print_109, eL_print_110, eL_print_111, eL_print_112, eL_print_113, eL_print_116, eL_print_117, eL_print_118, eL_print_119, eL_print_122, eL_print_125, eL_print_126, eL_print_128, eL_print_130, eL_print_133, eL_print_136, eL_print_137, eL_print_138, eL_print_139, eL_print_140, eL_print_143, eL_print_144, eL_print_145, eL_print_146, eL_print_149, eL_print_152, eL_print_153, if_pos, if_neg, if_true, if_false, Option.bind_some, Option.toList_some, Option.toList_none, List.cons_append, List.nil_append]
  rw [show ((0 : Int)) = ((0 : Nat) : Int) from rfl, l_pr3 h 8 0 _ x2 rfl b3]
  simp (disch := omega) only [eL_print_0, eL_print_3, eL_print_4, eL_print_5, eL_print_7, eL_print_8, eL_print_11, eL_print_12, eL_print_16, eL_print_17, eL_print_18, eL_print_19, eL_print_22, eL_print_25, eL_print_28, eL_print_31, eL_print_32, eL_print_33, eL_print_34, eL_print_35, eL_print_37, eL_print_38, eL_print_41, eL_print_42, eL_print_43, eL_print_44, eL_print_45, eL_print_46, eL_print_48, eL_print_49, eL_print_52, eL_print_53, eL_print_54, eL_print_55, eL_print_58, eL_print_61, eL_print_62, eL_print_66, eL_print_68, eL_print_71, eL_print_74, eL_print_75, eL_print_76, eL_print_77, eL_print_78, eL_print_80, eL_print_83, eL_print_84, eL_print_85, eL_print_86, eL_print_89, eL_print_92, eL_print_95, eL_print_98, eL_print_99, eL_print_101, eL_print_103, eL_print_106, eL_print_109, eL_print_110, eL_print_111, eL_print_112, eL_print_113, eL_print_116, eL_print_117, eL_print_118, eL_print_119, eL_print_122, eL_print_125, eL_print_126, eL_print_128, eL_print_130, eL_print_133, eL_print_136, eL_print_137, eL_print_138, eL_print_139, eL_print_140, eL_print_143, eL_print_144, eL_print_145, eL_print_146, eL_print_149, eL_print_152, eL_print_153, if_pos, if_neg, if_true, if_false, Option.bind_some, Option.toList_some, Option.toList_none, List.cons_append, List.nil_append]
  rw [show ((0 : Int)) = ((0 : Nat) : Int) from rfl, l_pr4 h 6 0 _ x2 rfl b4]
  rfl
theorem prF_b (A : Nat → Int) : prF A < 18446744073709551616 := by
  have b0 : (7 : Nat) < 18446744073709551616 := by decide
  exact prI_b (prI_b (prI_b (prS_b (prI_b (prS_b (prI_b (prS_b b0)))))))
end LAW

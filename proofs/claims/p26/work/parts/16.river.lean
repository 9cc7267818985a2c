/-! three walkers' stones -/
def riv (v : Nat) : Prop := kd v = 5 ∧ pth (v + 1) ∧ pth (v + 4) ∧ pth (v + 7)
def RiverIs (S : MM) (v : Nat) (R : Nat → Nat → Int) : Prop := PathIs S (v + 1) (R 0) ∧ PathIs S (v + 4) (R 1) ∧ PathIs S (v + 7) (R 2)
theorem RiverIs.rows {S S' : MM} {v : Nat} {R : Nat → Nat → Int} (h : RiverIs S v R) (he : ∀ a, v < a → a < v + 10 → S' a = S a) : RiverIs S' v R :=
  ⟨h.1.rows (by rw [he _ (by omega) (by omega)]) (he _ (by omega) (by omega)) (he _ (by omega) (by omega)), h.2.1.rows (by rw [he _ (by omega) (by omega)]) (he _ (by omega) (by omega)) (he _ (by omega) (by omega)), h.2.2.rows (by rw [he _ (by omega) (by omega)]) (he _ (by omega) (by omega)) (he _ (by omega) (by omega))⟩
theorem RiverIs.congr {S : MM} {v : Nat} {R R' : Nat → Nat → Int} (h : RiverIs S v R) (he : ∀ w k, w < 3 → k < 300 → R' w k = R w k) : RiverIs S v R' :=
  ⟨h.1.congr (fun k hk => he 0 k (by omega) hk), h.2.1.congr (fun k hk => he 1 k (by omega) hk), h.2.2.congr (fun k hk => he 2 k (by omega) hk)⟩
theorem mul3_b {a b c : Int} (ha : 0 ≤ a ∧ a ≤ 9) (hb : 0 ≤ b ∧ b ≤ 9) (hc : 0 ≤ c ∧ c ≤ 9) : 0 ≤ a * b * c ∧ a * b * c ≤ 729 := by
  have h1 : 0 ≤ a * b := Int.mul_nonneg ha.1 hb.1
  have h2 : a * b ≤ 9 * 9 := Int.mul_le_mul ha.2 hb.2 hb.1 (by decide)
  have h3 : 0 ≤ a * b * c := Int.mul_nonneg h1 hc.1
  have h4 : a * b * c ≤ 81 * 9 := Int.mul_le_mul h2 hc.2 hc.1 (by decide)
  omega
theorem mul3_pos {a b c : Int} (ha : 0 ≤ a) (hb : 0 ≤ b) (hc : 0 ≤ c) : 0 < a * b * c ↔ (0 < a ∧ 0 < b ∧ 0 < c) := by
  constructor
  · intro h
    refine ⟨?_, ?_, ?_⟩
    · by_cases q : a = 0
      · rw [q, Int.zero_mul, Int.zero_mul] at h; omega
      · omega
    · by_cases q : b = 0
      · rw [q, Int.mul_zero, Int.zero_mul] at h; omega
      · omega
    · by_cases q : c = 0
      · rw [q, Int.mul_zero] at h; omega
      · omega
  · rintro ⟨h1, h2, h3⟩
    exact Int.mul_pos (Int.mul_pos h1 h2) h3
theorem s_pathOf0 {S : MM} {v : Nat} (h : kd v = 5) : fX5_pathOf [vR v, vI 0] S = some (some (vR (v + 1)), S) := by
  rw [uX5_pathOf]
  simp (disch := omega) only [eX5_pathOf_0, eX5_pathOf_1, eX5_pathOf_4, eX5_pathOf_5, eX5_pathOf_8, eX5_pathOf_11, eX5_pathOf_12, eX5_pathOf_13, eX5_pathOf_16, eX5_pathOf_17, eX5_pathOf_20, eX5_pathOf_23, eX5_pathOf_24, eX5_pathOf_27, if_pos, if_neg, if_true, if_false, Option.bind_some, Option.toList_some, Option.toList_none, List.cons_append, List.nil_append]
theorem s_pathOf1 {S : MM} {v : Nat} (h : kd v = 5) : fX5_pathOf [vR v, vI 1] S = some (some (vR (v + 4)), S) := by
  rw [uX5_pathOf]
  simp (disch := omega) only [eX5_pathOf_0, eX5_pathOf_1, eX5_pathOf_4, eX5_pathOf_5, eX5_pathOf_8, eX5_pathOf_11, eX5_pathOf_12, eX5_pathOf_13, eX5_pathOf_16, eX5_pathOf_17, eX5_pathOf_20, eX5_pathOf_23, eX5_pathOf_24, eX5_pathOf_27, if_pos, if_neg, if_true, if_false, Option.bind_some, Option.toList_some, Option.toList_none, List.cons_append, List.nil_append]
theorem s_pathOf2 {S : MM} {v : Nat} (h : kd v = 5) : fX5_pathOf [vR v, vI 2] S = some (some (vR (v + 7)), S) := by
  rw [uX5_pathOf]
  simp (disch := omega) only [eX5_pathOf_0, eX5_pathOf_1, eX5_pathOf_4, eX5_pathOf_5, eX5_pathOf_8, eX5_pathOf_11, eX5_pathOf_12, eX5_pathOf_13, eX5_pathOf_16, eX5_pathOf_17, eX5_pathOf_20, eX5_pathOf_23, eX5_pathOf_24, eX5_pathOf_27, if_pos, if_neg, if_true, if_false, Option.bind_some, Option.toList_some, Option.toList_none, List.cons_append, List.nil_append]
def pw (v : Nat) (w : Int) : Nat := v + 1 + 3 * w.toNat
theorem w3 {w : Int} (h : 0 ≤ w ∧ w ≤ 2) : w = 0 ∨ w = 1 ∨ w = 2 := by omega
theorem s_pathOf {S : MM} {v : Nat} {w : Int} (h : kd v = 5) (hw : 0 ≤ w ∧ w ≤ 2) : fX5_pathOf [vR v, vI w] S = some (some (vR (pw v w)), S) := by
  rcases w3 hw with rfl | rfl | rfl
  · exact s_pathOf0 h
  · exact s_pathOf1 h
  · exact s_pathOf2 h
theorem riv_pw {v : Nat} {w : Int} (h : riv v) (hw : 0 ≤ w ∧ w ≤ 2) : pth (pw v w) := by
  rcases w3 hw with rfl | rfl | rfl
  · exact h.2.1
  · exact h.2.2.1
  · exact h.2.2.2
theorem RiverIs.pw {S : MM} {v : Nat} {R : Nat → Nat → Int} {w : Int} (h : RiverIs S v R) (hw : 0 ≤ w ∧ w ≤ 2) : PathIs S (pw v w) (R w.toNat) := by
  rcases w3 hw with rfl | rfl | rfl
  · exact h.1
  · exact h.2.1
  · exact h.2.2
theorem s_stones {S : MM} {v : Nat} {R : Nat → Nat → Int} (hv : riv v) (h : RiverIs S v R) : fX5_stones [vR v] S = some (some (vI ((cnt (R 0) 300 : Int) + cnt (R 1) 300 + cnt (R 2) 300)), S) := by
  obtain ⟨k0, p1, p2, p3⟩ := hv
  obtain ⟨q1, -⟩ := id p1
  obtain ⟨q2, -⟩ := id p2
  obtain ⟨q3, -⟩ := id p3
  rw [uX5_stones]
  simp (disch := omega) only [eX5_stones_0, eX5_stones_1, eX5_stones_4, eX5_stones_7, eX5_stones_8, eX5_stones_11, eX5_stones_14, eX5_stones_15, eX5_stones_16, eX5_stones_19, eX5_stones_22, eX5_stones_23, if_pos, if_neg, if_true, if_false, Option.bind_some, Option.toList_some, Option.toList_none, List.cons_append, List.nil_append, s_size p1, s_size p2, s_size p3]
  rw [h.1.1, h.2.1.1, h.2.2.1]
def rwR (R : Nat → Nat → Int) (key : Int) : Int := rv (R 0) key * rv (R 1) key * rv (R 2) key
theorem rwR_b {S : MM} {v : Nat} {R : Nat → Nat → Int} (h : RiverIs S v R) (key : Int) : 0 ≤ rwR R key ∧ rwR R key ≤ 729 := mul3_b (rv_b h.1 key) (rv_b h.2.1 key) (rv_b h.2.2 key)
theorem s_rowsAt {S : MM} {v : Nat} {R : Nat → Nat → Int} {key : Int} (hv : riv v) (h : RiverIs S v R) (hk : rng key) : fX5_rowsAt [vR v, vI key] S = some (some (vI (rwR R key)), S) := by
  obtain ⟨k0, p1, p2, p3⟩ := hv
  obtain ⟨q1, -⟩ := id p1
  obtain ⟨q2, -⟩ := id p2
  obtain ⟨q3, -⟩ := id p3
  rw [uX5_rowsAt]
  simp (disch := omega) only [eX5_rowsAt_0, eX5_rowsAt_1, eX5_rowsAt_4, eX5_rowsAt_5, eX5_rowsAt_8, eX5_rowsAt_9, eX5_rowsAt_12, eX5_rowsAt_13, eX5_rowsAt_16, eX5_rowsAt_17, eX5_rowsAt_18, eX5_rowsAt_21, eX5_rowsAt_22, eX5_rowsAt_25, eX5_rowsAt_26, if_pos, if_neg, if_true, if_false, Option.bind_some, Option.toList_some, Option.toList_none, List.cons_append, List.nil_append, s_repeatsOf p1 h.1 hk, s_repeatsOf p2 h.2.1 hk, s_repeatsOf p3 h.2.2 hk]
  rfl
/-- which keys all three have in a range -/
def shd (R : Nat → Nat → Int) (lo hi : Int) : Nat → Int := fun k => if (lo ≤ (k : Int) ∧ (k : Int) ≤ hi) ∧ 0 < rwR R k then 1 else 0
theorem s_isShared {S : MM} {v : Nat} {R : Nat → Nat → Int} {key lo hi : Int} (hv : riv v) (h : RiverIs S v R) (hk : rng key) (hlo : rng lo) (hhi : rng hi) : fX5_isShared [vR v, vI key, vI lo, vI hi] S = some (some (vI (if (lo ≤ key ∧ key ≤ hi) ∧ 0 < rwR R key then 1 else 0)), S) := by
  have hb := rwR_b h key
  obtain ⟨k0, -⟩ := id hv
  have e := s_isBetween (S := S) hk hlo hhi
  rw [uX5_isShared]
  simp (disch := omega) only [eX5_isShared_0, eX5_isShared_1, eX5_isShared_2, eX5_isShared_3, eX5_isShared_6, eX5_isShared_9, eX5_isShared_10, eX5_isShared_11, eX5_isShared_14, eX5_isShared_17, eX5_isShared_18, eX5_isShared_21, eX5_isShared_22, if_pos, if_neg, if_true, if_false, Option.bind_some, Option.toList_some, Option.toList_none, List.cons_append, List.nil_append, e]
  by_cases c : lo ≤ key ∧ key ≤ hi
  · rw [if_pos c]
    simp (disch := omega) only [eX5_isShared_0, eX5_isShared_1, eX5_isShared_2, eX5_isShared_3, eX5_isShared_6, eX5_isShared_9, eX5_isShared_10, eX5_isShared_11, eX5_isShared_14, eX5_isShared_17, eX5_isShared_18, eX5_isShared_21, eX5_isShared_22, if_pos, if_neg, if_true, if_false, Option.bind_some, Option.toList_some, Option.toList_none, List.cons_append, List.nil_append, s_rowsAt hv h hk]
    by_cases d : 0 < rwR R key
    · rw [if_pos d, if_pos ⟨c, d⟩]
    · rw [if_neg d, if_neg (fun q => d q.2)]
  · rw [if_neg c]
    simp (disch := omega) only [eX5_isShared_0, eX5_isShared_1, eX5_isShared_2, eX5_isShared_3, eX5_isShared_6, eX5_isShared_9, eX5_isShared_10, eX5_isShared_11, eX5_isShared_14, eX5_isShared_17, eX5_isShared_18, eX5_isShared_21, eX5_isShared_22, if_pos, if_neg, if_true, if_false, Option.bind_some, Option.toList_some, Option.toList_none, List.cons_append, List.nil_append]
theorem shd_r0 {S : MM} {v : Nat} {R : Nat → Nat → Int} {lo hi : Int} (h : RiverIs S v R) {k : Nat} (hk : k < 300) (hs : 0 < shd R lo hi k) : 0 < R 0 k := by
  unfold shd at hs
  split at hs
  · next q =>
    have := (mul3_pos (rv_b h.1 k).1 (rv_b h.2.1 k).1 (rv_b h.2.2 k).1).mp q.2
    rw [rv_in hk] at this
    exact this.1
  · omega
def sumk (f : Nat → Int) : Nat → Int
  | 0 => 0
  | m + 1 => sumk f m + f m
theorem sumk_skip {f : Nat → Int} {a b : Nat} (h : a ≤ b) (hz : ∀ j, a ≤ j → j < b → f j = 0) : sumk f b = sumk f a := by
  induction h with
  | refl => rfl
  | @step m hm ih =>
    have hm : a ≤ m := hm
    rw [Nat.succ_eq_add_one, sumk, hz m hm (Nat.lt_succ_self m), ih (fun j h1 h2 => hz j h1 (Nat.lt_succ_of_lt h2)), Int.add_zero]
theorem sumk_congr {f g : Nat → Int} : ∀ {m : Nat}, (∀ k, k < m → f k = g k) → sumk f m = sumk g m
  | 0, _ => rfl
  | m + 1, h => by rw [sumk, sumk, sumk_congr (fun k hk => h k (by omega)), h m (by omega)]
def rwB (R : Nat → Nat → Int) (lo hi : Int) : Nat → Int := fun k => if lo ≤ (k : Int) ∧ (k : Int) ≤ hi then rwR R k else 0
def gB (f : Nat → Int) : Nat → Int
  | 0 => -6
  | m + 1 => if 0 < f m then (m : Int) else gB f m
def gW (f : Nat → Int) : Nat → Int
  | 0 => -6
  | m + 1 => if 0 < f m ∧ gB f m ≠ -6 then (if gW f m < (m : Int) - gB f m then (m : Int) - gB f m else gW f m) else gW f m
def gF (f : Nat → Int) : Nat → Int
  | 0 => -6
  | m + 1 => if gF f m = -6 ∧ 0 < f m then (m : Int) else gF f m
theorem gB_skip {f : Nat → Int} {a b : Nat} (h : a ≤ b) (hz : ∀ j, a ≤ j → j < b → ¬ 0 < f j) : gB f b = gB f a := by
  induction h with
  | refl => rfl
  | @step m hm ih =>
    have hm : a ≤ m := hm
    rw [Nat.succ_eq_add_one, gB, if_neg (hz m hm (Nat.lt_succ_self m)), ih (fun j h1 h2 => hz j h1 (Nat.lt_succ_of_lt h2))]
theorem gW_skip {f : Nat → Int} {a b : Nat} (h : a ≤ b) (hz : ∀ j, a ≤ j → j < b → ¬ 0 < f j) : gW f b = gW f a := by
  induction h with
  | refl => rfl
  | @step m hm ih =>
    have hm : a ≤ m := hm
    rw [Nat.succ_eq_add_one, gW, if_neg (fun q => hz m hm (Nat.lt_succ_self m) q.1), ih (fun j h1 h2 => hz j h1 (Nat.lt_succ_of_lt h2))]
theorem gF_skip {f : Nat → Int} {a b : Nat} (h : a ≤ b) (hz : ∀ j, a ≤ j → j < b → ¬ 0 < f j) : gF f b = gF f a := by
  induction h with
  | refl => rfl
  | @step m hm ih =>
    have hm : a ≤ m := hm
    rw [Nat.succ_eq_add_one, gF, if_neg (fun q => hz m hm (Nat.lt_succ_self m) q.2), ih (fun j h1 h2 => hz j h1 (Nat.lt_succ_of_lt h2))]
theorem gF_found {f : Nat → Int} {a b : Nat} (h : a ≤ b) (hn : gF f a ≠ -6) : gF f b = gF f a := by
  induction h with
  | refl => rfl
  | @step m hm ih => rw [Nat.succ_eq_add_one, gF, if_neg (fun q => by rw [ih] at q; exact hn q.1), ih]
theorem gB_b (f : Nat → Int) : ∀ m, gB f m = -6 ∨ (0 ≤ gB f m ∧ gB f m < m)
  | 0 => Or.inl rfl
  | m + 1 => by
    have := gB_b f m
    rw [gB]
    split <;> omega
theorem gW_b (f : Nat → Int) : ∀ m, gW f m = -6 ∨ (0 ≤ gW f m ∧ gW f m ≤ m)
  | 0 => Or.inl rfl
  | m + 1 => by
    have h1 := gB_b f m
    have h2 := gW_b f m
    rw [gW]
    split
    · split <;> omega
    · omega
theorem gF_b (f : Nat → Int) : ∀ m, gF f m = -6 ∨ (0 ≤ gF f m ∧ gF f m < m)
  | 0 => Or.inl rfl
  | m + 1 => by
    have := gF_b f m
    rw [gF]
    split <;> omega
section SHR
variable {S : MM} {v : Nat} {R : Nat → Nat → Int} {lo hi : Int}
/-- the key at a place of the first walker's stones -/
theorem keyAt_k (hv : riv v) (h : RiverIs S v R) {i k : Nat} (hk : k < 300) (hp : 0 < R 0 k) (hc : cnt (R 0) k = i) : fX3_keyAt [vR (v + 1), vI (i : Int)] S = some (some (vI (k : Int)), S) := by
  have hlt := cnt_lt hk hp
  have h40 := h.1.2.1
  have e := s_keyAt hv.2.1 h.1 (j := (i : Int)) ⟨by omega, by omega⟩
  rw [if_pos (by omega), Int.toNat_natCast, ← hc, h.1.2.2.1 k hk hp, hc] at e
  exact e
theorem isShared_k (hv : riv v) (h : RiverIs S v R) (hlo : rng lo) (hhi : rng hi) {k : Nat} (hk : k < 300) : fX5_isShared [vR v, vI (k : Int), vI lo, vI hi] S = some (some (vI (shd R lo hi k)), S) := s_isShared hv h ⟨by omega, by omega⟩ hlo hhi
theorem shd_01 (k : Nat) : shd R lo hi k = 0 ∨ shd R lo hi k = 1 := by
  unfold shd
  split
  · exact Or.inr rfl
  · exact Or.inl rfl
theorem cnt_shd (k : Nat) : (cnt (shd R lo hi) (k + 1) : Int) = cnt (shd R lo hi) k + shd R lo hi k := by
  rw [cnt_s]
  rcases shd_01 (R := R) (lo := lo) (hi := hi) k with h | h
  · rw [h, if_neg (by omega)]
    omega
  · rw [h, if_pos (by omega)]
    omega
theorem l_shared (hv : riv v) (h : RiverIs S v R) (hlo : rng lo) (hhi : rng hi) : ∀ (f i b : Nat), i + f = cnt (R 0) 300 → cnt (R 0) b = i → b ≤ 300 → rn xX5_sharedKeys (5, [some (vR v), some (vI lo), some (vI hi), some (vI (cnt (shd R lo hi) b)), some (vI i)], [], S) = some (some (vI (cnt (shd R lo hi) 300)), S) := by
  obtain ⟨k0, p1, p2, p3⟩ := id hv
  obtain ⟨q1, -⟩ := id p1
  have h0 := h.1.1
  have h40 := h.1.2.1
  intro f
  induction f with
  | zero =>
    intro i b e1 e2 e3
    have hc : cnt (shd R lo hi) 300 = cnt (shd R lo hi) b := cnt_skip e3 (fun j y1 y2 y3 => by
      have z1 := cnt_mono (R 0) y1
      have z2 := cnt_lt y2 (shd_r0 h y2 y3)
      omega)
    rw [eX5_sharedKeys_5]
    simp (disch := omega) only [eX5_sharedKeys_0, eX5_sharedKeys_1, eX5_sharedKeys_2, eX5_sharedKeys_3, eX5_sharedKeys_7, eX5_sharedKeys_8, eX5_sharedKeys_11, eX5_sharedKeys_14, eX5_sharedKeys_17, eX5_sharedKeys_18, eX5_sharedKeys_19, eX5_sharedKeys_22, eX5_sharedKeys_24, eX5_sharedKeys_27, eX5_sharedKeys_28, eX5_sharedKeys_29, eX5_sharedKeys_32, eX5_sharedKeys_35, eX5_sharedKeys_38, eX5_sharedKeys_41, eX5_sharedKeys_44, eX5_sharedKeys_45, if_pos, if_neg, if_true, if_false, Option.bind_some, Option.toList_some, Option.toList_none, List.cons_append, List.nil_append, s_size p1]
    rw [hc]
  | succ f ih =>
    intro i b e1 e2 e3
    obtain ⟨k, y1, y2, y3, y4, y5, y6⟩ := cnt_next e2 (by omega)
    have hs : cnt (shd R lo hi) k = cnt (shd R lo hi) b := cnt_skip y4 (fun j z1 z2 z3 => y5 j z1 z2 (shd_r0 h (by omega) z3))
    have ih := ih (i + 1) (k + 1) (by omega) y6 (by omega)
    have hc := cnt_shd (R := R) (lo := lo) (hi := hi) k
    rw [hs] at hc
    rw [hc] at ih
    have hsb := shd_01 (R := R) (lo := lo) (hi := hi) k
    have h1 := keyAt_k hv h y1 y2 y3
    have h2 := isShared_k hv h hlo hhi y1
    rw [show ((i + 1 : Nat) : Int) = (i : Int) + 1 by omega] at ih
    rw [eX5_sharedKeys_5]
    rcases hsb with hz | hz
    · rw [hz] at ih h2
      rw [Int.add_zero] at ih
      simp (disch := omega) only [eX5_sharedKeys_0, eX5_sharedKeys_1, eX5_sharedKeys_2, eX5_sharedKeys_3, eX5_sharedKeys_7, eX5_sharedKeys_8, eX5_sharedKeys_11, eX5_sharedKeys_14, eX5_sharedKeys_17, eX5_sharedKeys_18, eX5_sharedKeys_19, eX5_sharedKeys_22, eX5_sharedKeys_24, eX5_sharedKeys_27, eX5_sharedKeys_28, eX5_sharedKeys_29, eX5_sharedKeys_32, eX5_sharedKeys_35, eX5_sharedKeys_38, eX5_sharedKeys_41, eX5_sharedKeys_44, eX5_sharedKeys_45, if_pos, if_neg, if_true, if_false, Option.bind_some, Option.toList_some, Option.toList_none, List.cons_append, List.nil_append, s_size p1, h1, h2]
      exact ih
    · rw [hz] at ih h2
      simp (disch := omega) only [eX5_sharedKeys_0, eX5_sharedKeys_1, eX5_sharedKeys_2, eX5_sharedKeys_3, eX5_sharedKeys_7, eX5_sharedKeys_8, eX5_sharedKeys_11, eX5_sharedKeys_14, eX5_sharedKeys_17, eX5_sharedKeys_18, eX5_sharedKeys_19, eX5_sharedKeys_22, eX5_sharedKeys_24, eX5_sharedKeys_27, eX5_sharedKeys_28, eX5_sharedKeys_29, eX5_sharedKeys_32, eX5_sharedKeys_35, eX5_sharedKeys_38, eX5_sharedKeys_41, eX5_sharedKeys_44, eX5_sharedKeys_45, if_pos, if_neg, if_true, if_false, Option.bind_some, Option.toList_some, Option.toList_none, List.cons_append, List.nil_append, s_size p1, h1, h2]
      exact ih
theorem s_sharedKeys (hv : riv v) (h : RiverIs S v R) (hlo : rng lo) (hhi : rng hi) : fX5_sharedKeys [vR v, vI lo, vI hi] S = some (some (vI (cnt (shd R lo hi) 300)), S) := by
  rw [uX5_sharedKeys]
  simp (disch := omega) only [eX5_sharedKeys_0, eX5_sharedKeys_1, eX5_sharedKeys_2, eX5_sharedKeys_3, eX5_sharedKeys_7, eX5_sharedKeys_8, eX5_sharedKeys_11, eX5_sharedKeys_14, eX5_sharedKeys_17, eX5_sharedKeys_18, eX5_sharedKeys_19, eX5_sharedKeys_22, eX5_sharedKeys_24, eX5_sharedKeys_27, eX5_sharedKeys_28, eX5_sharedKeys_29, eX5_sharedKeys_32, eX5_sharedKeys_35, eX5_sharedKeys_38, eX5_sharedKeys_41, eX5_sharedKeys_44, eX5_sharedKeys_45, if_pos, if_neg, if_true, if_false, Option.bind_some, Option.toList_some, Option.toList_none, List.cons_append, List.nil_append]
  exact l_shared hv h hlo hhi (cnt (R 0) 300) 0 0 (by omega) rfl (by omega)
theorem rwB_r0 (h : RiverIs S v R) {k : Nat} (hk : k < 300) (hz : ¬ 0 < R 0 k) : rwB R lo hi k = 0 := by
  unfold rwB rwR
  split
  · have := h.1.2.2.2.2 k hk
    rw [rv_in hk, show R 0 k = 0 by omega, Int.zero_mul, Int.zero_mul]
  · rfl
theorem l_rowsB (hv : riv v) (h : RiverIs S v R) (hlo : rng lo) (hhi : rng hi) : ∀ (f i b : Nat), i + f = cnt (R 0) 300 → cnt (R 0) b = i → b ≤ 300 → rn xX5_rowsBetween (5, [some (vR v), some (vI lo), some (vI hi), some (vI (sumk (rwB R lo hi) b)), some (vI i)], [], S) = some (some (vI (sumk (rwB R lo hi) 300)), S) := by
  obtain ⟨k0, p1, p2, p3⟩ := id hv
  obtain ⟨q1, -⟩ := id p1
  have h0 := h.1.1
  have h40 := h.1.2.1
  intro f
  induction f with
  | zero =>
    intro i b e1 e2 e3
    have hc : sumk (rwB R lo hi) 300 = sumk (rwB R lo hi) b := sumk_skip e3 (fun j y1 y2 => rwB_r0 h y2 (fun y3 => by
      have z1 := cnt_mono (R 0) y1
      have z2 := cnt_lt y2 y3
      omega))
    rw [eX5_rowsBetween_5]
    simp (disch := omega) only [eX5_rowsBetween_0, eX5_rowsBetween_1, eX5_rowsBetween_2, eX5_rowsBetween_3, eX5_rowsBetween_7, eX5_rowsBetween_8, eX5_rowsBetween_11, eX5_rowsBetween_14, eX5_rowsBetween_17, eX5_rowsBetween_18, eX5_rowsBetween_21, eX5_rowsBetween_23, eX5_rowsBetween_26, eX5_rowsBetween_27, eX5_rowsBetween_28, eX5_rowsBetween_31, eX5_rowsBetween_34, eX5_rowsBetween_35, eX5_rowsBetween_36, eX5_rowsBetween_37, eX5_rowsBetween_40, eX5_rowsBetween_42, eX5_rowsBetween_45, eX5_rowsBetween_48, eX5_rowsBetween_49, eX5_rowsBetween_50, eX5_rowsBetween_53, eX5_rowsBetween_56, eX5_rowsBetween_57, if_pos, if_neg, if_true, if_false, Option.bind_some, Option.toList_some, Option.toList_none, List.cons_append, List.nil_append, s_size p1]
    rw [hc]
  | succ f ih =>
    intro i b e1 e2 e3
    obtain ⟨k, y1, y2, y3, y4, y5, y6⟩ := cnt_next e2 (by omega)
    have hs : sumk (rwB R lo hi) k = sumk (rwB R lo hi) b := sumk_skip y4 (fun j z1 z2 => rwB_r0 h (by omega) (y5 j z1 z2))
    have ih := ih (i + 1) (k + 1) (by omega) y6 (by omega)
    rw [sumk, hs] at ih
    have h1 := keyAt_k hv h y1 y2 y3
    have h2 := s_isBetween (S := S) (a := (k : Int)) ⟨by omega, by omega⟩ hlo hhi
    have h3 := s_rowsAt hv h (key := (k : Int)) ⟨by omega, by omega⟩
    rw [show ((i + 1 : Nat) : Int) = (i : Int) + 1 by omega] at ih
    unfold rwB at ih
    rw [eX5_rowsBetween_5]
    unfold rwB
    by_cases c : lo ≤ (k : Int) ∧ (k : Int) ≤ hi
    · rw [if_pos c] at ih h2
      simp (disch := omega) only [eX5_rowsBetween_0, eX5_rowsBetween_1, eX5_rowsBetween_2, eX5_rowsBetween_3, eX5_rowsBetween_7, eX5_rowsBetween_8, eX5_rowsBetween_11, eX5_rowsBetween_14, eX5_rowsBetween_17, eX5_rowsBetween_18, eX5_rowsBetween_21, eX5_rowsBetween_23, eX5_rowsBetween_26, eX5_rowsBetween_27, eX5_rowsBetween_28, eX5_rowsBetween_31, eX5_rowsBetween_34, eX5_rowsBetween_35, eX5_rowsBetween_36, eX5_rowsBetween_37, eX5_rowsBetween_40, eX5_rowsBetween_42, eX5_rowsBetween_45, eX5_rowsBetween_48, eX5_rowsBetween_49, eX5_rowsBetween_50, eX5_rowsBetween_53, eX5_rowsBetween_56, eX5_rowsBetween_57, if_pos, if_neg, if_true, if_false, Option.bind_some, Option.toList_some, Option.toList_none, List.cons_append, List.nil_append, s_size p1, h1, h2, h3]
      exact ih
    · rw [if_neg c] at ih h2
      rw [Int.add_zero] at ih
      simp (disch := omega) only [eX5_rowsBetween_0, eX5_rowsBetween_1, eX5_rowsBetween_2, eX5_rowsBetween_3, eX5_rowsBetween_7, eX5_rowsBetween_8, eX5_rowsBetween_11, eX5_rowsBetween_14, eX5_rowsBetween_17, eX5_rowsBetween_18, eX5_rowsBetween_21, eX5_rowsBetween_23, eX5_rowsBetween_26, eX5_rowsBetween_27, eX5_rowsBetween_28, eX5_rowsBetween_31, eX5_rowsBetween_34, eX5_rowsBetween_35, eX5_rowsBetween_36, eX5_rowsBetween_37, eX5_rowsBetween_40, eX5_rowsBetween_42, eX5_rowsBetween_45, eX5_rowsBetween_48, eX5_rowsBetween_49, eX5_rowsBetween_50, eX5_rowsBetween_53, eX5_rowsBetween_56, eX5_rowsBetween_57, if_pos, if_neg, if_true, if_false, Option.bind_some, Option.toList_some, Option.toList_none, List.cons_append, List.nil_append, s_size p1, h1, h2, h3]
      exact ih
theorem s_rowsBetween (hv : riv v) (h : RiverIs S v R) (hlo : rng lo) (hhi : rng hi) : fX5_rowsBetween [vR v, vI lo, vI hi] S = some (some (vI (sumk (rwB R lo hi) 300)), S) := by
  rw [uX5_rowsBetween]
  simp (disch := omega) only [eX5_rowsBetween_0, eX5_rowsBetween_1, eX5_rowsBetween_2, eX5_rowsBetween_3, eX5_rowsBetween_7, eX5_rowsBetween_8, eX5_rowsBetween_11, eX5_rowsBetween_14, eX5_rowsBetween_17, eX5_rowsBetween_18, eX5_rowsBetween_21, eX5_rowsBetween_23, eX5_rowsBetween_26, eX5_rowsBetween_27, eX5_rowsBetween_28, eX5_rowsBetween_31, eX5_rowsBetween_34, eX5_rowsBetween_35, eX5_rowsBetween_36, eX5_rowsBetween_37, eX5_rowsBetween_40, eX5_rowsBetween_42, eX5_rowsBetween_45, eX5_rowsBetween_48, eX5_rowsBetween_49, eX5_rowsBetween_50, eX5_rowsBetween_53, eX5_rowsBetween_56, eX5_rowsBetween_57, if_pos, if_neg, if_true, if_false, Option.bind_some, Option.toList_some, Option.toList_none, List.cons_append, List.nil_append]
  exact l_rowsB hv h hlo hhi (cnt (R 0) 300) 0 0 (by omega) rfl (by omega)
theorem l_first (hv : riv v) (h : RiverIs S v R) (hlo : rng lo) (hhi : rng hi) : ∀ (f i b : Nat), i + f = cnt (R 0) 300 → cnt (R 0) b = i → b ≤ 300 → gF (shd R lo hi) b = -6 → rn xX5_firstShared (2, [some (vR v), some (vI lo), some (vI hi), some (vI i)], [], S) = some (some (vI (gF (shd R lo hi) 300)), S) := by
  obtain ⟨k0, p1, p2, p3⟩ := id hv
  obtain ⟨q1, -⟩ := id p1
  have h0 := h.1.1
  have h40 := h.1.2.1
  intro f
  induction f with
  | zero =>
    intro i b e1 e2 e3 e4
    have hc : gF (shd R lo hi) 300 = gF (shd R lo hi) b := gF_skip e3 (fun j y1 y2 y3 => by
      have z1 := cnt_mono (R 0) y1
      have z2 := cnt_lt y2 (shd_r0 h y2 y3)
      omega)
    rw [eX5_firstShared_2]
    simp (disch := omega) only [eX5_firstShared_0, eX5_firstShared_1, eX5_firstShared_3, eX5_firstShared_4, eX5_firstShared_7, eX5_firstShared_10, eX5_firstShared_13, eX5_firstShared_14, eX5_firstShared_15, eX5_firstShared_18, eX5_firstShared_19, eX5_firstShared_22, eX5_firstShared_23, eX5_firstShared_24, eX5_firstShared_27, eX5_firstShared_30, eX5_firstShared_31, eX5_firstShared_34, eX5_firstShared_35, eX5_firstShared_38, eX5_firstShared_39, eX5_firstShared_42, eX5_firstShared_45, eX5_firstShared_47, if_pos, if_neg, if_true, if_false, Option.bind_some, Option.toList_some, Option.toList_none, List.cons_append, List.nil_append, s_size p1]
    rw [hc, e4]
  | succ f ih =>
    intro i b e1 e2 e3 e4
    obtain ⟨k, y1, y2, y3, y4, y5, y6⟩ := cnt_next e2 (by omega)
    have hs : gF (shd R lo hi) k = -6 := by rw [gF_skip y4 (fun j z1 z2 z3 => y5 j z1 z2 (shd_r0 h (by omega) z3))]; exact e4
    have hsb := shd_01 (R := R) (lo := lo) (hi := hi) k
    have h1 := keyAt_k hv h y1 y2 y3
    have h2 := isShared_k hv h hlo hhi y1
    rw [eX5_firstShared_2]
    rcases hsb with hz | hz
    · have hg : gF (shd R lo hi) (k + 1) = -6 := by rw [gF, if_neg (by omega)]; exact hs
      have ih := ih (i + 1) (k + 1) (by omega) y6 (by omega) hg
      rw [show ((i + 1 : Nat) : Int) = (i : Int) + 1 by omega] at ih
      rw [hz] at h2
      simp (disch := omega) only [eX5_firstShared_0, eX5_firstShared_1, eX5_firstShared_3, eX5_firstShared_4, eX5_firstShared_7, eX5_firstShared_10, eX5_firstShared_13, eX5_firstShared_14, eX5_firstShared_15, eX5_firstShared_18, eX5_firstShared_19, eX5_firstShared_22, eX5_firstShared_23, eX5_firstShared_24, eX5_firstShared_27, eX5_firstShared_30, eX5_firstShared_31, eX5_firstShared_34, eX5_firstShared_35, eX5_firstShared_38, eX5_firstShared_39, eX5_firstShared_42, eX5_firstShared_45, eX5_firstShared_47, if_pos, if_neg, if_true, if_false, Option.bind_some, Option.toList_some, Option.toList_none, List.cons_append, List.nil_append, s_size p1, h1, h2]
      exact ih
    · have hg : gF (shd R lo hi) (k + 1) = k := by rw [gF, if_pos (by omega)]
      have hg2 := gF_found (f := shd R lo hi) (show k + 1 ≤ 300 by omega) (by omega)
      rw [hz] at h2
      simp (disch := omega) only [eX5_firstShared_0, eX5_firstShared_1, eX5_firstShared_3, eX5_firstShared_4, eX5_firstShared_7, eX5_firstShared_10, eX5_firstShared_13, eX5_firstShared_14, eX5_firstShared_15, eX5_firstShared_18, eX5_firstShared_19, eX5_firstShared_22, eX5_firstShared_23, eX5_firstShared_24, eX5_firstShared_27, eX5_firstShared_30, eX5_firstShared_31, eX5_firstShared_34, eX5_firstShared_35, eX5_firstShared_38, eX5_firstShared_39, eX5_firstShared_42, eX5_firstShared_45, eX5_firstShared_47, if_pos, if_neg, if_true, if_false, Option.bind_some, Option.toList_some, Option.toList_none, List.cons_append, List.nil_append, s_size p1, h1, h2]
      rw [hg2, hg]
theorem s_firstShared (hv : riv v) (h : RiverIs S v R) (hlo : rng lo) (hhi : rng hi) : fX5_firstShared [vR v, vI lo, vI hi] S = some (some (vI (gF (shd R lo hi) 300)), S) := by
  rw [uX5_firstShared]
  simp (disch := omega) only [eX5_firstShared_0, eX5_firstShared_1, eX5_firstShared_3, eX5_firstShared_4, eX5_firstShared_7, eX5_firstShared_10, eX5_firstShared_13, eX5_firstShared_14, eX5_firstShared_15, eX5_firstShared_18, eX5_firstShared_19, eX5_firstShared_22, eX5_firstShared_23, eX5_firstShared_24, eX5_firstShared_27, eX5_firstShared_30, eX5_firstShared_31, eX5_firstShared_34, eX5_firstShared_35, eX5_firstShared_38, eX5_firstShared_39, eX5_firstShared_42, eX5_firstShared_45, eX5_firstShared_47, if_pos, if_neg, if_true, if_false, Option.bind_some, Option.toList_some, Option.toList_none, List.cons_append, List.nil_append]
  exact l_first hv h hlo hhi (cnt (R 0) 300) 0 0 (by omega) rfl (by omega) rfl
theorem l_last (hv : riv v) (h : RiverIs S v R) (hlo : rng lo) (hhi : rng hi) : ∀ (i b : Nat), i ≤ cnt (R 0) 300 → cnt (R 0) b = i → b ≤ 300 → gB (shd R lo hi) 300 = gB (shd R lo hi) b → rn xX5_lastShared (10, [some (vR v), some (vI lo), some (vI hi), some (vI ((i : Int) - 1))], [], S) = some (some (vI (gB (shd R lo hi) 300)), S) := by
  obtain ⟨k0, p1, p2, p3⟩ := id hv
  obtain ⟨q1, -⟩ := id p1
  have h0 := h.1.1
  have h40 := h.1.2.1
  intro i
  induction i with
  | zero =>
    intro b e1 e2 e3 e4
    have hc : gB (shd R lo hi) b = gB (shd R lo hi) 0 := gB_skip (Nat.zero_le b) (fun j y1 y2 y3 => by
      have z2 := cnt_lt y2 (shd_r0 h (by omega) y3)
      omega)
    rw [eX5_lastShared_10]
    simp (disch := omega) only [eX5_lastShared_0, eX5_lastShared_1, eX5_lastShared_4, eX5_lastShared_7, eX5_lastShared_8, eX5_lastShared_9, eX5_lastShared_11, eX5_lastShared_14, eX5_lastShared_15, eX5_lastShared_16, eX5_lastShared_19, eX5_lastShared_20, eX5_lastShared_23, eX5_lastShared_24, eX5_lastShared_25, eX5_lastShared_28, eX5_lastShared_31, eX5_lastShared_32, eX5_lastShared_35, eX5_lastShared_36, eX5_lastShared_39, eX5_lastShared_40, eX5_lastShared_43, eX5_lastShared_46, eX5_lastShared_48, if_pos, if_neg, if_true, if_false, Option.bind_some, Option.toList_some, Option.toList_none, List.cons_append, List.nil_append]
    rw [e4, hc]
    rfl
  | succ i ih =>
    intro b e1 e2 e3 e4
    obtain ⟨k, y1, y2, y3⟩ := cnt_ex (r := R 0) (m := b) (j := i) (by omega)
    have hs : gB (shd R lo hi) b = gB (shd R lo hi) (k + 1) := gB_skip (by omega) (fun j z1 z2 z3 => by
      have w1 := cnt_mono (R 0) z1
      rw [cnt_s1 y2] at w1
      have w2 := cnt_lt z2 (shd_r0 h (by omega) z3)
      omega)
    have hsb := shd_01 (R := R) (lo := lo) (hi := hi) k
    have h1 := keyAt_k hv h (show k < 300 by omega) y2 y3
    have h2 := isShared_k hv h hlo hhi (show k < 300 by omega)
    rw [show (((i + 1 : Nat) : Int) - 1) = (i : Int) by omega]
    rw [eX5_lastShared_10]
    rcases hsb with hz | hz
    · have ih := ih k (by omega) y3 (by omega) (by rw [e4, hs, gB, if_neg (by omega)])
      rw [show ((i : Int) - 1) = (i : Int) + (-1) by omega] at ih
      rw [hz] at h2
      simp (disch := omega) only [eX5_lastShared_0, eX5_lastShared_1, eX5_lastShared_4, eX5_lastShared_7, eX5_lastShared_8, eX5_lastShared_9, eX5_lastShared_11, eX5_lastShared_14, eX5_lastShared_15, eX5_lastShared_16, eX5_lastShared_19, eX5_lastShared_20, eX5_lastShared_23, eX5_lastShared_24, eX5_lastShared_25, eX5_lastShared_28, eX5_lastShared_31, eX5_lastShared_32, eX5_lastShared_35, eX5_lastShared_36, eX5_lastShared_39, eX5_lastShared_40, eX5_lastShared_43, eX5_lastShared_46, eX5_lastShared_48, if_pos, if_neg, if_true, if_false, Option.bind_some, Option.toList_some, Option.toList_none, List.cons_append, List.nil_append, s_size p1, h1, h2]
      exact ih
    · rw [hz] at h2
      simp (disch := omega) only [eX5_lastShared_0, eX5_lastShared_1, eX5_lastShared_4, eX5_lastShared_7, eX5_lastShared_8, eX5_lastShared_9, eX5_lastShared_11, eX5_lastShared_14, eX5_lastShared_15, eX5_lastShared_16, eX5_lastShared_19, eX5_lastShared_20, eX5_lastShared_23, eX5_lastShared_24, eX5_lastShared_25, eX5_lastShared_28, eX5_lastShared_31, eX5_lastShared_32, eX5_lastShared_35, eX5_lastShared_36, eX5_lastShared_39, eX5_lastShared_40, eX5_lastShared_43, eX5_lastShared_46, eX5_lastShared_48, if_pos, if_neg, if_true, if_false, Option.bind_some, Option.toList_some, Option.toList_none, List.cons_append, List.nil_append, s_size p1, h1, h2]
      rw [e4, hs, gB, if_pos (by omega)]
theorem s_lastShared (hv : riv v) (h : RiverIs S v R) (hlo : rng lo) (hhi : rng hi) : fX5_lastShared [vR v, vI lo, vI hi] S = some (some (vI (gB (shd R lo hi) 300)), S) := by
  obtain ⟨k0, p1, p2, p3⟩ := id hv
  obtain ⟨q1, -⟩ := id p1
  rw [uX5_lastShared]
  simp (disch := omega) only [eX5_lastShared_0, eX5_lastShared_1, eX5_lastShared_4, eX5_lastShared_7, eX5_lastShared_8, eX5_lastShared_9, eX5_lastShared_11, eX5_lastShared_14, eX5_lastShared_15, eX5_lastShared_16, eX5_lastShared_19, eX5_lastShared_20, eX5_lastShared_23, eX5_lastShared_24, eX5_lastShared_25, eX5_lastShared_28, eX5_lastShared_31, eX5_lastShared_32, eX5_lastShared_35, eX5_lastShared_36, eX5_lastShared_39, eX5_lastShared_40, eX5_lastShared_43, eX5_lastShared_46, eX5_lastShared_48, if_pos, if_neg, if_true, if_false, Option.bind_some, Option.toList_some, Option.toList_none, List.cons_append, List.nil_append, s_size p1]
  rw [h.1.1]
  exact l_last hv h hlo hhi (cnt (R 0) 300) 300 (Nat.le_refl _) rfl (Nat.le_refl _) rfl
theorem l_gap (hv : riv v) (h : RiverIs S v R) (hlo : rng lo) (hhi : rng hi) : ∀ (f i b : Nat) (x : Option VV), i + f = cnt (R 0) 300 → cnt (R 0) b = i → b ≤ 300 → rn xX5_widestGap (10, [some (vR v), some (vI lo), some (vI hi), some (vI (gW (shd R lo hi) b)), some (vI (gB (shd R lo hi) b)), some (vI i), x], [], S) = some (some (vI (gW (shd R lo hi) 300)), S) := by
  obtain ⟨k0, p1, p2, p3⟩ := id hv
  obtain ⟨q1, -⟩ := id p1
  have h0 := h.1.1
  have h40 := h.1.2.1
  intro f
  induction f with
  | zero =>
    intro i b x e1 e2 e3
    have hc : gW (shd R lo hi) 300 = gW (shd R lo hi) b := gW_skip e3 (fun j y1 y2 y3 => by
      have z1 := cnt_mono (R 0) y1
      have z2 := cnt_lt y2 (shd_r0 h y2 y3)
      omega)
    rw [eX5_widestGap_10]
    simp (disch := omega) only [eX5_widestGap_0, eX5_widestGap_2, eX5_widestGap_3, eX5_widestGap_5, eX5_widestGap_7, eX5_widestGap_8, eX5_widestGap_12, eX5_widestGap_13, eX5_widestGap_16, eX5_widestGap_19, eX5_widestGap_22, eX5_widestGap_23, eX5_widestGap_26, eX5_widestGap_28, eX5_widestGap_31, eX5_widestGap_33, eX5_widestGap_34, eX5_widestGap_36, eX5_widestGap_37, eX5_widestGap_38, eX5_widestGap_41, eX5_widestGap_44, eX5_widestGap_46, eX5_widestGap_48, eX5_widestGap_51, eX5_widestGap_52, eX5_widestGap_54, eX5_widestGap_56, eX5_widestGap_57, eX5_widestGap_60, eX5_widestGap_61, eX5_widestGap_63, eX5_widestGap_65, eX5_widestGap_68, eX5_widestGap_71, eX5_widestGap_72, if_pos, if_neg, if_true, if_false, Option.bind_some, Option.toList_some, Option.toList_none, List.cons_append, List.nil_append, s_size p1]
    rw [hc]
  | succ f ih =>
    intro i b x e1 e2 e3
    obtain ⟨k, y1, y2, y3, y4, y5, y6⟩ := cnt_next e2 (by omega)
    have hs1 : gW (shd R lo hi) k = gW (shd R lo hi) b := gW_skip y4 (fun j z1 z2 z3 => y5 j z1 z2 (shd_r0 h (by omega) z3))
    have hs2 : gB (shd R lo hi) k = gB (shd R lo hi) b := gB_skip y4 (fun j z1 z2 z3 => y5 j z1 z2 (shd_r0 h (by omega) z3))
    have hsb := shd_01 (R := R) (lo := lo) (hi := hi) k
    have hB := gB_b (shd R lo hi) b
    have hW := gW_b (shd R lo hi) b
    have h1 := keyAt_k hv h y1 y2 y3
    have h2 := isShared_k hv h hlo hhi y1
    have ih := ih (i + 1) (k + 1) (some (vI k)) (by omega) y6 (by omega)
    rw [show ((i + 1 : Nat) : Int) = (i : Int) + 1 by omega, gW, gB, hs1, hs2] at ih
    rw [eX5_widestGap_10]
    rcases hsb with hz | hz
    · rw [if_neg (by omega), if_neg (by omega)] at ih
      rw [hz] at h2
      simp (disch := omega) only [eX5_widestGap_0, eX5_widestGap_2, eX5_widestGap_3, eX5_widestGap_5, eX5_widestGap_7, eX5_widestGap_8, eX5_widestGap_12, eX5_widestGap_13, eX5_widestGap_16, eX5_widestGap_19, eX5_widestGap_22, eX5_widestGap_23, eX5_widestGap_26, eX5_widestGap_28, eX5_widestGap_31, eX5_widestGap_33, eX5_widestGap_34, eX5_widestGap_36, eX5_widestGap_37, eX5_widestGap_38, eX5_widestGap_41, eX5_widestGap_44, eX5_widestGap_46, eX5_widestGap_48, eX5_widestGap_51, eX5_widestGap_52, eX5_widestGap_54, eX5_widestGap_56, eX5_widestGap_57, eX5_widestGap_60, eX5_widestGap_61, eX5_widestGap_63, eX5_widestGap_65, eX5_widestGap_68, eX5_widestGap_71, eX5_widestGap_72, if_pos, if_neg, if_true, if_false, Option.bind_some, Option.toList_some, Option.toList_none, List.cons_append, List.nil_append, s_size p1, h1, h2]
      exact ih
    · rw [hz] at h2 ih
      rw [if_pos (show (0 : Int) < 1 by decide)] at ih
      by_cases c : gB (shd R lo hi) b = -6
      · rw [if_neg (fun q => q.2 c)] at ih
        simp (disch := omega) only [eX5_widestGap_0, eX5_widestGap_2, eX5_widestGap_3, eX5_widestGap_5, eX5_widestGap_7, eX5_widestGap_8, eX5_widestGap_12, eX5_widestGap_13, eX5_widestGap_16, eX5_widestGap_19, eX5_widestGap_22, eX5_widestGap_23, eX5_widestGap_26, eX5_widestGap_28, eX5_widestGap_31, eX5_widestGap_33, eX5_widestGap_34, eX5_widestGap_36, eX5_widestGap_37, eX5_widestGap_38, eX5_widestGap_41, eX5_widestGap_44, eX5_widestGap_46, eX5_widestGap_48, eX5_widestGap_51, eX5_widestGap_52, eX5_widestGap_54, eX5_widestGap_56, eX5_widestGap_57, eX5_widestGap_60, eX5_widestGap_61, eX5_widestGap_63, eX5_widestGap_65, eX5_widestGap_68, eX5_widestGap_71, eX5_widestGap_72, if_pos, if_neg, if_true, if_false, Option.bind_some, Option.toList_some, Option.toList_none, List.cons_append, List.nil_append, s_size p1, h1, h2]
        exact ih
      · rw [if_pos ⟨by decide, c⟩] at ih
        have hm := s_max (S := S) (a := gW (shd R lo hi) b) (b := (k : Int) - gB (shd R lo hi) b) ⟨by omega, by omega⟩ ⟨by omega, by omega⟩
        simp (disch := omega) only [eX5_widestGap_0, eX5_widestGap_2, eX5_widestGap_3, eX5_widestGap_5, eX5_widestGap_7, eX5_widestGap_8, eX5_widestGap_12, eX5_widestGap_13, eX5_widestGap_16, eX5_widestGap_19, eX5_widestGap_22, eX5_widestGap_23, eX5_widestGap_26, eX5_widestGap_28, eX5_widestGap_31, eX5_widestGap_33, eX5_widestGap_34, eX5_widestGap_36, eX5_widestGap_37, eX5_widestGap_38, eX5_widestGap_41, eX5_widestGap_44, eX5_widestGap_46, eX5_widestGap_48, eX5_widestGap_51, eX5_widestGap_52, eX5_widestGap_54, eX5_widestGap_56, eX5_widestGap_57, eX5_widestGap_60, eX5_widestGap_61, eX5_widestGap_63, eX5_widestGap_65, eX5_widestGap_68, eX5_widestGap_71, eX5_widestGap_72, if_pos, if_neg, if_true, if_false, Option.bind_some, Option.toList_some, Option.toList_none, List.cons_append, List.nil_append, s_size p1, h1, h2, hm]
        exact ih
theorem s_widestGap (hv : riv v) (h : RiverIs S v R) (hlo : rng lo) (hhi : rng hi) : fX5_widestGap [vR v, vI lo, vI hi] S = some (some (vI (gW (shd R lo hi) 300)), S) := by
  rw [uX5_widestGap]
  simp (disch := omega) only [eX5_widestGap_0, eX5_widestGap_2, eX5_widestGap_3, eX5_widestGap_5, eX5_widestGap_7, eX5_widestGap_8, eX5_widestGap_12, eX5_widestGap_13, eX5_widestGap_16, eX5_widestGap_19, eX5_widestGap_22, eX5_widestGap_23, eX5_widestGap_26, eX5_widestGap_28, eX5_widestGap_31, eX5_widestGap_33, eX5_widestGap_34, eX5_widestGap_36, eX5_widestGap_37, eX5_widestGap_38, eX5_widestGap_41, eX5_widestGap_44, eX5_widestGap_46, eX5_widestGap_48, eX5_widestGap_51, eX5_widestGap_52, eX5_widestGap_54, eX5_widestGap_56, eX5_widestGap_57, eX5_widestGap_60, eX5_widestGap_61, eX5_widestGap_63, eX5_widestGap_65, eX5_widestGap_68, eX5_widestGap_71, eX5_widestGap_72, if_pos, if_neg, if_true, if_false, Option.bind_some, Option.toList_some, Option.toList_none, List.cons_append, List.nil_append]
  exact l_gap hv h hlo hhi (cnt (R 0) 300) 0 0 _ (by omega) rfl (by omega)
end SHR
theorem s_riverClear {S : MM} {v : Nat} (hv : riv v) : ∃ S', fX5_clear [vR v] S = some (none, S') ∧ S' (v + 1) 2 = 0 ∧ S' (v + 4) 2 = 0 ∧ S' (v + 7) 2 = 0 ∧ (∀ a, a ≠ v + 1 → a ≠ v + 4 → a ≠ v + 7 → S' a = S a) := by
  obtain ⟨k0, p1, p2, p3⟩ := id hv
  obtain ⟨q1, -⟩ := id p1
  obtain ⟨q2, -⟩ := id p2
  obtain ⟨q3, -⟩ := id p3
  refine ⟨updM (updM (updM S (v + 1) 2 0) (v + 4) 2 0) (v + 7) 2 0, ?_, by rw [updM_ne (by omega), updM_ne (by omega), updM_eq, up_eq], by rw [updM_ne (by omega), updM_eq, up_eq], by rw [updM_eq, up_eq], fun a h1 h2 h3 => by rw [updM_ne h3, updM_ne h2, updM_ne h1]⟩
  rw [uX5_clear]
  simp (disch := omega) only [eX5_clear_0, eX5_clear_1, eX5_clear_4, eX5_clear_7, eX5_clear_8, eX5_clear_11, eX5_clear_14, eX5_clear_15, eX5_clear_18, eX5_clear_21, if_pos, if_neg, if_true, if_false, Option.bind_some, Option.toList_some, Option.toList_none, List.cons_append, List.nil_append, s_pathClear p1, s_pathClear p2, s_pathClear p3]
def sz40 (S : MM) (v : Nat) : Prop := (0 ≤ S (v + 1) 2 ∧ S (v + 1) 2 ≤ 40) ∧ (0 ≤ S (v + 4) 2 ∧ S (v + 4) 2 ≤ 40) ∧ (0 ≤ S (v + 7) 2 ∧ S (v + 7) 2 ≤ 40)
theorem RiverIs.sz {S : MM} {v : Nat} {R : Nat → Nat → Int} (h : RiverIs S v R) : sz40 S v := by
  have e1 := h.1.1
  have e2 := h.2.1.1
  have e3 := h.2.2.1
  have f1 := h.1.2.1
  have f2 := h.2.1.2.1
  have f3 := h.2.2.2.1
  unfold sz40
  omega
theorem s_riverCopy {S : MM} {v o : Nat} (hv : riv v) (ho : riv o) (hvo : o + 9 < v ∨ v + 9 < o) (hs : sz40 S o) : ∃ S', fX5_copyFrom [vR v, vR o] S = some (none, S') ∧ sz40 S' v ∧ (∀ R, RiverIs S o R → RiverIs S' v R) ∧ (∀ a, a ≤ v ∨ v + 10 ≤ a → S' a = S a) := by
  obtain ⟨k0, p1, p2, p3⟩ := id hv
  obtain ⟨k1, o1, o2, o3⟩ := id ho
  obtain ⟨q1, -⟩ := id p1
  obtain ⟨q2, -⟩ := id p2
  obtain ⟨q3, -⟩ := id p3
  obtain ⟨s1, s2, s3⟩ := hs
  obtain ⟨T1, a1, a2, a3, a4⟩ := s_pathCopy (S := S) p1 o1 (by omega) s1
  obtain ⟨T2, b1, b2, b3, b4⟩ := s_pathCopy (S := T1) p2 o2 (by omega) (by rw [a4 _ (by omega) (by omega) (by omega)]; exact s2)
  have t1 : ∀ a, (a ≠ v + 1 ∧ a ≠ v + 2 ∧ a ≠ v + 3) ∧ (a ≠ v + 4 ∧ a ≠ v + 5 ∧ a ≠ v + 6) → T2 a = S a := fun a h => by rw [b4 a h.2.1 h.2.2.1 h.2.2.2, a4 a h.1.1 h.1.2.1 h.1.2.2]
  obtain ⟨T3, c1, c2, c3, c4⟩ := s_pathCopy (S := T2) p3 o3 (by omega) (by rw [t1 _ (by omega)]; exact s3)
  refine ⟨T3, ?_, ⟨?_, ?_, ?_⟩, fun R hR => ⟨?_, ?_, ?_⟩, fun a ha => by rw [c4 a (by omega) (by omega) (by omega)]; exact t1 a (by omega)⟩
  · rw [uX5_copyFrom]
    simp (disch := omega) only [eX5_copyFrom_0, eX5_copyFrom_1n, eX5_copyFrom_1r, eX5_copyFrom_4, eX5_copyFrom_5, eX5_copyFrom_6, eX5_copyFrom_9, eX5_copyFrom_10, eX5_copyFrom_13, eX5_copyFrom_16, eX5_copyFrom_17, eX5_copyFrom_20, eX5_copyFrom_21, eX5_copyFrom_24, eX5_copyFrom_27, eX5_copyFrom_28, eX5_copyFrom_31, eX5_copyFrom_32, eX5_copyFrom_35, eX5_copyFrom_38, if_pos, if_neg, if_true, if_false, Option.bind_some, Option.toList_some, Option.toList_none, List.cons_append, List.nil_append, a1, b1, c1]
  · rw [c4 _ (by omega) (by omega) (by omega), b4 _ (by omega) (by omega) (by omega), a2]
    exact s1
  · rw [c4 _ (by omega) (by omega) (by omega), b2, a4 _ (by omega) (by omega) (by omega)]
    exact s2
  · rw [c2, t1 _ (by omega)]
    exact s3
  · refine (a3 _ hR.1).rows ?_ ?_ ?_
    · rw [c4 _ (by omega) (by omega) (by omega), b4 _ (by omega) (by omega) (by omega)]
    · rw [c4 _ (by omega) (by omega) (by omega), b4 _ (by omega) (by omega) (by omega)]
    · rw [c4 _ (by omega) (by omega) (by omega), b4 _ (by omega) (by omega) (by omega)]
  · refine (b3 _ (hR.2.1.rows ?_ ?_ ?_)).rows ?_ ?_ ?_
    · rw [a4 _ (by omega) (by omega) (by omega)]
    · rw [a4 _ (by omega) (by omega) (by omega)]
    · rw [a4 _ (by omega) (by omega) (by omega)]
    · rw [c4 _ (by omega) (by omega) (by omega)]
    · rw [c4 _ (by omega) (by omega) (by omega)]
    · rw [c4 _ (by omega) (by omega) (by omega)]
  · refine c3 _ (hR.2.2.rows ?_ ?_ ?_)
    · rw [t1 _ (by omega)]
    · rw [t1 _ (by omega)]
    · rw [t1 _ (by omega)]

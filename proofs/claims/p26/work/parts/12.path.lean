/-! a walker's stones -/
def pth (p : Nat) : Prop := kd p = 3 ∧ kd (p + 1) = 10 ∧ kd (p + 2) = 10 ∧ alen (p + 1) = 40 ∧ alen (p + 2) = 40
def PathIs (S : MM) (p : Nat) (r : Nat → Int) : Prop := S p 2 = (cnt r 300 : Int) ∧ cnt r 300 ≤ 40 ∧ Enm r (S (p + 1)) ∧ EnV r (S (p + 2)) ∧ ∀ k, k < 300 → 0 ≤ r k ∧ r k ≤ 9
theorem PathIs.rows {S S' : MM} {p : Nat} {r : Nat → Int} (h : PathIs S p r) (h0 : S' p 2 = S p 2) (h1 : S' (p + 1) = S (p + 1)) (h2 : S' (p + 2) = S (p + 2)) : PathIs S' p r := by
  obtain ⟨a, b, c, d, e⟩ := h
  exact ⟨by rw [h0]; exact a, b, by rw [h1]; exact c, by rw [h2]; exact d, e⟩
theorem PathIs.congr {S : MM} {p : Nat} {r r' : Nat → Int} (h : PathIs S p r) (he : ∀ k, k < 300 → r' k = r k) : PathIs S p r' := by
  obtain ⟨a, b, c, d, e⟩ := h
  have e1 : ∀ m, m ≤ 300 → cnt r' m = cnt r m := fun m hm => cnt_congr (fun k hk => by rw [he k (by omega)])
  refine ⟨by rw [e1 300 (Nat.le_refl _)]; exact a, by rw [e1 300 (Nat.le_refl _)]; exact b, fun k hk hp => ?_, fun k hk hp => ?_, fun k hk => by rw [he k hk]; exact e k hk⟩
  · rw [e1 k (by omega)]; exact c k hk (by rw [← he k hk]; exact hp)
  · rw [e1 k (by omega), he k hk]; exact d k hk (by rw [← he k hk]; exact hp)
theorem s_size {S : MM} {p : Nat} (hp : pth p) : fX3_size [vR p] S = some (some (vI (S p 2)), S) := by
  obtain ⟨k0, k1, k2, a1, a2⟩ := hp
  rw [uX3_size]
  simp (disch := omega) only [eX3_size_0, eX3_size_1, eX3_size_4, if_pos, if_neg, if_true, if_false, Option.bind_some, Option.toList_some, Option.toList_none, List.cons_append, List.nil_append]
theorem l_placeFrom {S : MM} {p : Nat} {r : Nat → Int} {key : Int} (hp : pth p) (h : PathIs S p r) (hk : 0 ≤ key ∧ key ≤ 300) : ∀ (f : Nat) (lo hi i : Int) (x : Option VV), 0 ≤ lo → lo ≤ cnt r key.toNat → (cnt r key.toNat : Int) ≤ hi → hi ≤ cnt r 300 → hi - lo ≤ f → i + f ≤ 40 → 0 ≤ i → rn xX3_placeFrom (10, [some (vR p), some (vI key), some (vI lo), some (vI hi), some (vI i), x], [], S) = some (some (vI (cnt r key.toNat)), S) := by
  obtain ⟨k0, k1, k2, a1, a2⟩ := hp
  obtain ⟨h0, h40, hE, hV, hr⟩ := h
  intro f
  induction f with
  | zero =>
    intro lo hi i x h1 h2 h3 h4 h5 h6 h7
    have e : lo = cnt r key.toNat := by omega
    subst e
    rw [eX3_placeFrom_10]
    simp (disch := omega) only [eX3_placeFrom_0, eX3_placeFrom_1, eX3_placeFrom_2, eX3_placeFrom_3, eX3_placeFrom_6, eX3_placeFrom_7, eX3_placeFrom_8, eX3_placeFrom_12, eX3_placeFrom_14, eX3_placeFrom_17, eX3_placeFrom_18, eX3_placeFrom_19, eX3_placeFrom_22, eX3_placeFrom_23, eX3_placeFrom_24, eX3_placeFrom_25, eX3_placeFrom_26, eX3_placeFrom_27, eX3_placeFrom_29, eX3_placeFrom_30, eX3_placeFrom_33, eX3_placeFrom_35, eX3_placeFrom_35x, eX3_placeFrom_35y, eX3_placeFrom_36, eX3_placeFrom_37, eX3_placeFrom_40, eX3_placeFrom_42, eX3_placeFrom_43, eX3_placeFrom_44, eX3_placeFrom_45, eX3_placeFrom_48, eX3_placeFrom_50, eX3_placeFrom_51, eX3_placeFrom_54, eX3_placeFrom_57, eX3_placeFrom_58, if_pos, if_neg, if_true, if_false, Option.bind_some, Option.toList_some, Option.toList_none, List.cons_append, List.nil_append]
    split <;> rfl
  | succ f ih =>
    intro lo hi i x h1 h2 h3 h4 h5 h6 h7
    rw [eX3_placeFrom_10]
    by_cases c : lo < hi
    · have hj : ((lo + hi) / 2).toNat < cnt r 300 := by omega
      have hb := hE.rng hj
      have hl := hE.ltI hk.1 hj
      simp (disch := omega) only [eX3_placeFrom_0, eX3_placeFrom_1, eX3_placeFrom_2, eX3_placeFrom_3, eX3_placeFrom_6, eX3_placeFrom_7, eX3_placeFrom_8, eX3_placeFrom_12, eX3_placeFrom_14, eX3_placeFrom_17, eX3_placeFrom_18, eX3_placeFrom_19, eX3_placeFrom_22, eX3_placeFrom_23, eX3_placeFrom_24, eX3_placeFrom_25, eX3_placeFrom_26, eX3_placeFrom_27, eX3_placeFrom_29, eX3_placeFrom_30, eX3_placeFrom_33, eX3_placeFrom_35, eX3_placeFrom_35x, eX3_placeFrom_35y, eX3_placeFrom_36, eX3_placeFrom_37, eX3_placeFrom_40, eX3_placeFrom_42, eX3_placeFrom_43, eX3_placeFrom_44, eX3_placeFrom_45, eX3_placeFrom_48, eX3_placeFrom_50, eX3_placeFrom_51, eX3_placeFrom_54, eX3_placeFrom_57, eX3_placeFrom_58, if_pos, if_neg, if_true, if_false, Option.bind_some, Option.toList_some, Option.toList_none, List.cons_append, List.nil_append]
      by_cases d : S (p + 1) ((lo + hi) / 2).toNat < key
      · rw [if_pos d]
        have := hl.mp d
        exact ih _ _ _ _ (by omega) (by omega) (by omega) (by omega) (by omega) (by omega) (by omega)
      · rw [if_neg d]
        have : ¬ ((lo + hi) / 2).toNat < cnt r key.toNat := fun q => d (hl.mpr q)
        exact ih _ _ _ _ (by omega) (by omega) (by omega) (by omega) (by omega) (by omega) (by omega)
    · have e : lo = cnt r key.toNat := by omega
      subst e
      simp (disch := omega) only [eX3_placeFrom_0, eX3_placeFrom_1, eX3_placeFrom_2, eX3_placeFrom_3, eX3_placeFrom_6, eX3_placeFrom_7, eX3_placeFrom_8, eX3_placeFrom_12, eX3_placeFrom_14, eX3_placeFrom_17, eX3_placeFrom_18, eX3_placeFrom_19, eX3_placeFrom_22, eX3_placeFrom_23, eX3_placeFrom_24, eX3_placeFrom_25, eX3_placeFrom_26, eX3_placeFrom_27, eX3_placeFrom_29, eX3_placeFrom_30, eX3_placeFrom_33, eX3_placeFrom_35, eX3_placeFrom_35x, eX3_placeFrom_35y, eX3_placeFrom_36, eX3_placeFrom_37, eX3_placeFrom_40, eX3_placeFrom_42, eX3_placeFrom_43, eX3_placeFrom_44, eX3_placeFrom_45, eX3_placeFrom_48, eX3_placeFrom_50, eX3_placeFrom_51, eX3_placeFrom_54, eX3_placeFrom_57, eX3_placeFrom_58, if_pos, if_neg, if_true, if_false, Option.bind_some, Option.toList_some, Option.toList_none, List.cons_append, List.nil_append]
theorem s_placeFrom {S : MM} {p : Nat} {r : Nat → Int} {key : Int} (hp : pth p) (h : PathIs S p r) (hk : 0 ≤ key ∧ key ≤ 300) : fX3_placeFrom [vR p, vI key] S = some (some (vI (cnt r key.toNat)), S) := by
  have hm := cnt_mono r (show key.toNat ≤ 300 by omega)
  have h40 := h.2.1
  have h0 := h.1
  obtain ⟨k0, -⟩ := id hp
  rw [uX3_placeFrom]
  simp (disch := omega) only [eX3_placeFrom_0, eX3_placeFrom_1, eX3_placeFrom_2, eX3_placeFrom_3, eX3_placeFrom_6, eX3_placeFrom_7, eX3_placeFrom_8, eX3_placeFrom_12, eX3_placeFrom_14, eX3_placeFrom_17, eX3_placeFrom_18, eX3_placeFrom_19, eX3_placeFrom_22, eX3_placeFrom_23, eX3_placeFrom_24, eX3_placeFrom_25, eX3_placeFrom_26, eX3_placeFrom_27, eX3_placeFrom_29, eX3_placeFrom_30, eX3_placeFrom_33, eX3_placeFrom_35, eX3_placeFrom_35x, eX3_placeFrom_35y, eX3_placeFrom_36, eX3_placeFrom_37, eX3_placeFrom_40, eX3_placeFrom_42, eX3_placeFrom_43, eX3_placeFrom_44, eX3_placeFrom_45, eX3_placeFrom_48, eX3_placeFrom_50, eX3_placeFrom_51, eX3_placeFrom_54, eX3_placeFrom_57, eX3_placeFrom_58, if_pos, if_neg, if_true, if_false, Option.bind_some, Option.toList_some, Option.toList_none, List.cons_append, List.nil_append]
  rw [h0]
  exact l_placeFrom hp h hk 40 _ _ _ _ (by omega) (by omega) (by omega) (by omega) (by omega) (by omega) (by omega)
theorem s_keyAt {S : MM} {p : Nat} {r : Nat → Int} {j : Int} (hp : pth p) (h : PathIs S p r) (hj : rng j) : fX3_keyAt [vR p, vI j] S = some (some (vI (if 0 ≤ j ∧ j < cnt r 300 then S (p + 1) j.toNat else 300)), S) := by
  obtain ⟨k0, k1, k2, a1, a2⟩ := hp
  obtain ⟨h0, h40, hE, hV, hr⟩ := h
  obtain ⟨h1, h2⟩ := hj
  rw [uX3_keyAt]
  simp (disch := omega) only [eX3_keyAt_0, eX3_keyAt_1, eX3_keyAt_4, eX3_keyAt_5, eX3_keyAt_6, eX3_keyAt_9, eX3_keyAt_12, eX3_keyAt_13, eX3_keyAt_16, eX3_keyAt_17, eX3_keyAt_17x, eX3_keyAt_17y, eX3_keyAt_18, eX3_keyAt_21, eX3_keyAt_24, if_pos, if_neg, if_true, if_false, Option.bind_some, Option.toList_some, Option.toList_none, List.cons_append, List.nil_append]
  by_cases c1 : j < 0
  · rw [if_pos c1, if_neg (by omega)]
  · rw [if_neg c1]
    by_cases c2 : j < S p 2
    · rw [if_pos c2, if_pos (by omega)]
    · rw [if_neg c2, if_neg (by omega)]
theorem s_repeatsAt {S : MM} {p : Nat} {r : Nat → Int} {j : Int} (hp : pth p) (h : PathIs S p r) (hj : rng j) : fX3_repeatsAt [vR p, vI j] S = some (some (vI (if 0 ≤ j ∧ j < cnt r 300 then S (p + 2) j.toNat else 0)), S) := by
  obtain ⟨k0, k1, k2, a1, a2⟩ := hp
  obtain ⟨h0, h40, hE, hV, hr⟩ := h
  obtain ⟨h1, h2⟩ := hj
  rw [uX3_repeatsAt]
  simp (disch := omega) only [eX3_repeatsAt_0, eX3_repeatsAt_1, eX3_repeatsAt_4, eX3_repeatsAt_5, eX3_repeatsAt_6, eX3_repeatsAt_9, eX3_repeatsAt_12, eX3_repeatsAt_13, eX3_repeatsAt_16, eX3_repeatsAt_17, eX3_repeatsAt_17x, eX3_repeatsAt_17y, eX3_repeatsAt_18, eX3_repeatsAt_21, eX3_repeatsAt_22, if_pos, if_neg, if_true, if_false, Option.bind_some, Option.toList_some, Option.toList_none, List.cons_append, List.nil_append]
  by_cases c1 : j < 0
  · rw [if_pos c1, if_neg (by omega)]
  · rw [if_neg c1]
    by_cases c2 : j < S p 2
    · rw [if_pos c2, if_pos (by omega)]
    · rw [if_neg c2, if_neg (by omega)]
theorem s_firstKeyFrom {S : MM} {p : Nat} {r : Nat → Int} {key : Int} (hp : pth p) (h : PathIs S p r) (hk : 0 ≤ key ∧ key ≤ 300) : fX3_firstKeyFrom [vR p, vI key] S = some (some (vI (fst r key.toNat)), S) := by
  have h40 := h.2.1
  have hm := cnt_mono r (show key.toNat ≤ 300 by omega)
  obtain ⟨k0, -⟩ := id hp
  rw [uX3_firstKeyFrom]
  simp (disch := omega) only [eX3_firstKeyFrom_0, eX3_firstKeyFrom_1, eX3_firstKeyFrom_2, eX3_firstKeyFrom_3, eX3_firstKeyFrom_6, eX3_firstKeyFrom_9, if_pos, if_neg, if_true, if_false, Option.bind_some, Option.toList_some, Option.toList_none, List.cons_append, List.nil_append, s_placeFrom hp h hk]
  rw [s_keyAt hp h ⟨by omega, by omega⟩]
  simp (disch := omega) only [eX3_firstKeyFrom_0, eX3_firstKeyFrom_1, eX3_firstKeyFrom_2, eX3_firstKeyFrom_3, eX3_firstKeyFrom_6, eX3_firstKeyFrom_9, if_pos, if_neg, if_true, if_false, Option.bind_some, Option.toList_some, Option.toList_none, List.cons_append, List.nil_append]
  by_cases c : cnt r key.toNat < cnt r 300
  · have := h.2.2.1.first (k := key.toNat) (by omega) c
    rw [if_pos (by omega), Int.toNat_natCast, this]
  · rw [if_neg (by omega), fst_none (by omega) c]
    rfl

/-! stones: what is there -/
def rv (r : Nat → Int) (key : Int) : Int := if 0 ≤ key ∧ key < 300 then r key.toNat else 0
theorem l_repeatsOf {S : MM} {p : Nat} {r : Nat → Int} {key : Int} (hp : pth p) (h : PathIs S p r) (hk : rng key) : ∀ (f : Nat) (i : Int), 0 ≤ i → i + f = cnt r 300 → (∀ j : Nat, (j : Int) < i → S (p + 1) j ≠ key) → rn xX3_repeatsOf (2, [some (vR p), some (vI key), some (vI i)], [], S) = some (some (vI (rv r key)), S) := by
  obtain ⟨k0, k1, k2, a1, a2⟩ := hp
  obtain ⟨h0, h40, hE, hV, hr⟩ := h
  obtain ⟨hk1, hk2⟩ := hk
  intro f
  induction f with
  | zero =>
    intro i h1 h2 h3
    rw [eX3_repeatsOf_2]
    simp (disch := omega) only [eX3_repeatsOf_0, eX3_repeatsOf_1, eX3_repeatsOf_3, eX3_repeatsOf_4, eX3_repeatsOf_7, eX3_repeatsOf_10, eX3_repeatsOf_11, eX3_repeatsOf_14, eX3_repeatsOf_15, eX3_repeatsOf_15x, eX3_repeatsOf_15y, eX3_repeatsOf_16, eX3_repeatsOf_17, eX3_repeatsOf_20, eX3_repeatsOf_21, eX3_repeatsOf_24, eX3_repeatsOf_25, eX3_repeatsOf_25x, eX3_repeatsOf_25y, eX3_repeatsOf_26, eX3_repeatsOf_27, eX3_repeatsOf_30, eX3_repeatsOf_33, eX3_repeatsOf_34, if_pos, if_neg, if_true, if_false, Option.bind_some, Option.toList_some, Option.toList_none, List.cons_append, List.nil_append]
    unfold rv
    split
    next hb =>
      by_cases c : 0 < r key.toNat
      · have := hE _ (by omega) c
        have hl := cnt_lt (show key.toNat < 300 by omega) c
        exact absurd (by rw [this]; omega) (h3 (cnt r key.toNat) (by omega))
      · have := hr key.toNat (by omega)
        rw [show r key.toNat = 0 by omega]
    next => rfl
  | succ f ih =>
    intro i h1 h2 h3
    have hb := hE.rng (j := i.toNat) (by omega)
    rw [eX3_repeatsOf_2]
    simp (disch := omega) only [eX3_repeatsOf_0, eX3_repeatsOf_1, eX3_repeatsOf_3, eX3_repeatsOf_4, eX3_repeatsOf_7, eX3_repeatsOf_10, eX3_repeatsOf_11, eX3_repeatsOf_14, eX3_repeatsOf_15, eX3_repeatsOf_15x, eX3_repeatsOf_15y, eX3_repeatsOf_16, eX3_repeatsOf_17, eX3_repeatsOf_20, eX3_repeatsOf_21, eX3_repeatsOf_24, eX3_repeatsOf_25, eX3_repeatsOf_25x, eX3_repeatsOf_25y, eX3_repeatsOf_26, eX3_repeatsOf_27, eX3_repeatsOf_30, eX3_repeatsOf_33, eX3_repeatsOf_34, if_pos, if_neg, if_true, if_false, Option.bind_some, Option.toList_some, Option.toList_none, List.cons_append, List.nil_append]
    by_cases c : S (p + 1) i.toNat = key
    · rw [if_pos c]
      obtain ⟨k, g1, g2, g3, g4⟩ := hE.key (j := i.toNat) (by omega)
      have e := hV k g1 g2
      rw [g3] at e
      unfold rv
      rw [if_pos (by omega), e, show key.toNat = k by omega]
    · rw [if_neg c]
      refine ih (i + 1) (by omega) (by omega) (fun j hj => ?_)
      by_cases d : j = i.toNat
      · rw [d]; exact c
      · exact h3 j (by omega)
theorem s_repeatsOf {S : MM} {p : Nat} {r : Nat → Int} {key : Int} (hp : pth p) (h : PathIs S p r) (hk : rng key) : fX3_repeatsOf [vR p, vI key] S = some (some (vI (rv r key)), S) := by
  rw [uX3_repeatsOf]
  simp (disch := omega) only [eX3_repeatsOf_0, eX3_repeatsOf_1, eX3_repeatsOf_3, eX3_repeatsOf_4, eX3_repeatsOf_7, eX3_repeatsOf_10, eX3_repeatsOf_11, eX3_repeatsOf_14, eX3_repeatsOf_15, eX3_repeatsOf_15x, eX3_repeatsOf_15y, eX3_repeatsOf_16, eX3_repeatsOf_17, eX3_repeatsOf_20, eX3_repeatsOf_21, eX3_repeatsOf_24, eX3_repeatsOf_25, eX3_repeatsOf_25x, eX3_repeatsOf_25y, eX3_repeatsOf_26, eX3_repeatsOf_27, eX3_repeatsOf_30, eX3_repeatsOf_33, eX3_repeatsOf_34, if_pos, if_neg, if_true, if_false, Option.bind_some, Option.toList_some, Option.toList_none, List.cons_append, List.nil_append]
  exact l_repeatsOf hp h hk (cnt r 300) 0 (by omega) (by omega) (fun j hj => by omega)
theorem rv_in {r : Nat → Int} {k : Nat} (h : k < 300) : rv r (k : Int) = r k := by
  unfold rv
  rw [if_pos (by omega), Int.toNat_natCast]
theorem rv_b {S : MM} {p : Nat} {r : Nat → Int} (h : PathIs S p r) (key : Int) : 0 ≤ rv r key ∧ rv r key ≤ 9 := by
  unfold rv
  split
  · exact h.2.2.2.2 _ (by omega)
  · omega
theorem s_has {S : MM} {p : Nat} {r : Nat → Int} {key : Int} (hp : pth p) (h : PathIs S p r) (hk : rng key) : fX3_has [vR p, vI key] S = some (some (vI (if 0 < rv r key then 1 else 0)), S) := by
  have hb := rv_b h key
  obtain ⟨k0, -⟩ := id hp
  rw [uX3_has]
  simp (disch := omega) only [eX3_has_0, eX3_has_1, eX3_has_2, eX3_has_5, eX3_has_8, eX3_has_9, eX3_has_12, eX3_has_13, if_pos, if_neg, if_true, if_false, Option.bind_some, Option.toList_some, Option.toList_none, List.cons_append, List.nil_append, s_repeatsOf hp h hk]
  by_cases c : 0 < rv r key
  · rw [if_pos c, if_pos c]
  · rw [if_neg c, if_neg c]
theorem s_hasRoomFor {S : MM} {p : Nat} {r : Nat → Int} {key : Int} (hp : pth p) (h : PathIs S p r) (hk : rng key) : fX3_hasRoomFor [vR p, vI key] S = some (some (vI (if cnt r 300 < 40 ∨ 0 < rv r key then 1 else 0)), S) := by
  have hb := rv_b h key
  have h0 := h.1
  have h40 := h.2.1
  obtain ⟨k0, -⟩ := id hp
  rw [uX3_hasRoomFor]
  simp (disch := omega) only [eX3_hasRoomFor_0, eX3_hasRoomFor_1, eX3_hasRoomFor_4, eX3_hasRoomFor_6, eX3_hasRoomFor_9, eX3_hasRoomFor_10, eX3_hasRoomFor_11, eX3_hasRoomFor_14, eX3_hasRoomFor_17, eX3_hasRoomFor_18, eX3_hasRoomFor_21, eX3_hasRoomFor_22, if_pos, if_neg, if_true, if_false, Option.bind_some, Option.toList_some, Option.toList_none, List.cons_append, List.nil_append, s_repeatsOf hp h hk]
  by_cases c : cnt r 300 < 40
  · simp (disch := omega) only [eX3_hasRoomFor_0, eX3_hasRoomFor_1, eX3_hasRoomFor_4, eX3_hasRoomFor_6, eX3_hasRoomFor_9, eX3_hasRoomFor_10, eX3_hasRoomFor_11, eX3_hasRoomFor_14, eX3_hasRoomFor_17, eX3_hasRoomFor_18, eX3_hasRoomFor_21, eX3_hasRoomFor_22, if_pos, if_neg, if_true, if_false, Option.bind_some, Option.toList_some, Option.toList_none, List.cons_append, List.nil_append]
  · simp (disch := omega) only [eX3_hasRoomFor_0, eX3_hasRoomFor_1, eX3_hasRoomFor_4, eX3_hasRoomFor_6, eX3_hasRoomFor_9, eX3_hasRoomFor_10, eX3_hasRoomFor_11, eX3_hasRoomFor_14, eX3_hasRoomFor_17, eX3_hasRoomFor_18, eX3_hasRoomFor_21, eX3_hasRoomFor_22, if_pos, if_neg, if_true, if_false, Option.bind_some, Option.toList_some, Option.toList_none, List.cons_append, List.nil_append]
    by_cases d : 0 < rv r key
    · rw [if_pos d, if_pos (Or.inr d)]
    · rw [if_neg d, if_neg (by omega)]
/-! laying a stone -/
theorem cnt_up0 {r : Nat → Int} {a : Nat} {t : Int} (ht : 0 < t) (ha : ¬ 0 < r a) : ∀ k, cnt (up r a t) k = cnt r k + (if a < k then 1 else 0)
  | 0 => by rw [if_neg (by omega)]; rfl
  | k + 1 => by
    rw [cnt_s, cnt_s, cnt_up0 ht ha k]
    by_cases c : k = a
    · subst c
      rw [up_eq, if_pos ht, if_neg ha, if_neg (show ¬ k < k by omega), if_pos (show k < k + 1 by omega)]
    · rw [up_ne c]
      by_cases d : a < k
      · rw [if_pos d, if_pos (show a < k + 1 by omega)]
        omega
      · rw [if_neg d, if_neg (show ¬ a < k + 1 by omega)]
        omega
theorem cnt_up1 {r : Nat → Int} {a : Nat} {t : Int} (ht : 0 < t) (ha : 0 < r a) (k : Nat) : cnt (up r a t) k = cnt r k := by
  refine cnt_congr (fun j hj => ?_)
  by_cases c : j = a
  · subst c
    rw [up_eq]
    exact ⟨fun _ => ha, fun _ => ht⟩
  · rw [up_ne c]
def shf (K : Nat → Int) (i n : Nat) : Nat → Int := fun j => if i < j ∧ j ≤ n then K (j - 1) else K j
theorem l_shift {S : MM} {p n pl : Nat} {key times : Int} (hp : pth p) (hn : n < 40) (hpl : pl ≤ n) : ∀ (f : Nat) (i : Nat) (T : MM), i = pl + f → i ≤ n → T (p + 1) = shf (S (p + 1)) i n → T (p + 2) = shf (S (p + 2)) i n → (∀ a, a ≠ p + 1 → a ≠ p + 2 → T a = S a) →
    ∃ T', rn xX3_lay (31, [some (vR p), some (vI key), some (vI times), some (vI pl), some (vI i)], [], T) = rn xX3_lay (75, [some (vR p), some (vI key), some (vI times), some (vI pl), some (vI pl)], [], T') ∧ T' (p + 1) = shf (S (p + 1)) pl n ∧ T' (p + 2) = shf (S (p + 2)) pl n ∧ (∀ a, a ≠ p + 1 → a ≠ p + 2 → T' a = S a) := by
  obtain ⟨k0, k1, k2, a1, a2⟩ := hp
  intro f
  induction f with
  | zero =>
    intro i T h1 h2 h3 h4 h5
    have e : i = pl := by omega
    subst e
    refine ⟨T, ?_, h3, h4, h5⟩
    rw [eX3_lay_31]
    rw [eX3_lay_33, eX3_lay_34 (by omega) (by omega), if_neg (by omega)]
  | succ f ih =>
    intro i T h1 h2 h3 h4 h5
    have sh : ∀ K : Nat → Int, up (shf K i n) i (shf K i n (i - 1)) = shf K (i - 1) n := by
      intro K
      funext j
      unfold up shf
      by_cases c : j = i
      · rw [if_pos c, if_neg (by omega), if_pos (by omega), c]
      · rw [if_neg c]
        by_cases d : i < j ∧ j ≤ n
        · rw [if_pos d, if_pos (by omega)]
        · rw [if_neg d, if_neg (by omega)]
    have ei : ((i : Int) - 1).toNat = i - 1 := by omega
    have ec : ((i : Int) + (-1)) = ((i - 1 : Nat) : Int) := by omega
    obtain ⟨T', g1, g2⟩ := ih (i - 1) (updM (updM T (p + 1) i (T (p + 1) (i - 1))) (p + 2) i (T (p + 2) (i - 1))) (by omega) (by omega)
      (by rw [updM_ne (by omega), updM_eq, h3]; exact sh _) (by rw [updM_eq, updM_ne (by omega), h4]; exact sh _) (fun a q1 q2 => by rw [updM_ne q2, updM_ne q1]; exact h5 a q1 q2)
    refine ⟨T', ?_, g2⟩
    rw [← g1, eX3_lay_31]
    simp (disch := omega) only [eX3_lay_0, eX3_lay_1, eX3_lay_2, eX3_lay_5, eX3_lay_6, eX3_lay_7, eX3_lay_8, eX3_lay_11, eX3_lay_12, eX3_lay_15, eX3_lay_16, eX3_lay_19, eX3_lay_21, eX3_lay_24, eX3_lay_25, eX3_lay_26, eX3_lay_29, eX3_lay_33, eX3_lay_34, eX3_lay_37, eX3_lay_38, eX3_lay_41, eX3_lay_43, eX3_lay_44, eX3_lay_47, eX3_lay_49, eX3_lay_50, eX3_lay_51, eX3_lay_51x, eX3_lay_51y, eX3_lay_52, eX3_lay_53, eX3_lay_54, eX3_lay_57, eX3_lay_59, eX3_lay_60, eX3_lay_63, eX3_lay_65, eX3_lay_66, eX3_lay_67, eX3_lay_67x, eX3_lay_67y, eX3_lay_68, eX3_lay_69, eX3_lay_72, eX3_lay_75, eX3_lay_76, eX3_lay_79, eX3_lay_80, eX3_lay_81, eX3_lay_82, eX3_lay_83, eX3_lay_84, eX3_lay_87, eX3_lay_88, eX3_lay_89, eX3_lay_92, eX3_lay_93, eX3_lay_96, eX3_lay_97, eX3_lay_98, eX3_lay_99, if_pos, if_neg, if_true, if_false, Option.bind_some, Option.toList_some, Option.toList_none, List.cons_append, List.nil_append]
    rw [ei, ec, Int.toNat_natCast, show updM T (p + 1) i (T (p + 1) (i - 1)) (p + 2) (i - 1) = T (p + 2) (i - 1) by rw [updM_ne (by omega)]]
theorem s_pathLay {S : MM} {p : Nat} {r : Nat → Int} {key times : Int} (hp : pth p) (h : PathIs S p r) (hk : 0 ≤ key ∧ key < 300) (ht : 1 ≤ times ∧ times ≤ 9) (hroom : 0 < r key.toNat ∨ cnt r 300 < 40) :
    ∃ S', fX3_lay [vR p, vI key, vI times] S = some (none, S') ∧ PathIs S' p (up r key.toNat times) ∧ (∀ a, a ≠ p → a ≠ p + 1 → a ≠ p + 2 → S' a = S a) := by
  have hm := cnt_mono r (show key.toNat ≤ 300 by omega)
  have hf := fst_spec r (show key.toNat ≤ 300 by omega)
  have hkey : (key.toNat : Int) = key := by omega
  obtain ⟨k0, k1, k2, a1, a2⟩ := id hp
  obtain ⟨h0, h40, hE, hV, hr⟩ := id h
  have hr' : ∀ k, k < 300 → 0 ≤ up r key.toNat times k ∧ up r key.toNat times k ≤ 9 := by
    intro k hk2
    unfold up
    split
    · omega
    · exact hr k hk2
  have e1 := s_placeFrom hp h (key := key) (by omega)
  have e2 := s_keyAt hp h (j := (cnt r key.toNat : Int)) ⟨by omega, by omega⟩
  have hb : 0 ≤ S (p + 1) (cnt r key.toNat) ∧ S (p + 1) (cnt r key.toNat) ≤ 299 ∨ ¬ cnt r key.toNat < cnt r 300 := by
    by_cases c : cnt r key.toNat < cnt r 300
    · exact Or.inl (hE.rng c)
    · exact Or.inr c
  rw [uX3_lay]
  by_cases c : 0 < r key.toNat
  · have hlt := cnt_lt (show key.toNat < 300 by omega) c
    have hkk := hE _ (by omega) c
    rw [if_pos (by omega), Int.toNat_natCast, hkk, hkey] at e2
    refine ⟨updM S (p + 2) (cnt r key.toNat) times, ?_, ?_, fun a _ _ h2 => updM_ne h2⟩
    · simp (disch := omega) only [eX3_lay_0, eX3_lay_1, eX3_lay_2, eX3_lay_5, eX3_lay_6, eX3_lay_7, eX3_lay_8, eX3_lay_11, eX3_lay_12, eX3_lay_15, eX3_lay_16, eX3_lay_19, eX3_lay_21, eX3_lay_24, eX3_lay_25, eX3_lay_26, eX3_lay_29, eX3_lay_33, eX3_lay_34, eX3_lay_37, eX3_lay_38, eX3_lay_41, eX3_lay_43, eX3_lay_44, eX3_lay_47, eX3_lay_49, eX3_lay_50, eX3_lay_51, eX3_lay_51x, eX3_lay_51y, eX3_lay_52, eX3_lay_53, eX3_lay_54, eX3_lay_57, eX3_lay_59, eX3_lay_60, eX3_lay_63, eX3_lay_65, eX3_lay_66, eX3_lay_67, eX3_lay_67x, eX3_lay_67y, eX3_lay_68, eX3_lay_69, eX3_lay_72, eX3_lay_75, eX3_lay_76, eX3_lay_79, eX3_lay_80, eX3_lay_81, eX3_lay_82, eX3_lay_83, eX3_lay_84, eX3_lay_87, eX3_lay_88, eX3_lay_89, eX3_lay_92, eX3_lay_93, eX3_lay_96, eX3_lay_97, eX3_lay_98, eX3_lay_99, if_pos, if_neg, if_true, if_false, Option.bind_some, Option.toList_some, Option.toList_none, List.cons_append, List.nil_append, e1, e2, Int.toNat_natCast]
    · have ce := cnt_up1 (r := r) (a := key.toNat) (t := times) (by omega) c
      refine ⟨by rw [updM_ne (by omega), ce]; exact h0, by rw [ce]; exact h40, fun k g1 g2 => ?_, fun k g1 g2 => ?_, hr'⟩
      · rw [ce, updM_ne (by omega)]
        by_cases d : k = key.toNat
        · rw [d]; exact hE _ (by omega) c
        · rw [up_ne d] at g2; exact hE k g1 g2
      · rw [ce, updM_eq]
        by_cases d : k = key.toNat
        · rw [d, up_eq, up_eq]
        · rw [up_ne d] at g2 ⊢
          rw [up_ne]
          · exact hV k g1 g2
          · intro q
            have q1 := hE k g1 g2
            rw [q, hkk] at q1
            omega
  · have hlt : cnt r 300 < 40 := by omega
    have hne : ¬ S (p + 1) (cnt r key.toNat) = key ∨ ¬ cnt r key.toNat < cnt r 300 := by
      by_cases d : cnt r key.toNat < cnt r 300
      · left
        have := hE.first (k := key.toNat) (by omega) d
        rw [this]
        intro q
        have q2 : fst r key.toNat = key.toNat := by omega
        rw [q2] at hf
        exact c (hf.2.2.2 (by omega))
      · exact Or.inr d
    have hne2 : ¬ (if 0 ≤ (cnt r key.toNat : Int) ∧ (cnt r key.toNat : Int) < cnt r 300 then S (p + 1) (cnt r key.toNat : Int).toNat else 300) = key := by
      rw [Int.toNat_natCast]
      split
      · rcases hne with q | q
        · exact q
        · omega
      · omega
    have hrg : rng (if 0 ≤ (cnt r key.toNat : Int) ∧ (cnt r key.toNat : Int) < cnt r 300 then S (p + 1) (cnt r key.toNat : Int).toNat else 300) := by
      rw [Int.toNat_natCast]
      constructor <;> (split <;> omega)
    generalize (if 0 ≤ (cnt r key.toNat : Int) ∧ (cnt r key.toNat : Int) < cnt r 300 then S (p + 1) (cnt r key.toNat : Int).toNat else 300) = kk at e2 hne2 hrg
    obtain ⟨q1, q2⟩ := hrg
    obtain ⟨T', g1, g2, g3, g4⟩ := l_shift (S := S) (key := key) (times := times) hp hlt hm (cnt r 300 - cnt r key.toNat) (cnt r 300) S (by omega) (Nat.le_refl _) (by funext j; unfold shf; rw [if_neg (by omega)]) (by funext j; unfold shf; rw [if_neg (by omega)]) (fun _ _ _ => rfl)
    have gp := g4 p (by omega) (by omega)
    refine ⟨updM (updM (updM T' (p + 1) (cnt r key.toNat) key) p 2 (T' p 2 + 1)) (p + 2) (cnt r key.toNat) times, ?_, ?_, fun a q1 q2 q3 => by rw [updM_ne q3, updM_ne q1, updM_ne q2]; exact g4 a q2 q3⟩
    · simp (disch := omega) only [eX3_lay_0, eX3_lay_1, eX3_lay_2, eX3_lay_5, eX3_lay_6, eX3_lay_7, eX3_lay_8, eX3_lay_11, eX3_lay_12, eX3_lay_15, eX3_lay_16, eX3_lay_19, eX3_lay_21, eX3_lay_24, eX3_lay_25, eX3_lay_26, eX3_lay_29, eX3_lay_33, eX3_lay_34, eX3_lay_37, eX3_lay_38, eX3_lay_41, eX3_lay_43, eX3_lay_44, eX3_lay_47, eX3_lay_49, eX3_lay_50, eX3_lay_51, eX3_lay_51x, eX3_lay_51y, eX3_lay_52, eX3_lay_53, eX3_lay_54, eX3_lay_57, eX3_lay_59, eX3_lay_60, eX3_lay_63, eX3_lay_65, eX3_lay_66, eX3_lay_67, eX3_lay_67x, eX3_lay_67y, eX3_lay_68, eX3_lay_69, eX3_lay_72, eX3_lay_75, eX3_lay_76, eX3_lay_79, eX3_lay_80, eX3_lay_81, eX3_lay_82, eX3_lay_83, eX3_lay_84, eX3_lay_87, eX3_lay_88, eX3_lay_89, eX3_lay_92, eX3_lay_93, eX3_lay_96, eX3_lay_97, eX3_lay_98, eX3_lay_99, if_pos, if_neg, if_true, if_false, Option.bind_some, Option.toList_some, Option.toList_none, List.cons_append, List.nil_append, e1, e2]
      rw [h0, g1]
      simp (disch := omega) only [eX3_lay_0, eX3_lay_1, eX3_lay_2, eX3_lay_5, eX3_lay_6, eX3_lay_7, eX3_lay_8, eX3_lay_11, eX3_lay_12, eX3_lay_15, eX3_lay_16, eX3_lay_19, eX3_lay_21, eX3_lay_24, eX3_lay_25, eX3_lay_26, eX3_lay_29, eX3_lay_33, eX3_lay_34, eX3_lay_37, eX3_lay_38, eX3_lay_41, eX3_lay_43, eX3_lay_44, eX3_lay_47, eX3_lay_49, eX3_lay_50, eX3_lay_51, eX3_lay_51x, eX3_lay_51y, eX3_lay_52, eX3_lay_53, eX3_lay_54, eX3_lay_57, eX3_lay_59, eX3_lay_60, eX3_lay_63, eX3_lay_65, eX3_lay_66, eX3_lay_67, eX3_lay_67x, eX3_lay_67y, eX3_lay_68, eX3_lay_69, eX3_lay_72, eX3_lay_75, eX3_lay_76, eX3_lay_79, eX3_lay_80, eX3_lay_81, eX3_lay_82, eX3_lay_83, eX3_lay_84, eX3_lay_87, eX3_lay_88, eX3_lay_89, eX3_lay_92, eX3_lay_93, eX3_lay_96, eX3_lay_97, eX3_lay_98, eX3_lay_99, if_pos, if_neg, if_true, if_false, Option.bind_some, Option.toList_some, Option.toList_none, List.cons_append, List.nil_append, Int.toNat_natCast]
      rw [show updM T' (p + 1) (cnt r key.toNat) key p 2 = T' p 2 by rw [updM_ne (by omega)]]
    · have ce := cnt_up0 (r := r) (a := key.toNat) (t := times) (by omega) c
      have c3 := ce 300
      rw [if_pos (by omega)] at c3
      refine ⟨?_, by omega, fun k f1 f2 => ?_, fun k f1 f2 => ?_, hr'⟩
      · rw [updM_ne (by omega), updM_eq, up_eq, gp, h0, c3]
        omega
      · rw [updM_ne (by omega), updM_ne (by omega), updM_eq, g2, ce]
        by_cases d : k = key.toNat
        · subst d
          rw [if_neg (by omega)]
          simp only [Nat.add_zero]
          rw [up_eq]
          omega
        · rw [up_ne d] at f2
          have f3 := hE k f1 f2
          have f4 := cnt_lt f1 f2
          by_cases d2 : key.toNat < k
          · have f5 := cnt_mono r (show key.toNat ≤ k by omega)
            rw [if_pos d2, up_ne (by omega)]
            unfold shf
            rw [if_pos (by omega), Nat.add_sub_cancel]
            exact f3
          · have f5 := cnt_lt (show k < key.toNat by omega) f2
            rw [if_neg d2, Nat.add_zero, up_ne (by omega)]
            unfold shf
            rw [if_neg (by omega)]
            exact f3
      · rw [updM_eq, updM_ne (by omega), updM_ne (by omega), g3, ce]
        by_cases d : k = key.toNat
        · subst d
          rw [if_neg (by omega)]
          simp only [Nat.add_zero]
          rw [up_eq, up_eq]
        · rw [up_ne d] at f2 ⊢
          have f3 := hV k f1 f2
          have f4 := cnt_lt f1 f2
          by_cases d2 : key.toNat < k
          · have f5 := cnt_mono r (show key.toNat ≤ k by omega)
            rw [if_pos d2, up_ne (by omega)]
            unfold shf
            rw [if_pos (by omega), Nat.add_sub_cancel]
            exact f3
          · have f5 := cnt_lt (show k < key.toNat by omega) f2
            rw [if_neg d2, Nat.add_zero, up_ne (by omega)]
            unfold shf
            rw [if_neg (by omega)]
            exact f3

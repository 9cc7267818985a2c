/-! the reference as a whole; leaps -/
section MO16
variable {S S' : MM} {A A' : Nat → Int} {m n : Nat} {H : Nat → Nat → Int} {K P : Nat → Int} {V : Nat → Nat → Int}
/-- what holds of a state's row -/
def AOk (A : Nat → Int) : Prop := StgR A ∧ RunR A ∧ RunS A (RA A) ∧ RB (RA A) ∧ (∀ u : Nat, u < 3 → cnt (RA A u) 300 ≤ 40) ∧ (0 ≤ A 7 ∧ A 7 ≤ 4) ∧ ∀ j : Nat, j < (A 7).toNat → RB (TA A j)
theorem SceneIs.ok {s : Nat} (h : SceneIs S s A) : AOk A := by
  obtain ⟨h1, h2, h3, h4, h5, h6, h7, h8⟩ := h
  refine ⟨h2, h7, h8, h3.rb, fun u hu => ?_, h5, fun j hj => (h4.2.2.2.2.2 j hj).rb⟩
  rcases (show u = 0 ∨ u = 1 ∨ u = 2 by omega) with rfl | rfl | rfl
  · exact h3.1.2.1
  · exact h3.2.1.2.1
  · exact h3.2.2.2.1
/-- the reference: its row, what undo keeps, slots, pad -/
def MIs (S : MM) (A : Nat → Int) (m : Nat) (H : Nat → Nat → Int) (K : Nat → Int) (V : Nat → Nat → Int) (P : Nat → Int) (n : Nat) : Prop := S 594 = A ∧ (∃ pf : Nat, S 593 2 = (pf : Int) ∧ pf < 6 ∧ S 593 3 = (m : Int) ∧ m ≤ 6 ∧ ∀ j k : Nat, j < m → k < 4825 → S 595 (4825 * ((pf + j) % 6) + k) = H j k) ∧ (∀ i : Nat, i < 2 → S 597 i = K i ∧ (K i = 0 ∨ K i = 1) ∧ (K i = 1 → ∀ k, k < 4825 → S 596 (4825 * i + k) = V i k)) ∧ S 593 11 = (n : Int) ∧ n ≤ 80 ∧ ∀ k, k < n → S 600 k = P k ∧ 33 ≤ P k ∧ P k ≤ 126
def FR (S S' : MM) : Prop := ∀ a, a < 593 ∨ 602 ≤ a → S' a = S a
theorem FR.trans {S1 S2 S3 : MM} (h : FR S1 S2) (g : FR S2 S3) : FR S1 S3 := fun a ha => by rw [g a ha, h a ha]
theorem FR.of (h : ∀ a, a ≠ 593 → a ≠ 594 → a ≠ 595 → a ≠ 596 → a ≠ 597 → a ≠ 598 → a ≠ 599 → a ≠ 600 → a ≠ 601 → S' a = S a) : FR S S' := fun a ha => h a (by omega) (by omega) (by omega) (by omega) (by omega) (by omega) (by omega) (by omega) (by omega)
/-- the same object with another row of numbers -/
theorem MIs.to (h : MIs S A m H K V P n) (h4 : S' 594 = A') (g2 : S' 593 2 = S 593 2) (g3 : S' 593 3 = S 593 3) (g11 : S' 593 11 = S 593 11) (h5 : S' 595 = S 595) (h6 : S' 596 = S 596) (h7 : S' 597 = S 597) (h8 : S' 600 = S 600) : MIs S' A' m H K V P n := by
  obtain ⟨-, ⟨pf, p1, p2, p3, p4, p5⟩, q, r1, r2, r3⟩ := h
  exact ⟨h4, ⟨pf, by rw [g2]; exact p1, p2, by rw [g3]; exact p3, p4, fun j k hj hk => by rw [h5]; exact p5 j k hj hk⟩, fun i hi => by rw [h7, h6]; exact q i hi, by rw [g11]; exact r1, r2, fun k hk => by rw [h8]; exact r3 k hk⟩
theorem MIs.kept {pf : Nat} (h : MIs S A m H K V P n) (h2 : S 593 2 = (pf : Int)) (hK : Kept S S' pf m) (h4 : S' 594 = A') (h6 : S' 596 = S 596) (h7 : S' 597 = S 597) (h8 : S' 600 = S 600) : MIs S' A' (mM m) (mH m H A) K V P n := by
  obtain ⟨h0, ⟨pf', p1, p2, p3, p4, p5⟩, q, r1, r2, r3⟩ := h
  have e : pf' = pf := by omega
  subst e
  obtain ⟨g1, g2, g3, g4⟩ := hK
  refine ⟨h4, ?_, fun i hi => by rw [h7, h6]; exact q i hi, by rw [g4 11 (by omega) (by omega)]; exact r1, r2, fun k hk => by rw [h8]; exact r3 k hk⟩
  by_cases c : m = 6
  · subst c
    rw [if_pos rfl] at g2 g3
    refine ⟨(pf' + 1) % 6, g2, Nat.mod_lt _ (by omega), by rw [g3]; rfl, by decide, fun j k hj hk => ?_⟩
    have hj : j < 6 := hj
    unfold mH
    rw [if_neg (show ¬ 6 < 6 by omega)]
    by_cases d : j < 5
    · rw [if_pos d, g1, if_neg (by omega), show ((pf' + 1) % 6 + j) % 6 = (pf' + (j + 1)) % 6 by omega]
      exact p5 (j + 1) k (by omega) hk
    · rw [if_neg d, g1, if_pos (by omega), h0, show 4825 * (((pf' + 1) % 6 + j) % 6) + k - 4825 * ((pf' + 6) % 6) = k by omega]
  · rw [if_neg c] at g2 g3
    have e1 : mM m = m + 1 := by unfold mM; rw [if_pos (by omega)]
    rw [e1]
    refine ⟨pf', g2, p2, by rw [g3]; omega, by omega, fun j k hj hk => ?_⟩
    unfold mH
    rw [if_pos (show m < 6 by omega)]
    by_cases d : j < m
    · rw [if_pos d, g1, if_neg (by omega)]
      exact p5 j k d hk
    · have e2 : j = m := by omega
      subst e2
      rw [if_neg d, g1, if_pos (by omega), h0, show 4825 * ((pf' + j) % 6) + k - 4825 * ((pf' + j) % 6) = k by omega]
theorem zk (h : MIs S A m H K V P n) : ∃ S1, fX9_keep [vR 593] S = some (none, S1) ∧ MIs S1 A (mM m) (mH m H A) K V P n ∧ (∀ j, j ≠ 2 → j ≠ 3 → S1 593 j = S 593 j) ∧ (∀ a, a ≠ 595 → a ≠ 593 → S1 a = S a) := by
  obtain ⟨pf, p1, p2, p3, p4, p5⟩ := h.2.1
  obtain ⟨S1, e, g1, g2, g3, g4, g5⟩ := z_keep p1 p3 p2 p4
  exact ⟨S1, e, h.kept p1 ⟨g1, g2, g3, g4⟩ (by rw [g5 594 (by omega) (by omega)]; exact h.1) (g5 _ (by omega) (by omega)) (g5 _ (by omega) (by omega)) (g5 _ (by omega) (by omega)), g4, g5⟩
theorem z_keepIf (h : MIs S A m H K V P n) : ∃ S1, fX9_keepIf [vR 593, vI 1] S = some (none, S1) ∧ MIs S1 A (mM m) (mH m H A) K V P n ∧ (∀ j, j ≠ 2 → j ≠ 3 → S1 593 j = S 593 j) ∧ (∀ a, a ≠ 595 → a ≠ 593 → S1 a = S a) := by
  obtain ⟨S1, e, w⟩ := zk h
  refine ⟨S1, ?_, w⟩
  rw [uX9_keepIf]
  simp (disch := omega) only [eX9_keepIf_0, eX9_keepIf_1, eX9_keepIf_4, eX9_keepIf_5, eX9_keepIf_8, if_pos, if_neg, if_true, if_false, Option.bind_some, Option.toList_some, Option.toList_none, List.cons_append, List.nil_append, e]
theorem z_keepIf0 : fX9_keepIf [vR 593, vI 0] S = some (none, S) := by
  rw [uX9_keepIf]
  simp (disch := omega) only [eX9_keepIf_0, eX9_keepIf_1, eX9_keepIf_4, eX9_keepIf_5, eX9_keepIf_8, if_pos, if_neg, if_true, if_false, Option.bind_some, Option.toList_some, Option.toList_none, List.cons_append, List.nil_append]
theorem zz_begin (h : MIs S A m H K V P n) (ok : AOk A) : ∃ S', fX9_begin [vR 593] S = some (some (vI (mBegin A 4 - 1)), S') ∧ MIs S' (mBegin A) (mM m) (mH m H A) K V P n ∧ FR S S' := by
  obtain ⟨pf, p1, p2, p3, p4, p5⟩ := h.2.1
  have h0 := h.1
  obtain ⟨S', e, g1, g2, g3⟩ := z_begin p1 p3 p2 p4 (by rw [h0]; exact ok.1) (by rw [h0]; exact ok.2.2.2.1)
  rw [h0] at e g1
  exact ⟨S', e, h.kept p1 g2 g1 (g3 _ (by omega) (by omega) (by omega)) (g3 _ (by omega) (by omega) (by omega)) (g3 _ (by omega) (by omega) (by omega)), FR.of (fun a a3 a4 a5 _ _ _ _ _ _ => g3 a a4 a5 a3)⟩
theorem zz_set {j z : Int} (h : MIs S A m H K V P n) (ok : AOk A) (hj : 0 ≤ j ∧ j ≤ 3) (hz : 0 ≤ z ∧ z ≤ hiS j) : ∃ S', fX9_set [vR 593, vI j, vI z] S = some (some (vI (A j.toNat)), S') ∧ MIs S' (mSet A j.toNat z) (mM m) (mH m H A) K V P n ∧ FR S S' := by
  obtain ⟨pf, p1, p2, p3, p4, p5⟩ := h.2.1
  have h0 := h.1
  obtain ⟨i, rfl⟩ : ∃ i : Nat, j = (i : Int) := ⟨j.toNat, by omega⟩
  rw [Int.toNat_natCast]
  obtain ⟨S', e, g1, g2, g3⟩ := z_set (j := i) (z := z) p1 p3 p2 p4 (by rw [h0]; exact ok.1) (by rw [h0]; exact ok.2.1) (by rw [h0]; exact ok.2.2.1.1) (by omega) hz
  rw [h0] at e g1
  exact ⟨S', e, h.kept p1 g2 g1 (g3 _ (by omega) (by omega) (by omega)) (g3 _ (by omega) (by omega) (by omega)) (g3 _ (by omega) (by omega) (by omega)), FR.of (fun a a3 a4 a5 _ _ _ _ _ _ => g3 a a4 a5 a3)⟩
theorem zz_stone {w key t : Int} (h : MIs S A m H K V P n) (ok : AOk A) (hw : rng w) (hk : rng key) (ht : rng t) (he : errLay A w key t = 0) : ∃ S', fX9_stone [vR 593, vI w, vI key, vI t] S = some (some (vI (RA A w.toNat key.toNat)), S') ∧ MIs S' (mLay A w key t) (mM m) (mH m H A) K V P n ∧ FR S S' := by
  obtain ⟨pf, p1, p2, p3, p4, p5⟩ := h.2.1
  have h0 := h.1
  obtain ⟨S', e, g1, g2, g3⟩ := z_stone p1 p3 p2 p4 hw hk ht (by rw [h0]; exact ok.2.2.2.1) (by rw [h0]; exact ok.2.2.2.2.1) (by rw [h0]; exact he)
  rw [h0] at e g1
  exact ⟨S', e, h.kept p1 g2 g1 (g3 _ (by omega) (by omega) (by omega)) (g3 _ (by omega) (by omega) (by omega)) (g3 _ (by omega) (by omega) (by omega)), FR.of (fun a a3 a4 a5 _ _ _ _ _ _ => g3 a a4 a5 a3)⟩
theorem zz_stoneX {w key t : Int} (h : MIs S A m H K V P n) (ok : AOk A) (hw : rng w) (hk : rng key) (ht : rng t) (he : errLay A w key t < 0) : fX9_stone [vR 593, vI w, vI key, vI t] S = some (some (vI (errLay A w key t)), S) := by
  have h0 := h.1
  have e := z_stoneX (S := S) hw hk ht (by rw [h0]; exact ok.2.2.2.1) (by rw [h0]; exact ok.2.2.2.2.1) (by rw [h0]; exact he)
  rw [h0] at e
  exact e
/-! leaps -/
theorem z_tryLeap0 (h : MIs S A m H K V P n) (ok : AOk A) (h4 : A 4 = 1) : ∃ S', fX9_tryLeap [vR 593, vI 0] S = some (some (vI (nxtW A)), S') ∧ MIs S' (mLeap A (RA A)) m H K V P n ∧ FR S S' ∧ S' 601 = S 601 ∧ S' 593 14 = S 593 14 ∧ S' 593 15 = S 593 15 := by
  obtain ⟨k0, a0, -⟩ := mk
  have h0 := h.1
  obtain ⟨S', e, g1, g2, g3⟩ := z_makeLeap (S := S) (by rw [h0]; exact ok.1) (by rw [h0]; exact ok.2.1) (by rw [h0]; exact ok.2.2.1) (by rw [h0]; exact h4) (by rw [h0]; exact ok.2.2.2.1) (by rw [h0]; exact ok.2.2.2.2.1)
  rw [h0] at e g1
  have e0 := z_keepIf0 (S := S)
  have q4 : S 594 4 = 1 := by rw [h0]; exact h4
  have n4 : (4 : Int).toNat = 4 := rfl
  refine ⟨S', ?_, h.to g1 (g2 _ (by omega) (by omega)) (g2 _ (by omega) (by omega)) (g2 _ (by omega) (by omega)) (g3 _ (by omega) (by omega) (by omega)) (g3 _ (by omega) (by omega) (by omega)) (g3 _ (by omega) (by omega) (by omega)) (g3 _ (by omega) (by omega) (by omega)), FR.of (fun a a3 a4 _ _ _ _ a9 _ _ => g3 a a3 a4 a9), g3 _ (by omega) (by omega) (by omega), g2 _ (by omega) (by omega), g2 _ (by omega) (by omega)⟩
  have hb := nxtW_b A
  rw [uX9_tryLeap]
  simp (disch := omega) only [eX9_tryLeap_0, eX9_tryLeap_1, eX9_tryLeap_4, eX9_tryLeap_5, eX9_tryLeap_5x, eX9_tryLeap_5y, eX9_tryLeap_6, eX9_tryLeap_7, eX9_tryLeap_10, eX9_tryLeap_12, eX9_tryLeap_13, eX9_tryLeap_14, eX9_tryLeap_15, eX9_tryLeap_18, eX9_tryLeap_19, eX9_tryLeap_22, if_pos, if_neg, if_true, if_false, Option.bind_some, Option.toList_some, Option.toList_none, List.cons_append, List.nil_append, n4, q4, e0, e]
theorem z_tryLeapX {x : Int} (h : MIs S A m H K V P n) (ok : AOk A) (h4 : A 4 ≠ 1) : fX9_tryLeap [vR 593, vI x] S = some (some (vI (-5)), S) := by
  obtain ⟨k0, a0, -⟩ := mk
  have q4 : S 594 4 = A 4 := by rw [h.1]
  have n4 : (4 : Int).toNat = 4 := rfl
  have hb := ok.2.2.1.1
  rw [uX9_tryLeap]
  simp (disch := omega) only [eX9_tryLeap_0, eX9_tryLeap_1, eX9_tryLeap_4, eX9_tryLeap_5, eX9_tryLeap_5x, eX9_tryLeap_5y, eX9_tryLeap_6, eX9_tryLeap_7, eX9_tryLeap_10, eX9_tryLeap_12, eX9_tryLeap_13, eX9_tryLeap_14, eX9_tryLeap_15, eX9_tryLeap_18, eX9_tryLeap_19, eX9_tryLeap_22, if_pos, if_neg, if_true, if_false, Option.bind_some, Option.toList_some, Option.toList_none, List.cons_append, List.nil_append, n4, q4]
theorem zz_leap (h : MIs S A m H K V P n) (ok : AOk A) (h4 : A 4 = 1) : ∃ S', fX9_leap [vR 593] S = some (some (vI (nxtW A)), S') ∧ MIs S' (mLeap A (RA A)) (mM m) (mH m H A) K V P n ∧ FR S S' := by
  obtain ⟨k0, a0, -⟩ := mk
  obtain ⟨S1, e0, m1, f1, f2⟩ := z_keepIf h
  have h0 := m1.1
  obtain ⟨S', e, g1, g2, g3⟩ := z_makeLeap (S := S1) (by rw [h0]; exact ok.1) (by rw [h0]; exact ok.2.1) (by rw [h0]; exact ok.2.2.1) (by rw [h0]; exact h4) (by rw [h0]; exact ok.2.2.2.1) (by rw [h0]; exact ok.2.2.2.2.1)
  rw [h0] at e g1
  have q4 : S 594 4 = 1 := by rw [h.1]; exact h4
  have n4 : (4 : Int).toNat = 4 := rfl
  refine ⟨S', ?_, m1.to g1 (g2 _ (by omega) (by omega)) (g2 _ (by omega) (by omega)) (g2 _ (by omega) (by omega)) (g3 _ (by omega) (by omega) (by omega)) (g3 _ (by omega) (by omega) (by omega)) (g3 _ (by omega) (by omega) (by omega)) (g3 _ (by omega) (by omega) (by omega)), FR.of (fun a a3 a4 a5 _ _ _ a9 _ _ => by rw [g3 a a3 a4 a9, f2 a a5 a3])⟩
  have hb := nxtW_b A
  rw [uX9_leap]
  simp (disch := omega) only [eX9_leap_0, eX9_leap_1, eX9_leap_2, eX9_leap_5, if_pos, if_neg, if_true, if_false, Option.bind_some, Option.toList_some, Option.toList_none, List.cons_append, List.nil_append]
  rw [uX9_tryLeap]
  simp (disch := omega) only [eX9_tryLeap_0, eX9_tryLeap_1, eX9_tryLeap_4, eX9_tryLeap_5, eX9_tryLeap_5x, eX9_tryLeap_5y, eX9_tryLeap_6, eX9_tryLeap_7, eX9_tryLeap_10, eX9_tryLeap_12, eX9_tryLeap_13, eX9_tryLeap_14, eX9_tryLeap_15, eX9_tryLeap_18, eX9_tryLeap_19, eX9_tryLeap_22, eX9_leap_0, eX9_leap_1, eX9_leap_2, eX9_leap_5, if_pos, if_neg, if_true, if_false, Option.bind_some, Option.toList_some, Option.toList_none, List.cons_append, List.nil_append, n4, q4, e0, e]
theorem zz_leapX (h : MIs S A m H K V P n) (ok : AOk A) (h4 : A 4 ≠ 1) : fX9_leap [vR 593] S = some (some (vI (-5)), S) := by
  have e := z_tryLeapX (x := 1) h ok h4
  rw [uX9_leap]
  simp (disch := omega) only [eX9_leap_0, eX9_leap_1, eX9_leap_2, eX9_leap_5, if_pos, if_neg, if_true, if_false, Option.bind_some, Option.toList_some, Option.toList_none, List.cons_append, List.nil_append, e]
theorem cnt_same {r r' : Nat → Int} {k : Nat} (hk : k ≤ 300) (h : ∀ j, j < 300 → r j = r' j) : cnt r k = cnt r' k := cnt_congr (fun j hj => by rw [h j (by omega)])
theorem mLeap_R {R R' : Nat → Nat → Int} (hr : RunR A) (h : ∀ u k, u < 3 → k < 300 → R u k = R' u k) : mLeap A R = mLeap A R' := by
  have hw := nxtW_b A
  have g5 := hr.1
  obtain ⟨u, hu⟩ : ∃ u : Nat, (nxtW A).toNat = u := ⟨_, rfl⟩
  have hu3 : u < 3 := by omega
  have gs := (hr.2.2.2.2 u hu3).1
  have e : mLeapW A (R u) u = mLeapW A (R' u) u := by
    unfold mLeapW
    rw [cnt_same (k := (A (20 + u)).toNat) (by omega) (fun j hj => h u j hu3 hj), cnt_same (k := 300) (by omega) (fun j hj => h u j hu3 hj), cnt_same (k := (A 5).toNat) (by omega) (fun j hj => h u j hu3 hj), fst_same (k := (A 5).toNat) (by omega) (fun j hj => h u j hu3 hj)]
  unfold mLeap
  rw [hu, e, mLook_R h]
/-- leaps until the run is over -/
theorem l_leapOn {R : Nat → Nat → Int} (hR : RB R) (h40 : ∀ u : Nat, u < 3 → cnt (R u) 300 ≤ 40) : ∀ (f : Nat) (c : Int) (A : Nat → Int) (S : MM), S 594 = A → StgR A → RunR A → RunS A R → (∀ u k, u < 3 → k < 300 → RA A u k = R u k) → pot A < (f : Int) → f ≤ 1000 → (0 ≤ c ∧ c + f ≤ 2000) → ∃ S', rn xX9_leapOn (2, [some (vR 593), some (vI c)], [], S) = some (some (vI (c + (mRunF f A R).2)), S') ∧ S' 594 = (mRunF f A R).1 ∧ (∀ j, j ≠ 8 → j ≠ 9 → S' 593 j = S 593 j) ∧ (∀ a, a ≠ 593 → a ≠ 594 → a ≠ 599 → S' a = S a) := by
  obtain ⟨k0, a0, -⟩ := mk
  have n4 : (4 : Int).toNat = 4 := rfl
  intro f
  induction f with
  | zero =>
    intro c A S h0 hA hr hs hag hp hf hc
    have := pot_b hr
    omega
  | succ f ih =>
    intro c A S h0 hA hr hs hag hp hf hc
    have q4 : S 594 4 = A 4 := by rw [h0]
    have hb := hs.1
    rw [mRunF]
    by_cases h4 : A 4 = 1
    · rw [if_pos h4]
      obtain ⟨T, e, g1, g2, g3⟩ := z_makeLeap (S := S) (by rw [h0]; exact hA) (by rw [h0]; exact hr) (by rw [h0]; exact RunS_mono hs hr (fun _ _ => rfl) (fun u k hu hk y => by rw [hag u k hu hk]; exact y)) (by rw [h0]; exact h4) (by rw [h0]; exact fun u k hu hk => by rw [hag u k hu hk]; exact hR u k hu hk) (by rw [h0]; exact fun u hu => by rw [cnt_same (by omega) (fun k hk => hag u k hu hk)]; exact h40 u hu)
      rw [h0] at e g1
      rw [mLeap_R hr hag] at g1
      have hinv := leap_inv hA hr hs hR h4
      have hpl := pot_leap hA hr hs h4
      obtain ⟨S', w1, w2, w3, w4⟩ := ih (c + 1) (mLeap A R) T g1 (hA.leap hr) hinv.1 hinv.2 (fun u k hu hk => by rw [← hag u k hu hk]; exact mLeap_lo hr hA.2.1.2 (by omega)) (by omega) (by omega) (by omega)
      refine ⟨S', ?_, w2, fun j y1 y2 => by rw [w3 j y1 y2, g2 j y1 y2], fun a y1 y2 y3 => by rw [w4 a y1 y2 y3, g3 a y1 y2 y3]⟩
      have hb2 := nxtW_b A
      rw [show ∀ X : Int, c + (X + 1) = c + 1 + X from fun X => by omega, ← w1, eX9_leapOn_2]
      simp (disch := omega) only [eX9_leapOn_0, eX9_leapOn_1, eX9_leapOn_3, eX9_leapOn_6, eX9_leapOn_7, eX9_leapOn_7x, eX9_leapOn_7y, eX9_leapOn_8, eX9_leapOn_9, eX9_leapOn_12, eX9_leapOn_13, eX9_leapOn_16, eX9_leapOn_17, eX9_leapOn_20, eX9_leapOn_23, eX9_leapOn_24, if_pos, if_neg, if_true, if_false, Option.bind_some, Option.toList_some, Option.toList_none, List.cons_append, List.nil_append, n4, q4, e]
    · rw [if_neg h4, Int.add_zero]
      refine ⟨S, ?_, h0, fun _ _ _ => rfl, fun _ _ _ _ => rfl⟩
      rw [eX9_leapOn_2]
      simp (disch := omega) only [eX9_leapOn_0, eX9_leapOn_1, eX9_leapOn_3, eX9_leapOn_6, eX9_leapOn_7, eX9_leapOn_7x, eX9_leapOn_7y, eX9_leapOn_8, eX9_leapOn_9, eX9_leapOn_12, eX9_leapOn_13, eX9_leapOn_16, eX9_leapOn_17, eX9_leapOn_20, eX9_leapOn_23, eX9_leapOn_24, if_pos, if_neg, if_true, if_false, Option.bind_some, Option.toList_some, Option.toList_none, List.cons_append, List.nil_append, n4, q4]
theorem z_leapOn (h0 : S 594 = A) (hA : StgR A) (hr : RunR A) (hs : RunS A (RA A)) (hR : RB (RA A)) (h40 : ∀ u : Nat, u < 3 → cnt (RA A u) 300 ≤ 40) : ∃ S', fX9_leapOn [vR 593] S = some (some (vI (mRun A (RA A)).2), S') ∧ S' 594 = (mRun A (RA A)).1 ∧ (∀ j, j ≠ 8 → j ≠ 9 → S' 593 j = S 593 j) ∧ (∀ a, a ≠ 593 → a ≠ 594 → a ≠ 599 → S' a = S a) := by
  have hp := pot_b hr
  obtain ⟨S', w1, w2⟩ := l_leapOn hR h40 1000 0 A S h0 hA hr hs (fun _ _ _ _ => rfl) (by omega) (by omega) (by omega)
  rw [Int.zero_add] at w1
  refine ⟨S', ?_, w2⟩
  unfold mRun
  rw [← w1, uX9_leapOn]
  simp (disch := omega) only [eX9_leapOn_0, eX9_leapOn_1, eX9_leapOn_3, eX9_leapOn_6, eX9_leapOn_7, eX9_leapOn_7x, eX9_leapOn_7y, eX9_leapOn_8, eX9_leapOn_9, eX9_leapOn_12, eX9_leapOn_13, eX9_leapOn_16, eX9_leapOn_17, eX9_leapOn_20, eX9_leapOn_23, eX9_leapOn_24, if_pos, if_neg, if_true, if_false, Option.bind_some, Option.toList_some, Option.toList_none, List.cons_append, List.nil_append]
theorem zz_run (h : MIs S A m H K V P n) (ok : AOk A) (h4 : A 4 = 1) : ∃ S', fX9_run [vR 593] S = some (some (vI (mRun A (RA A)).2), S') ∧ MIs S' (mRun A (RA A)).1 (mM m) (mH m H A) K V P n ∧ FR S S' := by
  obtain ⟨k0, a0, -⟩ := mk
  obtain ⟨S1, e0, m1, f1, f2⟩ := zk h
  obtain ⟨S', e, g1, g2, g3⟩ := z_leapOn m1.1 ok.1 ok.2.1 ok.2.2.1 ok.2.2.2.1 ok.2.2.2.2.1
  have q4 : S 594 4 = 1 := by rw [h.1]; exact h4
  have n4 : (4 : Int).toNat = 4 := rfl
  have hi := (runF_inv ok.2.2.2.1 1000 A ok.1 ok.2.1 ok.2.2.1 (by have := pot_b ok.2.1; omega)).1.2.2.2
  refine ⟨S', ?_, m1.to g1 (g2 _ (by omega) (by omega)) (g2 _ (by omega) (by omega)) (g2 _ (by omega) (by omega)) (g3 _ (by omega) (by omega) (by omega)) (g3 _ (by omega) (by omega) (by omega)) (g3 _ (by omega) (by omega) (by omega)) (g3 _ (by omega) (by omega) (by omega)), FR.of (fun a a3 a4 a5 _ _ _ a9 _ _ => by rw [g3 a a3 a4 a9, f2 a a5 a3])⟩
  have hi2 : 0 ≤ (mRun A (RA A)).2 ∧ (mRun A (RA A)).2 ≤ 1000 := hi
  rw [uX9_run]
  simp (disch := omega) only [eX9_run_0, eX9_run_1, eX9_run_4, eX9_run_5, eX9_run_5x, eX9_run_5y, eX9_run_6, eX9_run_7, eX9_run_10, eX9_run_12, eX9_run_13, eX9_run_14, eX9_run_17, eX9_run_18, eX9_run_21, if_pos, if_neg, if_true, if_false, Option.bind_some, Option.toList_some, Option.toList_none, List.cons_append, List.nil_append, n4, q4, e0, e]
theorem zz_runX (h : MIs S A m H K V P n) (ok : AOk A) (h4 : A 4 ≠ 1) : fX9_run [vR 593] S = some (some (vI (-5)), S) := by
  obtain ⟨k0, a0, -⟩ := mk
  have q4 : S 594 4 = A 4 := by rw [h.1]
  have n4 : (4 : Int).toNat = 4 := rfl
  have hb := ok.2.2.1.1
  rw [uX9_run]
  simp (disch := omega) only [eX9_run_0, eX9_run_1, eX9_run_4, eX9_run_5, eX9_run_5x, eX9_run_5y, eX9_run_6, eX9_run_7, eX9_run_10, eX9_run_12, eX9_run_13, eX9_run_14, eX9_run_17, eX9_run_18, eX9_run_21, if_pos, if_neg, if_true, if_false, Option.bind_some, Option.toList_some, Option.toList_none, List.cons_append, List.nil_append, n4, q4]
end MO16

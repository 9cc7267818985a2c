/-! the reference: carryOut -/
section MO27
variable {S S' S1 S2 : MM} {A : Nat → Int} {m n : Nat} {H : Nat → Nat → Int} {K P : Nat → Int} {V : Nat → Nat → Int}
theorem flat_len : ∀ {f p : Nat} {i : Int}, p ≤ n → (Tx P n f p).1 = true → 2 * (flat i (Tx P n f p).2.2).length + p ≤ n + 1 := by
  intro f
  induction f with
  | zero => intro p i hp y; exact ft y
  | succ f ih =>
    intro p i hp
    obtain ⟨b1, b2, b3⟩ := Od_b (P := P) (n := n) (p := p) hp
    rw [Tx]
    by_cases o : (Od P n p).1 = true
    · rw [if_pos o]
      have hl := Od_len (i := i) hp o
      by_cases c : (Od P n p).2.1 < n
      · rw [if_pos c]
        by_cases d : nx P n (Od P n p).2.1 = 59
        · rw [if_pos d]
          intro y
          have ih := ih (p := (Od P n p).2.1 + 1) (i := i + 1) (by omega) y
          show 2 * (pcs i (Od P n p).2.2 ++ flat (i + 1) (Tx P n f ((Od P n p).2.1 + 1)).2.2).length + p ≤ n + 1
          rw [List.length_append]
          omega
        · rw [if_neg d]
          exact fun y => ft y
      · rw [if_neg c]
        intro _
        show 2 * (pcs i (Od P n p).2.2 ++ []).length + p ≤ n + 1
        rw [List.append_nil]
        omega
    · rw [if_neg o]
      exact fun y => ft y
theorem Tx_bn : ∀ {f p : Nat}, p ≤ n → (Tx P n f p).2.1 ≤ n ∧ (Tx P n f p).2.2.length ≤ f := by
  intro f
  induction f with
  | zero => intro p hp; exact ⟨hp, Nat.le_refl _⟩
  | succ f ih =>
    intro p hp
    obtain ⟨b1, b2, b3⟩ := Od_b (P := P) (n := n) (p := p) hp
    rw [Tx]
    by_cases o : (Od P n p).1 = true
    · rw [if_pos o]
      by_cases c : (Od P n p).2.1 < n
      · rw [if_pos c]
        by_cases d : nx P n (Od P n p).2.1 = 59
        · rw [if_pos d]
          have ih := ih (p := (Od P n p).2.1 + 1) (by omega)
          refine ⟨ih.1, ?_⟩
          simp only [List.length_cons]
          omega
        · rw [if_neg d]
          exact ⟨b2, Nat.zero_le _⟩
      · rw [if_neg c]
        refine ⟨b2, ?_⟩
        simp only [List.length_cons, List.length_nil]
        omega
    · rw [if_neg o]
      exact ⟨b2, Nat.zero_le _⟩
theorem Lst_w {i w : Int} (hw : 0 ≤ w ∧ w ≤ 2) : ∀ {f p : Nat}, p ≤ n → (Lst P n f p).1 = true → ∀ q ∈ stPc i w (Lst P n f p).2.2, PW q ∧ q.2.1 = i := by
  intro f
  induction f with
  | zero => intro p hp y; exact ft y
  | succ f ih =>
    intro p hp
    obtain ⟨b1, b2, b3⟩ := St_b (P := P) (n := n) (p := p) hp
    rw [Lst]
    by_cases c : (St P n p).1 = true
    · rw [if_pos c]
      obtain ⟨z1, z2, z3, z4, z5⟩ := b3 c
      have one : PW (115, i, w, (St P n p).2.2.1, (St P n p).2.2.2.1, (St P n p).2.2.2.2) := Or.inl ⟨rfl, hw, z3, z4, z5⟩
      by_cases d : nx P n (St P n p).2.1 = 44
      · rw [if_pos d]
        have hq := nx_in2 d (by omega)
        intro y q hm
        rcases List.mem_cons.mp (show q ∈ (115, i, w, (St P n p).2.2.1, (St P n p).2.2.2.1, (St P n p).2.2.2.2) :: stPc i w (Lst P n f ((St P n p).2.1 + 1)).2.2 from hm) with e | e
        · rw [e]
          exact ⟨one, rfl⟩
        · exact ih (p := (St P n p).2.1 + 1) (by omega) y q e
      · rw [if_neg d]
        intro _ q hm
        have e : q = (115, i, w, (St P n p).2.2.1, (St P n p).2.2.2.1, (St P n p).2.2.2.2) := List.mem_singleton.mp hm
        rw [e]
        exact ⟨one, rfl⟩
    · rw [if_neg c]
      exact fun y => ft y
theorem Od_w {i : Int} {p : Nat} (hp : p ≤ n) (ho : (Od P n p).1 = true) : ∀ q ∈ pcs i (Od P n p).2.2, PW q ∧ q.2.1 = i := by
  revert ho
  unfold Od
  by_cases a : nx P n p = 100 ∨ nx P n p = 103 ∨ nx P n p = 108
  · rw [if_pos a]
    intro _
    unfold pcs
    simp only
    rw [if_neg (by omega), if_neg (by omega)]
    intro q hm
    rw [List.mem_singleton.mp hm]
    refine ⟨?_, rfl⟩
    rcases a with a | a | a
    · exact Or.inr (Or.inr (Or.inl a))
    · exact Or.inr (Or.inr (Or.inr (Or.inl a)))
    · exact Or.inr (Or.inr (Or.inr (Or.inr a)))
  · rw [if_neg a]
    by_cases b : nx P n p = 102
    · rw [if_pos b]
      have h0 := nx_in2 b (by omega)
      obtain ⟨g1, g2, g3⟩ := Fl_b (P := P) (n := n) (p := p + 1) (by omega)
      intro y q hm
      obtain ⟨v1, v2, v3⟩ := g3 y
      have e : q = (102, i, (Fl P n (p + 1)).2.2.1, (Fl P n (p + 1)).2.2.2.1, (Fl P n (p + 1)).2.2.2.2, 0) := List.mem_singleton.mp hm
      rw [e]
      exact ⟨Or.inr (Or.inl ⟨rfl, v1, v2, v3⟩), rfl⟩
    · rw [if_neg b]
      by_cases c : 48 ≤ nx P n p ∧ nx P n p ≤ 50
      · rw [if_pos c]
        have h0 := nx_in (P := P) (n := n) (p := p) (by omega)
        by_cases d : nx P n (p + 1) = 58
        · rw [if_pos d]
          have h1 := nx_in2 d (by omega)
          intro y q hm
          exact Lst_w (P := P) (n := n) (f := 80) (p := p + 2) (i := i) (w := nx P n p - 48) (by omega) (by omega) y q hm
        · rw [if_neg d]
          exact fun y => ft y
      · rw [if_neg c]
        exact fun y => ft y
def OW (i : Int) : List (Int × Int × List (Int × Int × Int)) → Prop
  | [] => True
  | o :: l => (∀ q ∈ pcs i o, PW q ∧ q.2.1 = i) ∧ OW (i + 1) l
theorem Tx_w : ∀ {f p : Nat} {i : Int}, p ≤ n → (Tx P n f p).1 = true → OW i (Tx P n f p).2.2 := by
  intro f
  induction f with
  | zero => intro p i hp y; exact ft y
  | succ f ih =>
    intro p i hp
    obtain ⟨b1, b2, b3⟩ := Od_b (P := P) (n := n) (p := p) hp
    rw [Tx]
    by_cases o : (Od P n p).1 = true
    · rw [if_pos o]
      by_cases c : (Od P n p).2.1 < n
      · rw [if_pos c]
        by_cases d : nx P n (Od P n p).2.1 = 59
        · rw [if_pos d]
          intro y
          exact ⟨Od_w hp o, ih (p := (Od P n p).2.1 + 1) (by omega) y⟩
        · rw [if_neg d]
          exact fun y => ft y
      · rw [if_neg c]
        exact fun _ => ⟨Od_w hp o, trivial⟩
    · rw [if_neg o]
      exact fun y => ft y
/-! the loop over the pieces -/
theorem l_carP {i N : Int} {M : Nat} (hM : M ≤ 41) (hi : rng i) : ∀ (L : List PC) (g : Nat) (A : Nat → Int) (S : MM), MIs S A m H K V P n → AI A → S 593 14 = N → S 593 15 = (M : Int) → g + L.length ≤ M → (∀ j q, L[j]? = some q → At S (g + j) q) → (∀ q ∈ L, PW q ∧ q.2.1 = i) → ∃ S', MIs S' (crPs L A).2 m H K V P n ∧ AI (crPs L A).2 ∧ FR S S' ∧ S' 601 = S 601 ∧ S' 593 14 = N ∧ S' 593 15 = (M : Int) ∧ ((crPs L A).1 = true → rn xX9_carryOut (21, [some (vR 593), some (vI (g : Int))], [], S) = rn xX9_carryOut (21, [some (vR 593), some (vI ((g + L.length : Nat) : Int))], [], S')) ∧ (¬ (crPs L A).1 = true → rn xX9_carryOut (21, [some (vR 593), some (vI (g : Int))], [], S) = some (some (vI i), S')) := by
  obtain ⟨k9, -, -, k1, a1⟩ := k9_
  intro L
  induction L with
  | nil =>
    intro g A S h hA h14 h15 hg hq hp
    exact ⟨S, h, hA, fun _ _ => rfl, rfl, h14, h15, fun _ => rfl, fun y => absurd rfl y⟩
  | cons x L ih =>
    intro g A S h hA h14 h15 hg hq hp
    rw [List.length_cons] at hg
    have hx := hp x (List.mem_cons_self ..)
    have hat := hq 0 x rfl
    rw [Nat.add_zero] at hat
    obtain ⟨S1, r, e, m1, a1', w1, w2, f1, e601, e14, e15⟩ := z_carry (k := g) h hA (by omega) hat hx.1
    rw [crPs]
    by_cases c : (crP x A).1 = true
    · rw [if_pos c]
      have w1 := w1 c
      obtain ⟨S', v1, v2, v3, v4, v5, v6, v7, v8⟩ := ih (g + 1) (crP x A).2 S1 m1 a1' (by rw [e14]; exact h14) (by rw [e15]; exact h15) (by omega) (fun j q hj => by
        have := hq (j + 1) q hj
        unfold At at this ⊢
        rw [e601, show g + 1 + j = g + (j + 1) by omega]
        exact this) (fun q hm => hp q (List.mem_cons_of_mem _ hm))
      have e0 : rn xX9_carryOut (21, [some (vR 593), some (vI (g : Int))], [], S) = rn xX9_carryOut (21, [some (vR 593), some (vI ((g + 1 : Nat) : Int))], [], S1) := by
        rw [eX9_carryOut_21]
        simp (disch := omega) only [eX9_carryOut_0, eX9_carryOut_1, eX9_carryOut_4, eX9_carryOut_7, eX9_carryOut_9, eX9_carryOut_10, eX9_carryOut_11, eX9_carryOut_14, eX9_carryOut_15, eX9_carryOut_16, eX9_carryOut_19, eX9_carryOut_20, eX9_carryOut_22, eX9_carryOut_23, eX9_carryOut_26, eX9_carryOut_29, eX9_carryOut_30, eX9_carryOut_31, eX9_carryOut_34, eX9_carryOut_37, eX9_carryOut_38, eX9_carryOut_41, eX9_carryOut_43, eX9_carryOut_44, eX9_carryOut_45, eX9_carryOut_46, eX9_carryOut_47, eX9_carryOut_47x, eX9_carryOut_47y, eX9_carryOut_48, eX9_carryOut_49, eX9_carryOut_52, eX9_carryOut_55, eX9_carryOut_56, eX9_carryOut_59, if_pos, if_neg, if_true, if_false, Option.bind_some, Option.toList_some, Option.toList_none, List.cons_append, List.nil_append, h15, e]
        rw [show ((g : Int) + 1) = ((g + 1 : Nat) : Int) by omega]
      refine ⟨S', v1, v2, f1.trans v3, by rw [v4, e601], v5, v6, fun y => ?_, fun y => ?_⟩
      · rw [e0, v7 y, List.length_cons, show g + 1 + L.length = g + (L.length + 1) by omega]
      · rw [e0, v8 y]
    · rw [if_neg c]
      have w2 := w2 c
      have q1 := hat.2.1
      rw [hx.2] at q1
      have x1 : ((6 : Int) * (g : Int) + 1).toNat = 6 * g + 1 := by omega
      refine ⟨S1, m1, a1', f1, e601, by rw [e14]; exact h14, by rw [e15]; exact h15, fun y => ft y, fun _ => ?_⟩
      rw [eX9_carryOut_21]
      have q1' : S1 601 (6 * g + 1) = i := by rw [e601]; exact q1
      simp (disch := omega) only [eX9_carryOut_0, eX9_carryOut_1, eX9_carryOut_4, eX9_carryOut_7, eX9_carryOut_9, eX9_carryOut_10, eX9_carryOut_11, eX9_carryOut_14, eX9_carryOut_15, eX9_carryOut_16, eX9_carryOut_19, eX9_carryOut_20, eX9_carryOut_22, eX9_carryOut_23, eX9_carryOut_26, eX9_carryOut_29, eX9_carryOut_30, eX9_carryOut_31, eX9_carryOut_34, eX9_carryOut_37, eX9_carryOut_38, eX9_carryOut_41, eX9_carryOut_43, eX9_carryOut_44, eX9_carryOut_45, eX9_carryOut_46, eX9_carryOut_47, eX9_carryOut_47x, eX9_carryOut_47y, eX9_carryOut_48, eX9_carryOut_49, eX9_carryOut_52, eX9_carryOut_55, eX9_carryOut_56, eX9_carryOut_59, if_pos, if_neg, if_true, if_false, Option.bind_some, Option.toList_some, Option.toList_none, List.cons_append, List.nil_append, h15, e, x1, q1']
theorem l_carO {N : Int} {M : Nat} (hM : M ≤ 41) : ∀ (l : List (Int × Int × List (Int × Int × Int))) (i : Int) (g : Nat) (A : Nat → Int) (S : MM), MIs S A m H K V P n → AI A → N = i + l.length → (0 ≤ i ∧ N ≤ 1000) → S 593 14 = N → S 593 15 = (M : Int) → g + (flat i l).length = M → (∀ j q, (flat i l)[j]? = some q → At S (g + j) q) → OW i l → ∃ S', rn xX9_carryOut (21, [some (vR 593), some (vI (g : Int))], [], S) = some (some (vI (i + ((crT l A).1 : Int))), S') ∧ MIs S' (crT l A).2 m H K V P n ∧ AI (crT l A).2 ∧ FR S S' := by
  intro l
  induction l with
  | nil =>
    intro i g A S h hA hN hi h14 h15 hg hq hw
    have e : g = M := hg
    refine ⟨S, ?_, h, hA, fun _ _ => rfl⟩
    have hN' : N = i + ((crT [] A).1 : Int) := hN
    rw [eX9_carryOut_21, ← hN']
    subst e
    simp (disch := omega) only [eX9_carryOut_0, eX9_carryOut_1, eX9_carryOut_4, eX9_carryOut_7, eX9_carryOut_9, eX9_carryOut_10, eX9_carryOut_11, eX9_carryOut_14, eX9_carryOut_15, eX9_carryOut_16, eX9_carryOut_19, eX9_carryOut_20, eX9_carryOut_22, eX9_carryOut_23, eX9_carryOut_26, eX9_carryOut_29, eX9_carryOut_30, eX9_carryOut_31, eX9_carryOut_34, eX9_carryOut_37, eX9_carryOut_38, eX9_carryOut_41, eX9_carryOut_43, eX9_carryOut_44, eX9_carryOut_45, eX9_carryOut_46, eX9_carryOut_47, eX9_carryOut_47x, eX9_carryOut_47y, eX9_carryOut_48, eX9_carryOut_49, eX9_carryOut_52, eX9_carryOut_55, eX9_carryOut_56, eX9_carryOut_59, if_pos, if_neg, if_true, if_false, Option.bind_some, Option.toList_some, Option.toList_none, List.cons_append, List.nil_append, h15, h14]
  | cons o l ih =>
    intro i g A S h hA hN hi h14 h15 hg hq hw
    have hg2 : g + ((pcs i o).length + (flat (i + 1) l).length) = M := by rw [← List.length_append]; exact hg
    rw [List.length_cons] at hN
    obtain ⟨S1, v1, v2, v3, v4, v5, v6, v7, v8⟩ := l_carP (i := i) (N := N) hM ⟨by omega, by omega⟩ (pcs i o) g A S h hA h14 h15 (by omega) (fun j q hj => by
      have hlt : j < (pcs i o).length := by
        by_cases c : j < (pcs i o).length
        · exact c
        · rw [List.getElem?_eq_none (by omega)] at hj
          cases hj
      exact hq j q (by
        show (pcs i o ++ flat (i + 1) l)[j]? = some q
        rw [List.getElem?_append_left hlt]
        exact hj)) hw.1
    rw [crPs_o] at v1 v2 v7 v8
    rw [crT]
    by_cases c : (crO o A).1 = true
    · rw [if_pos c]
      obtain ⟨S', w1, w2, w3, w4⟩ := ih (i + 1) (g + (pcs i o).length) (crO o A).2 S1 v1 v2 (by omega) (by omega) v5 v6 (by omega) (fun j q hj => by
        have := hq ((pcs i o).length + j) q (by
          show (pcs i o ++ flat (i + 1) l)[(pcs i o).length + j]? = some q
          rw [List.getElem?_append_right (by omega), Nat.add_sub_cancel_left]
          exact hj)
        unfold At at this ⊢
        rw [v4, show g + (pcs i o).length + j = g + ((pcs i o).length + j) by omega]
        exact this) hw.2
      refine ⟨S', ?_, w2, w3, v3.trans w4⟩
      rw [v7 c, w1]
      simp only
      rw [show i + 1 + ((crT l (crO o A).2).1 : Int) = i + (((crT l (crO o A).2).1 + 1 : Nat) : Int) by omega]
    · rw [if_neg c]
      refine ⟨S1, ?_, v1, v2, v3⟩
      rw [v8 c]
      simp only
      rw [show i + ((0 : Nat) : Int) = i by omega]
theorem MIs.wipe (h : MIs S A m H K V P n) : MIs (updM S 593 11 0) A m H K V P 0 := by
  obtain ⟨h0, ⟨pf, p1, p2, p3, p4, p5⟩, q, r1, r2, r3⟩ := h
  refine ⟨by rw [updM_ne (by omega)]; exact h0, ⟨pf, by rw [updM_eq, up_ne (by omega)]; exact p1, p2, by rw [updM_eq, up_ne (by omega)]; exact p3, p4, fun j k hj hk => by rw [updM_ne (by omega)]; exact p5 j k hj hk⟩, fun i hi => by rw [updM_ne (by omega), updM_ne (by omega)]; exact q i hi, by rw [updM_eq, up_eq]; rfl, by omega, fun k hk => by omega⟩
theorem zz_carryOutX (h : MIs S A m H K V P n) (hn : ¬ (Tx P n 80 0).1 = true) : ∃ S', fX9_carryOut [vR 593] S = some (some (vI (-3)), S') ∧ MIs S' A m H K V P n ∧ FR S S' := by
  obtain ⟨S', e, w1, w2, -⟩ := z_fault h
  refine ⟨S', ?_, w1, w2⟩
  unfold fltF at e
  rw [if_neg hn] at e
  have hb := Tx_bn (P := P) (n := n) (f := 80) (p := 0) (by omega)
  have hn80 := h.2.2.2.2.1
  rw [uX9_carryOut]
  simp (disch := omega) only [eX9_carryOut_0, eX9_carryOut_1, eX9_carryOut_4, eX9_carryOut_7, eX9_carryOut_9, eX9_carryOut_10, eX9_carryOut_11, eX9_carryOut_14, eX9_carryOut_15, eX9_carryOut_16, eX9_carryOut_19, eX9_carryOut_20, eX9_carryOut_22, eX9_carryOut_23, eX9_carryOut_26, eX9_carryOut_29, eX9_carryOut_30, eX9_carryOut_31, eX9_carryOut_34, eX9_carryOut_37, eX9_carryOut_38, eX9_carryOut_41, eX9_carryOut_43, eX9_carryOut_44, eX9_carryOut_45, eX9_carryOut_46, eX9_carryOut_47, eX9_carryOut_47x, eX9_carryOut_47y, eX9_carryOut_48, eX9_carryOut_49, eX9_carryOut_52, eX9_carryOut_55, eX9_carryOut_56, eX9_carryOut_59, if_pos, if_neg, if_true, if_false, Option.bind_some, Option.toList_some, Option.toList_none, List.cons_append, List.nil_append, e]
theorem zz_carryOut (h : MIs S A m H K V P n) (hA : AI A) (ho : (Tx P n 80 0).1 = true) : ∃ S', fX9_carryOut [vR 593] S = some (some (vI ((crT (Tx P n 80 0).2.2 A).1 : Int)), S') ∧ MIs S' (crT (Tx P n 80 0).2.2 A).2 (mM m) (mH m H A) K V P 0 ∧ FR S S' := by
  obtain ⟨k9, -⟩ := k9_
  have hn80 := h.2.2.2.2.1
  obtain ⟨S1, e1, m1, f1, w⟩ := z_fault h
  obtain ⟨w14, w15, wq⟩ := w ho
  unfold fltF at e1
  rw [if_pos ho] at e1
  obtain ⟨S2, e2, m2, j2, f2⟩ := zk m1
  obtain ⟨S3, hS3⟩ : ∃ T, updM S2 593 11 0 = T := ⟨_, rfl⟩
  have m3 : MIs S3 A (mM m) (mH m H A) K V P 0 := by rw [← hS3]; exact m2.wipe
  have hl := flat_len (P := P) (n := n) (f := 80) (p := 0) (i := 0) (by omega) ho
  have hl2 : (Tx P n 80 0).2.2.length ≤ 1000 := by
    have := (Tx_bn (P := P) (n := n) (f := 80) (p := 0) (by omega)).2
    omega
  have e601 : S3 601 = S1 601 := by rw [← hS3, updM_ne (by omega), f2 601 (by omega) (by omega)]
  obtain ⟨S', w1, w2, w3, w4⟩ := l_carO (N := ((Tx P n 80 0).2.2.length : Int)) (M := (flat 0 (Tx P n 80 0).2.2).length) (by omega) (Tx P n 80 0).2.2 0 0 A S3 m3 hA (by omega) (by omega) (by rw [← hS3, updM_eq, up_ne (by omega), j2 14 (by omega) (by omega)]; exact w14) (by rw [← hS3, updM_eq, up_ne (by omega), j2 15 (by omega) (by omega)]; exact w15) (by omega) (fun j q hj => by
    have := wq j q hj
    unfold At at this ⊢
    rw [e601, Nat.zero_add]
    exact this) (Tx_w (by omega) ho)
  refine ⟨S', ?_, w2, fun a ha => by rw [w4 a ha, ← hS3, updM_ne (by omega), f2 a (by omega) (by omega), f1 a ha]⟩
  rw [Int.zero_add] at w1
  rw [← w1, uX9_carryOut]
  simp (disch := omega) only [eX9_carryOut_0, eX9_carryOut_1, eX9_carryOut_4, eX9_carryOut_7, eX9_carryOut_9, eX9_carryOut_10, eX9_carryOut_11, eX9_carryOut_14, eX9_carryOut_15, eX9_carryOut_16, eX9_carryOut_19, eX9_carryOut_20, eX9_carryOut_22, eX9_carryOut_23, eX9_carryOut_26, eX9_carryOut_29, eX9_carryOut_30, eX9_carryOut_31, eX9_carryOut_34, eX9_carryOut_37, eX9_carryOut_38, eX9_carryOut_41, eX9_carryOut_43, eX9_carryOut_44, eX9_carryOut_45, eX9_carryOut_46, eX9_carryOut_47, eX9_carryOut_47x, eX9_carryOut_47y, eX9_carryOut_48, eX9_carryOut_49, eX9_carryOut_52, eX9_carryOut_55, eX9_carryOut_56, eX9_carryOut_59, if_pos, if_neg, if_true, if_false, Option.bind_some, Option.toList_some, Option.toList_none, List.cons_append, List.nil_append, e1, e2, hS3]
  rfl
end MO27

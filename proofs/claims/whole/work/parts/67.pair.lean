/-! class and reference side by side -/
section PAIR
variable {S S' : MM} {A A' : Nat → Int} {m m' n n' : Nat} {H H' : Nat → Nat → Int} {K K' P P' : Nat → Int} {V V' : Nat → Nat → Int}
def Rel (S : MM) : Prop := ∃ (A : Nat → Int) (m : Nat) (H : Nat → Nat → Int) (K : Nat → Int) (V : Nat → Nat → Int) (P : Nat → Int) (n : Nat), XIs S A m H K V P n ∧ MIs S A m H K V P n
/-- a call on both gives one answer, and keeps them side by side -/
def Pair (fx fm : FN) (as : List VV) (S : MM) : Prop := ∃ (r : Int) (S1 S2 : MM), fx (vR 0 :: as) S = some (some (vI r), S1) ∧ rng r ∧ fm (vR 593 :: as) S1 = some (some (vI r), S2) ∧ Rel S2 ∧ S1 603 = S 603 ∧ S1 604 = S 604 ∧ S2 602 = S 602 ∧ S2 603 = S 603 ∧ S2 604 = S 604
theorem XIs.ai (h : XIs S A m H K V P n) : AI A := ⟨S, h.1, h.2.1⟩
theorem XIs.fr (h : XIs S A m H K V P n) (f : FR S S') : XIs S' A m H K V P n := h.rows (fun a _ h2 _ => f a (Or.inl h2)) (f 602 (Or.inr (by omega))) (f 604 (Or.inr (by omega)))
theorem XIs.congr (h : XIs S A m H K V P n) (he : ∀ k, k < 4825 → A' k = A k) : XIs S A' m H K V P n := h.now (h.1.congr he) (fun _ _ => rfl)
theorem MIs.stay (h : MIs S A m H K V P n) (f : ∀ a, 593 ≤ a → S' a = S a) : MIs S' A m H K V P n := h.to (by rw [f 594 (by omega)]; exact h.1) (by rw [f 593 (by omega)]) (by rw [f 593 (by omega)]) (by rw [f 593 (by omega)]) (f _ (by omega)) (f _ (by omega)) (f _ (by omega)) (f _ (by omega))
theorem pair_mk {fx fm : FN} {as : List VV} {r : Int} (hr : rng r) (h : MIs S A m H K V P n) (x : ∃ S1, fx (vR 0 :: as) S = some (some (vI r), S1) ∧ XIs S1 A' m' H' K' V' P' n' ∧ (∀ a, 593 ≤ a → S1 a = S a)) (g : ∀ S1, MIs S1 A m H K V P n → ∃ S2, fm (vR 593 :: as) S1 = some (some (vI r), S2) ∧ MIs S2 A' m' H' K' V' P' n' ∧ FR S1 S2) : Pair fx fm as S := by
  obtain ⟨S1, e1, x1, f1⟩ := x
  obtain ⟨S2, e2, x2, f2⟩ := g S1 (h.stay f1)
  exact ⟨r, S1, S2, e1, hr, e2, ⟨_, _, _, _, _, _, _, x1.fr f2, x2⟩, f1 603 (by omega), f1 604 (by omega), by rw [f2 602 (by omega), f1 602 (by omega)], by rw [f2 603 (by omega), f1 603 (by omega)], by rw [f2 604 (by omega), f1 604 (by omega)]⟩
theorem pair_mk2 {fx fm : FN} {as : List VV} {r : Int} (hr : rng r) (h : MIs S A m H K V P n) (x : ∃ S1, fx (vR 0 :: as) S = some (some (vI r), S1) ∧ XIs S1 A' m' H' K' V' P' n' ∧ (∀ a, 593 ≤ a → S1 a = S a)) (g : ∀ S1, MIs S1 A m H K V P n → ∃ (S2 : MM) (A2 : Nat → Int), fm (vR 593 :: as) S1 = some (some (vI r), S2) ∧ MIs S2 A2 m' H' K' V' P' n' ∧ (∀ k, k < 4825 → A2 k = A' k) ∧ FR S1 S2) : Pair fx fm as S := by
  obtain ⟨S1, e1, x1, f1⟩ := x
  obtain ⟨S2, A2, e2, x2, hA, f2⟩ := g S1 (h.stay f1)
  exact ⟨r, S1, S2, e1, hr, e2, ⟨_, _, _, _, _, _, _, (x1.congr hA).fr f2, x2⟩, f1 603 (by omega), f1 604 (by omega), by rw [f2 602 (by omega), f1 602 (by omega)], by rw [f2 603 (by omega), f1 603 (by omega)], by rw [f2 604 (by omega), f1 604 (by omega)]⟩
theorem FR.rfl' : FR S S := fun _ _ => rfl
theorem RA_b (ok : AOk A) {w k : Nat} (hw : w < 3) (hk : k < 300) : rng (RA A w k) := by
  have := ok.2.2.2.1 w k hw hk
  exact ⟨by omega, by omega⟩
theorem p_set {j z : Int} (hj : rng j) (hz : rng z) (h : Rel S) : Pair fX8_set fX9_set [vI j, vI z] S := by
  obtain ⟨A, m, H, K, V, P, n, hx, hm⟩ := h
  have ok := hx.ai.ok
  by_cases c : (0 ≤ j ∧ j ≤ 3) ∧ 0 ≤ z ∧ z ≤ hiS j
  · have hr : rng (A j.toNat) := by
      obtain ⟨y0, y1, y2, y3⟩ := ok.1
      rcases (show j = 0 ∨ j = 1 ∨ j = 2 ∨ j = 3 by omega) with rfl | rfl | rfl | rfl
      · show rng (A 0); exact ⟨by omega, by omega⟩
      · show rng (A 1); exact ⟨by omega, by omega⟩
      · show rng (A 2); exact ⟨by omega, by omega⟩
      · show rng (A 3); exact ⟨by omega, by omega⟩
    exact pair_mk hr hm (s_set hx c.1 c.2) (fun S1 h1 => zz_set h1 ok c.1 c.2)
  · exact pair_mk ⟨by omega, by omega⟩ hm ⟨S, s_setX hj hz c, hx, fun _ _ => rfl⟩ (fun S1 h1 => ⟨S1, z_setX hj hz c, h1, FR.rfl'⟩)
theorem p_stone {w k t : Int} (hw : rng w) (hk : rng k) (ht : rng t) (h : Rel S) : Pair fX8_stone fX9_stone [vI w, vI k, vI t] S := by
  obtain ⟨A, m, H, K, V, P, n, hx, hm⟩ := h
  have ok := hx.ai.ok
  rcases errLay_v (A := A) (w := w) (key := k) (t := t) with y | y
  · exact pair_mk (RA_b ok (by omega) (by omega)) hm (s_stone hx hw hk ht y.1) (fun S1 h1 => zz_stone h1 ok hw hk ht y.1)
  · exact pair_mk ⟨by omega, by omega⟩ hm ⟨S, s_stoneX hx hw hk ht y.1, hx, fun _ _ => rfl⟩ (fun S1 h1 => ⟨S1, zz_stoneX h1 ok hw hk ht y.1, h1, FR.rfl'⟩)
theorem p_flood {w a b : Int} (hw : rng w) (ha : rng a) (hb : rng b) (h : Rel S) : Pair fX8_flood fX9_flood [vI w, vI a, vI b] S := by
  obtain ⟨A, m, H, K, V, P, n, hx, hm⟩ := h
  have ok := hx.ai.ok
  rcases errFl_v (w := w) (a := a) (b := b) with y | y
  · have q0 := cnt_le (nT A w a b 0) 300
    have q1 := cnt_le (nT A w a b 1) 300
    have q2 := cnt_le (nT A w a b 2) 300
    exact pair_mk ⟨by omega, by omega⟩ hm (s_flood hx hw ha hb y.1) (fun S1 h1 => zz_flood h1 ok hw y.1)
  · exact pair_mk ⟨by omega, by omega⟩ hm ⟨S, s_floodX hw ha hb y.1, hx, fun _ _ => rfl⟩ (fun S1 h1 => ⟨S1, zz_floodX hw ha hb y.1, h1, FR.rfl'⟩)
theorem p_dry (h : Rel S) : Pair fX8_dry fX9_dry [] S := by
  obtain ⟨A, m, H, K, V, P, n, hx, hm⟩ := h
  have ok := hx.ai.ok
  rcases errDry_v (A := A) with y | y
  · have q0 := cnt_le (tk A 0) 300
    have q1 := cnt_le (tk A 1) 300
    have q2 := cnt_le (tk A 2) 300
    exact pair_mk ⟨by omega, by omega⟩ hm (s_dry hx y) (fun S1 h1 => zz_dry h1 ok y)
  · exact pair_mk ⟨by omega, by omega⟩ hm ⟨S, s_dryX hx y.1, hx, fun _ _ => rfl⟩ (fun S1 h1 => ⟨S1, zz_dryX h1 ok y.1, h1, FR.rfl'⟩)
theorem mBegin_4 (A : Nat → Int) : mBegin A 4 = 1 ∨ mBegin A 4 = 2 := by
  have h4 : mBeg A (RA A) 4 = 1 := rfl
  unfold mBegin mLook
  rw [if_pos h4]
  by_cases c : mBeg A (RA A) 1 < gr3 (mBeg A (RA A) 20) (mBeg A (RA A) 21) (mBeg A (RA A) 22)
  · rw [if_pos c, up_eq]
    exact Or.inr rfl
  · rw [if_neg c]
    by_cases d : (mBeg A (RA A) 20 = mBeg A (RA A) 21 ∧ mBeg A (RA A) 20 = mBeg A (RA A) 22) ∧ mBeg A (RA A) 5 ≤ mBeg A (RA A) 20
    · rw [if_pos d, up_ne (by omega), up_ne (by omega)]
      exact Or.inl h4
    · rw [if_neg d]
      by_cases e : mBeg A (RA A) 5 < gr3 (mBeg A (RA A) 20) (mBeg A (RA A) 21) (mBeg A (RA A) 22)
      · rw [if_pos e, up_ne (by omega)]
        exact Or.inl h4
      · rw [if_neg e]
        exact Or.inl h4
theorem p_begin (h : Rel S) : Pair fX8_begin fX9_begin [] S := by
  obtain ⟨A, m, H, K, V, P, n, hx, hm⟩ := h
  have ok := hx.ai.ok
  have e : (if mBegin A 4 = 2 then (1 : Int) else 0) = mBegin A 4 - 1 := by
    rcases mBegin_4 A with y | y
    · rw [y, if_neg (by omega)]
      rfl
    · rw [y, if_pos rfl]
      rfl
  have x := s_begin hx
  rw [e] at x
  have hb := mBegin_4 A
  exact pair_mk ⟨by omega, by omega⟩ hm x (fun S1 h1 => zz_begin h1 ok)
theorem p_leap (h : Rel S) : Pair fX8_leap fX9_leap [] S := by
  obtain ⟨A, m, H, K, V, P, n, hx, hm⟩ := h
  have ok := hx.ai.ok
  by_cases c : A 4 = 1
  · have hb := nxtW_b A
    exact pair_mk ⟨by omega, by omega⟩ hm (s_leap hx c) (fun S1 h1 => zz_leap h1 ok c)
  · exact pair_mk ⟨by omega, by omega⟩ hm ⟨S, s_leapX hx c, hx, fun _ _ => rfl⟩ (fun S1 h1 => ⟨S1, zz_leapX h1 ok c, h1, FR.rfl'⟩)
theorem p_run (h : Rel S) : Pair fX8_run fX9_run [] S := by
  obtain ⟨A, m, H, K, V, P, n, hx, hm⟩ := h
  have ok := hx.ai.ok
  by_cases c : A 4 = 1
  · have hi := (runF_inv ok.2.2.2.1 1000 A ok.1 ok.2.1 ok.2.2.1 (by have := pot_b ok.2.1; omega)).1.2.2.2
    have hi2 : 0 ≤ (mRun A (RA A)).2 ∧ (mRun A (RA A)).2 ≤ 1000 := hi
    exact pair_mk ⟨by omega, by omega⟩ hm (s_runR hx c) (fun S1 h1 => zz_run h1 ok c)
  · exact pair_mk ⟨by omega, by omega⟩ hm ⟨S, s_runX hx c, hx, fun _ _ => rfl⟩ (fun S1 h1 => ⟨S1, zz_runX h1 ok c, h1, FR.rfl'⟩)
/-! reads -/
theorem run_b (hr : RunR A) {w : Nat} (hw : w < 3) : (0 ≤ A (20 + w) ∧ A (20 + w) ≤ 300) ∧ (0 ≤ A (8 + w) ∧ A (8 + w) ≤ 300) ∧ (0 ≤ A (14 + w) ∧ A (14 + w) ≤ 300) ∧ (0 ≤ A (11 + w) ∧ A (11 + w) ≤ 24000) ∧ (0 ≤ A (17 + w) ∧ A (17 + w) ≤ 299) := by
  have h := hr.2.2.2.2 w hw
  omega
theorem ofW_b (ok : AOk A) (w what : Int) : rng (ofW A w what) := by
  unfold ofW
  by_cases c : 0 ≤ w ∧ w ≤ 2
  · rw [if_neg (fun y => y c)]
    by_cases d : 0 ≤ what ∧ what ≤ 6
    · rw [if_neg (fun y => y d)]
      have hr := run_b ok.2.1 (w := w.toNat) (by omega)
      have q1 := cnt_le (RA A w.toNat) 300
      have q2 := cnt_le (RA A w.toNat) (A (20 + w.toNat)).toNat
      unfold figW
      repeat' split
      all_goals exact ⟨by omega, by omega⟩
    · rw [if_pos d]
      exact ⟨by omega, by omega⟩
  · rw [if_pos c]
    exact ⟨by omega, by omega⟩
theorem p_ofWalker {w what : Int} (hw : rng w) (hx' : rng what) (h : Rel S) : Pair fX8_ofWalker fX9_ofWalker [vI w, vI what] S := by
  obtain ⟨A, m, H, K, V, P, n, hx, hm⟩ := h
  have ok := hx.ai.ok
  exact pair_mk (ofW_b ok w what) hm ⟨S, s_ofWalker hx hw hx', hx, fun _ _ => rfl⟩ (fun S1 h1 => ⟨S1, zz_ofWalker h1 ok hw hx', h1, FR.rfl'⟩)
theorem p_ofStone {w j what : Int} (hw : rng w) (hj : rng j) (hx' : rng what) (h : Rel S) : Pair fX8_ofStone fX9_ofStone [vI w, vI j, vI what] S := by
  obtain ⟨A, m, H, K, V, P, n, hx, hm⟩ := h
  have ok := hx.ai.ok
  by_cases c : (0 ≤ w ∧ w ≤ 2) ∧ 0 ≤ j ∧ j < cnt (RA A w.toNat) 300
  · obtain ⟨k, k1, k2, k3⟩ := cnt_ex (r := RA A w.toNat) (m := 300) (j := j.toNat) (by omega)
    have hb := RA_b ok (w := w.toNat) (k := k) (by omega) k1
    have k4 : (cnt (RA A w.toNat) k : Int) = j := by omega
    by_cases d : 0 ≤ what ∧ what ≤ 1
    · obtain ⟨k', a1, a2, a3, e⟩ := s_ofStone hx c.1 c.2 d
      have ek : k' = k := by
        by_cases y : k' < k
        · have := cnt_lt y a2
          omega
        · by_cases y2 : k < k'
          · have := cnt_lt y2 k2
            omega
          · omega
      subst ek
      have e2 : (if what = 0 then (k' : Int) else if what = 1 then RA A w.toNat k' else -2) = (if what = 0 then (k' : Int) else RA A w.toNat k') := by
        by_cases z : what = 0
        · rw [if_pos z, if_pos z]
        · rw [if_neg z, if_neg z, if_pos (by omega)]
      refine pair_mk (r := if what = 0 then (k' : Int) else RA A w.toNat k') ?_ hm ⟨S, e, hx, fun _ _ => rfl⟩ (fun S1 h1 => ?_)
      · by_cases z : what = 0
        · rw [if_pos z]
          exact ⟨by omega, by omega⟩
        · rw [if_neg z]
          exact hb
      · have := zz_ofStone (what := what) h1 ok c.1 k1 k2 k4 hx'
        rw [e2] at this
        exact this
    · have x := s_ofStoneX hx hw hj hx' (Or.inr d)
      rw [if_neg (fun y => y c)] at x
      refine pair_mk ⟨by omega, by omega⟩ hm ⟨S, x, hx, fun _ _ => rfl⟩ (fun S1 h1 => ?_)
      have := zz_ofStone (what := what) h1 ok c.1 k1 k2 k4 hx'
      rw [if_neg (by omega), if_neg (by omega)] at this
      exact this
  · have x := s_ofStoneX hx hw hj hx' (Or.inl c)
    rw [if_pos c] at x
    exact pair_mk ⟨by omega, by omega⟩ hm ⟨S, x, hx, fun _ _ => rfl⟩ (fun S1 h1 => ⟨S1, zz_ofStoneX h1 ok hw hj c, h1, FR.rfl'⟩)
theorem sumk_b {f : Nat → Int} : ∀ {k : Nat}, k ≤ 300 → (∀ j, j < 300 → 0 ≤ f j ∧ f j ≤ 729) → 0 ≤ sumk f k ∧ sumk f k ≤ 729 * k := by
  intro k
  induction k with
  | zero => intro _ _; exact ⟨Int.le_refl _, Int.le_refl _⟩
  | succ k ih =>
    intro hk h
    have h1 := ih (by omega) h
    have h2 := h k (by omega)
    rw [sumk]
    omega
theorem p_ofRun {what : Int} (hx' : rng what) (h : Rel S) : Pair fX8_ofRun fX9_ofRun [vI what] S := by
  obtain ⟨A, m, H, K, V, P, n, hx, hm⟩ := h
  have ok := hx.ai.ok
  refine pair_mk ?_ hm ⟨S, s_ofRun hx hx', hx, fun _ _ => rfl⟩ (fun S1 h1 => ⟨S1, zz_ofRun h1 ok hx', h1, FR.rfl'⟩)
  have r0 := run_b ok.2.1 (w := 0) (by omega)
  have r1 := run_b ok.2.1 (w := 1) (by omega)
  have r2 := run_b ok.2.1 (w := 2) (by omega)
  have h5 := ok.2.1.1
  have h6 := ok.2.1.2.1
  have h4 := ok.2.2.1.1
  have q1 := cnt_le (MetA A) 300
  have q2 := sumk_b (f := MetA A) (k := 300) (by omega) (fun j hj => ok.2.1.2.2.1 j hj)
  simp only [Nat.add_zero, Nat.reduceAdd] at r0 r1 r2
  unfold figR
  repeat' split
  all_goals exact ⟨by omega, by omega⟩
theorem p_meeting {j what : Int} (hj : rng j) (hx' : rng what) (h : Rel S) : Pair fX8_meeting fX9_meeting [vI j, vI what] S := by
  obtain ⟨A, m, H, K, V, P, n, hx, hm⟩ := h
  have ok := hx.ai.ok
  by_cases c : 0 ≤ j ∧ j < cnt (MetA A) 300
  · obtain ⟨k, k1, k2, k3⟩ := cnt_ex (r := MetA A) (m := 300) (j := j.toNat) (by omega)
    have hb := ok.2.1.2.2.1 k k1
    have k4 : (cnt (MetA A) k : Int) = j := by omega
    by_cases d : 0 ≤ what ∧ what ≤ 1
    · obtain ⟨k', a1, a2, a3, e⟩ := s_meeting hx c d
      have ek : k' = k := by
        by_cases y : k' < k
        · have := cnt_lt y a2
          omega
        · by_cases y2 : k < k'
          · have := cnt_lt y2 k2
            omega
          · omega
      subst ek
      have e2 : (if what = 0 then (k' : Int) else if what = 1 then MetA A k' else -2) = (if what = 0 then (k' : Int) else MetA A k') := by
        by_cases z : what = 0
        · rw [if_pos z, if_pos z]
        · rw [if_neg z, if_neg z, if_pos (by omega)]
      refine pair_mk (r := if what = 0 then (k' : Int) else MetA A k') ?_ hm ⟨S, e, hx, fun _ _ => rfl⟩ (fun S1 h1 => ?_)
      · by_cases z : what = 0
        · rw [if_pos z]
          exact ⟨by omega, by omega⟩
        · rw [if_neg z]
          exact ⟨by omega, by omega⟩
      · have := zz_meeting (what := what) h1 ok k1 k2 k4 hx'
        rw [e2] at this
        exact ⟨S1, this, h1, FR.rfl'⟩
    · have x := s_meetingX hx hj hx' (Or.inr d)
      rw [if_neg (fun y => y c)] at x
      refine pair_mk ⟨by omega, by omega⟩ hm ⟨S, x, hx, fun _ _ => rfl⟩ (fun S1 h1 => ?_)
      have := zz_meeting (what := what) h1 ok k1 k2 k4 hx'
      rw [if_neg (by omega), if_neg (by omega)] at this
      exact ⟨S1, this, h1, FR.rfl'⟩
  · have x := s_meetingX hx hj hx' (Or.inl c)
    rw [if_pos c] at x
    exact pair_mk ⟨by omega, by omega⟩ hm ⟨S, x, hx, fun _ _ => rfl⟩ (fun S1 h1 => ⟨S1, zz_meetingX h1 ok hj c, h1, FR.rfl'⟩)
theorem sumR_b (A : Nat → Int) : 0 ≤ sumR A ∧ sumR A ≤ 900 := by
  have q0 := cnt_le (RA A 0) 300
  have q1 := cnt_le (RA A 1) 300
  have q2 := cnt_le (RA A 2) 300
  unfold sumR
  omega
theorem p_count {what : Int} (hx' : rng what) (h : Rel S) : Pair fX8_count fX9_count [vI what] S := by
  obtain ⟨A, m, H, K, V, P, n, hx, hm⟩ := h
  have ok := hx.ai.ok
  refine pair_mk ?_ hm ⟨S, s_count hx hx', hx, fun _ _ => rfl⟩ (fun S1 h1 => ⟨S1, zz_count h1 ok hx', h1, FR.rfl'⟩)
  have hs := sumR_b A
  have h7 := ok.2.2.2.2.2.1
  have hn := hm.2.2.2.2.1
  have hm6 : m ≤ 6 := by
    obtain ⟨pf, p1, p2, p3, p4, p5⟩ := hm.2.1
    exact p4
  obtain ⟨y0, y1, y2, y3⟩ := ok.1
  unfold cntF
  by_cases c : 2 ≤ what ∧ what ≤ 5
  · rw [if_neg (by omega), if_neg (by omega), if_pos c]
    rcases (show what = 2 ∨ what = 3 ∨ what = 4 ∨ what = 5 by omega) with rfl | rfl | rfl | rfl
    · show rng (A 0); exact ⟨by omega, by omega⟩
    · show rng (A 1); exact ⟨by omega, by omega⟩
    · show rng (A 2); exact ⟨by omega, by omega⟩
    · show rng (A 3); exact ⟨by omega, by omega⟩
  · rw [if_neg c]
    repeat' split
    all_goals exact ⟨by omega, by omega⟩
theorem rwR_ok (ok : AOk A) (key : Int) : 0 ≤ rwR (RA A) key ∧ rwR (RA A) key ≤ 729 := by
  unfold rwR rv
  by_cases c : 0 ≤ key ∧ key < 300
  · rw [if_pos c, if_pos c, if_pos c]
    exact mul3_b (ok.2.2.2.1 0 _ (by omega) (by omega)) (ok.2.2.2.1 1 _ (by omega) (by omega)) (ok.2.2.2.1 2 _ (by omega) (by omega))
  · rw [if_neg c, if_neg c, if_neg c]
    exact ⟨by decide, by decide⟩
theorem rwB_b (ok : AOk A) (lo hi : Int) : 0 ≤ sumk (rwB (RA A) lo hi) 300 ∧ sumk (rwB (RA A) lo hi) 300 ≤ 218700 := by
  have := sumk_b (f := rwB (RA A) lo hi) (k := 300) (by omega) (fun j hj => by
    have := rwR_ok ok (j : Int)
    unfold rwB
    split
    · exact this
    · omega)
  omega
theorem p_walking {what : Int} (hx' : rng what) (h : Rel S) : Pair fX8_walking fX9_walking [vI what] S := by
  obtain ⟨A, m, H, K, V, P, n, hx, hm⟩ := h
  have ok := hx.ai.ok
  refine pair_mk ?_ hm ⟨S, s_walking hx hx', hx, fun _ _ => rfl⟩ (fun S1 h1 => ⟨S1, zz_walking h1 ok hx', h1, FR.rfl'⟩)
  have q1 := cnt_le (shd (RA A) (A 0) (A 1)) 300
  have q2 := rwB_b ok (A 0) (A 1)
  have g1 := gF_b (shd (RA A) (A 0) (A 1)) 300
  have g2 := gB_b (shd (RA A) (A 0) (A 1)) 300
  have g3 := gW_b (shd (RA A) (A 0) (A 1)) 300
  unfold wkF
  repeat' split
  all_goals exact ⟨by omega, by omega⟩
theorem trF_b (ok : AOk A) {s o : Int} (hs : 0 ≤ s ∧ s ≤ 2) (ho : 0 ≤ o ∧ o ≤ 5) {j : Nat} (hj : j = 8 ∨ j = 11) : 0 ≤ trF A s o j + trF A s o (j + 1) + trF A s o (j + 2) ∧ trF A s o j + trF A s o (j + 1) + trF A s o (j + 2) ≤ 72000 := by
  have hr := trF_inv ok.1 ok.2.2.2.1 hs ho
  have r0 := run_b hr (w := 0) (by omega)
  have r1 := run_b hr (w := 1) (by omega)
  have r2 := run_b hr (w := 2) (by omega)
  rcases hj with rfl | rfl
  · simp only [Nat.add_zero, Nat.reduceAdd] at r0 r1 r2 ⊢
    omega
  · simp only [Nat.add_zero, Nat.reduceAdd] at r0 r1 r2 ⊢
    omega
theorem p_runWith {s o what : Int} (hs : rng s) (ho : rng o) (hx' : rng what) (h : Rel S) : Pair fX8_runWith fX9_runWith [vI s, vI o, vI what] S := by
  obtain ⟨A, m, H, K, V, P, n, hx, hm⟩ := h
  have ok := hx.ai.ok
  refine pair_mk ?_ hm (s_runWith hx hs ho hx') (fun S1 h1 => zz_runWith h1 ok hs ho hx')
  unfold rwF
  by_cases c : ((0 ≤ s ∧ s ≤ 2) ∧ 0 ≤ o ∧ o ≤ 5) ∧ 0 ≤ what ∧ what ≤ 1
  · rw [if_pos c]
    have b1 := trF_b ok c.1.1 c.1.2 (j := 8) (Or.inl rfl)
    have b2 := trF_b ok c.1.1 c.1.2 (j := 11) (Or.inr rfl)
    simp only [Nat.reduceAdd] at b1 b2
    split
    · exact ⟨by omega, by omega⟩
    · exact ⟨by omega, by omega⟩
  · rw [if_neg c]
    exact ⟨by omega, by omega⟩
theorem p_cheapest {what : Int} (hx' : rng what) (h : Rel S) : Pair fX8_cheapest fX9_cheapest [vI what] S := by
  obtain ⟨A, m, H, K, V, P, n, hx, hm⟩ := h
  have ok := hx.ai.ok
  refine pair_mk ?_ hm (s_cheapest hx hx') (fun S1 h1 => zz_cheapest h1 ok hx')
  have hl := bK_lt (f := lkF A) (k := 18) (by omega)
  have hb := lkF_b ok.1 ok.2.2.2.1 (k := bK (lkF A) 18) (by omega)
  unfold chF
  repeat' split
  all_goals exact ⟨by omega, by omega⟩
theorem p_lostBy {a b : Int} (ha : rng a) (hb : rng b) (h : Rel S) : Pair fX8_lostBy fX9_lostBy [vI a, vI b] S := by
  obtain ⟨A, m, H, K, V, P, n, hx, hm⟩ := h
  have ok := hx.ai.ok
  refine pair_mk ?_ hm ⟨S, s_lostBy hx ha hb, hx, fun _ _ => rfl⟩ (fun S1 h1 => ⟨S1, zz_lostBy h1 ok ha hb, h1, FR.rfl'⟩)
  unfold lostF
  by_cases c : (0 ≤ a ∧ a ≤ 299) ∧ a ≤ b ∧ b ≤ 299
  · rw [if_pos c]
    have := rwB_b ok (if a < A 0 then A 0 else a) (if A 1 < b then A 1 else b)
    exact ⟨by omega, by omega⟩
  · rw [if_neg c]
    exact ⟨by omega, by omega⟩
/-! texts, undo, slots -/
theorem p_put {u : Nat} (hu : u < 18446744073709551616) (h : Rel S) : Pair fX8_put fX9_put [vJ u] S := by
  obtain ⟨A, m, H, K, V, P, n, hx, hm⟩ := h
  have hn := hm.2.2.2.2.1
  have hb : siF u 8 0 ≤ 8 := by
    rcases siF_b (u := u) (f := 8) (i := 0) rfl with y | y
    · omega
    · exact y.2.1
  by_cases c : siF u 8 0 < 1
  · exact pair_mk ⟨by omega, by omega⟩ hm ⟨S, s_putX hu c, hx, fun _ _ => rfl⟩ (fun S1 h1 => ⟨S1, zz_putX hu c, h1, FR.rfl'⟩)
  · by_cases d : 80 < (n : Int) + siF u 8 0
    · exact pair_mk ⟨by omega, by omega⟩ hm ⟨S, s_putT hx hu (by omega) d, hx, fun _ _ => rfl⟩ (fun S1 h1 => ⟨S1, zz_putT h1 hu (by omega) d, h1, FR.rfl'⟩)
    · exact pair_mk ⟨by omega, by omega⟩ hm (s_put hx hu (by omega) (by omega)) (fun S1 h1 => zz_put h1 hu (by omega) (by omega))
theorem p_wipe (h : Rel S) : Pair fX8_wipe fX9_wipe [] S := by
  obtain ⟨A, m, H, K, V, P, n, hx, hm⟩ := h
  have hn := hm.2.2.2.2.1
  exact pair_mk ⟨by omega, by omega⟩ hm (s_wipe hx) (fun S1 h1 => zz_wipe h1)
theorem p_fault (h : Rel S) : Pair fX8_fault fX9_fault [] S := by
  obtain ⟨A, m, H, K, V, P, n, hx, hm⟩ := h
  have hn := hm.2.2.2.2.1
  refine pair_mk ?_ hm (s_fault hx) (fun S1 h1 => zz_fault h1)
  have := (Tx_bn (P := P) (n := n) (f := 80) (p := 0) (by omega)).1
  unfold fltF
  split
  · exact ⟨by omega, by omega⟩
  · exact ⟨by omega, by omega⟩
theorem crT_len : ∀ (l : List (Int × Int × List (Int × Int × Int))) (A : Nat → Int), (crT l A).1 ≤ l.length := by
  intro l
  induction l with
  | nil => intro A; exact Nat.le_refl _
  | cons o l ih =>
    intro A
    rw [crT]
    split
    · have := ih (crO o A).2
      simp only [List.length_cons]
      omega
    · exact Nat.zero_le _
theorem p_carryOut (h : Rel S) : Pair fX8_carryOut fX9_carryOut [] S := by
  obtain ⟨A, m, H, K, V, P, n, hx, hm⟩ := h
  by_cases c : (Tx P n 80 0).1 = true
  · have h1 := crT_len (Tx P n 80 0).2.2 A
    have h2 := (Tx_bn (P := P) (n := n) (f := 80) (p := 0) (by omega)).2
    exact pair_mk ⟨by omega, by omega⟩ hm (s_carryOut hx c) (fun S1 h1 => zz_carryOut h1 hx.ai c)
  · exact pair_mk ⟨by omega, by omega⟩ hm (s_carryOutX hx c) (fun S1 h1 => zz_carryOutX h1 c)
theorem p_undo (h : Rel S) : Pair fX8_undo fX9_undo [] S := by
  obtain ⟨A, m, H, K, V, P, n, hx, hm⟩ := h
  have hm6 : m ≤ 6 := by
    obtain ⟨pf, p1, p2, p3, p4, p5⟩ := hm.2.1
    exact p4
  by_cases c : m = 0
  · subst c
    exact pair_mk ⟨by omega, by omega⟩ hm ⟨S, s_undo0 hx, hx, fun _ _ => rfl⟩ (fun S1 h1 => ⟨S1, zz_undo0 h1, h1, FR.rfl'⟩)
  · exact pair_mk2 ⟨by omega, by omega⟩ hm (s_undo hx (by omega)) (fun S1 h1 => zz_undo h1 (by omega))
theorem p_save {i : Int} (hi : rng i) (h : Rel S) : Pair fX8_save fX9_save [vI i] S := by
  obtain ⟨A, m, H, K, V, P, n, hx, hm⟩ := h
  have ok := hx.ai.ok
  by_cases c : 0 ≤ i ∧ i ≤ 1
  · obtain ⟨j, rfl⟩ : ∃ j : Nat, i = (j : Int) := ⟨i.toNat, by omega⟩
    have hs := sumR_b A
    exact pair_mk ⟨by omega, by omega⟩ hm (s_save hx (by omega)) (fun S1 h1 => zz_save h1 ok (by omega))
  · exact pair_mk ⟨by omega, by omega⟩ hm ⟨S, s_saveX hi c, hx, fun _ _ => rfl⟩ (fun S1 h1 => ⟨S1, zz_saveX hi c, h1, FR.rfl'⟩)
theorem sumR_c (he : ∀ k, k < 4825 → A' k = A k) : sumR A' = sumR A := by
  unfold sumR
  rw [cnt_same (r := RA A' 0) (r' := RA A 0) (k := 300) (by omega) (fun j hj => he _ (by omega)), cnt_same (r := RA A' 1) (r' := RA A 1) (k := 300) (by omega) (fun j hj => he _ (by omega)), cnt_same (r := RA A' 2) (r' := RA A 2) (k := 300) (by omega) (fun j hj => he _ (by omega))]
theorem p_restore {i : Int} (hi : rng i) (h : Rel S) : Pair fX8_restore fX9_restore [vI i] S := by
  obtain ⟨A, m, H, K, V, P, n, hx, hm⟩ := h
  by_cases c : 0 ≤ i ∧ i ≤ 1
  · obtain ⟨j, rfl⟩ : ∃ j : Nat, i = (j : Int) := ⟨i.toNat, by omega⟩
    obtain ⟨g1, g2, g3⟩ := hx.2.2.2.1 j (by omega)
    rcases g2 with g2 | g2
    · exact pair_mk ⟨by omega, by omega⟩ hm ⟨S, s_restoreN hx (by omega) g2, hx, fun _ _ => rfl⟩ (fun S1 h1 => ⟨S1, zz_restoreN h1 (by omega) g2, h1, FR.rfl'⟩)
    · have hs := sumR_b (V j)
      refine pair_mk2 ⟨by omega, by omega⟩ hm (s_restore hx (by omega) g2) (fun S1 h1 => ?_)
      obtain ⟨S2, A2, e, w1, w2, w3⟩ := zz_restore h1 (by omega) g2 (fun A' he => ((g3 g2).congr he).ok)
      rw [sumR_c w2] at e
      exact ⟨S2, A2, e, w1, w2, w3⟩
  · exact pair_mk ⟨by omega, by omega⟩ hm ⟨S, s_restoreX hi c, hx, fun _ _ => rfl⟩ (fun S1 h1 => ⟨S1, zz_restoreX hi c, h1, FR.rfl'⟩)
end PAIR

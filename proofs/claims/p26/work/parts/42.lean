/-! what the law keeps -/
section LAW2
variable {S S' : MM} {A A' : Nat → Int} {m : Nat} {H : Nat → Nat → Int} {K : Nat → Int} {V : Nat → Nat → Int} {P : Nat → Int} {n : Nat} {R : Nat → Nat → Int}
def Iv (A : Nat → Int) : Prop := (A 4 = 0 → ∀ k, k < 300 → MetA A k = 0) ∧ (A 4 = 1 → A 20 ≤ A 5 ∧ A 21 ≤ A 5 ∧ A 22 ≤ A 5)
def LWs (S : MM) (A : Nat → Int) (m : Nat) (H : Nat → Nat → Int) (K : Nat → Int) (V : Nat → Nat → Int) (P : Nat → Int) (n : Nat) : Prop := XIs S A m H K V P n ∧ Iv A ∧ ∀ j : Nat, j < m → Iv (H j)
def fr (S S' : MM) : Prop := ∀ a, 593 ≤ a → S' a = S a
theorem fr.refl : fr S S := fun _ _ => rfl
theorem fr.trans {S1 : MM} (h : fr S S1) (h2 : fr S1 S') : fr S S' := fun a ha => (h2 a ha).trans (h a ha)
theorem Iv.w (h : Iv A) (h4 : A 4 = 1) {w : Nat} (hw : w < 3) : A (20 + w) ≤ A 5 := by
  obtain ⟨a, b, c⟩ := h.2 h4
  rcases (show w = 0 ∨ w = 1 ∨ w = 2 by omega) with rfl | rfl | rfl
  · exact a
  · exact b
  · exact c
theorem Iv.congr (h : Iv A) (e4 : A' 4 = A 4) (e5 : A' 5 = A 5) (e20 : A' 20 = A 20) (e21 : A' 21 = A 21) (e22 : A' 22 = A 22) (eM : ∀ k, k < 300 → MetA A' k = MetA A k) : Iv A' := by
  refine ⟨fun h4 k hk => ?_, fun h4 => ?_⟩
  · rw [eM k hk]
    exact h.1 (by rw [← e4]; exact h4) k hk
  · rw [e5, e20, e21, e22]
    exact h.2 (by rw [← e4]; exact h4)
theorem mLook_4 : mLook A R 4 = if A 4 = 1 ∧ A 1 < gr3 (A 20) (A 21) (A 22) then 2 else A 4 := by
  unfold mLook
  by_cases h4 : A 4 = 1
  · rw [if_pos h4]
    by_cases h1 : A 1 < gr3 (A 20) (A 21) (A 22)
    · rw [if_pos h1, if_pos ⟨h4, h1⟩, up_eq]
    · rw [if_neg h1, if_neg (c := A 4 = 1 ∧ A 1 < gr3 (A 20) (A 21) (A 22)) (fun q => h1 q.2)]
      split
      · rw [up_ne (by omega), up_ne (by omega)]
      split
      · rw [up_ne (by omega)]
      · rfl
  · rw [if_neg h4, if_neg (fun q => h4 q.1)]
theorem Iv_look (hr : RunR A) (h4 : A 4 ≠ 0) : Iv (mLook A R) := by
  obtain ⟨b0, b1, b2⟩ := hr.b
  have g := gr3_s (A 20) (A 21) (A 22)
  refine ⟨fun h => ?_, fun h => ?_⟩
  · rw [mLook_4] at h
    split at h <;> omega
  · rw [mLook_4] at h
    split at h
    · omega
    next hn =>
      have hno : ¬ A 1 < gr3 (A 20) (A 21) (A 22) := fun q => hn ⟨h, q⟩
      unfold mLook
      rw [if_pos h, if_neg hno]
      split
      next q =>
        rw [up_ne (j := 20) (by omega), up_ne (j := 20) (by omega), up_ne (j := 21) (by omega), up_ne (j := 21) (by omega), up_ne (j := 22) (by omega), up_ne (j := 22) (by omega), up_eq]
        omega
      next q =>
        split
        · rw [up_ne (j := 20) (by omega), up_ne (j := 21) (by omega), up_ne (j := 22) (by omega), up_eq]
          omega
        · omega
theorem Iv_lookN (h : Iv A) (h4 : A 4 ≠ 1) : Iv (mLook A R) := by
  unfold mLook
  rw [if_neg h4]
  exact h
theorem Iv_set {j : Nat} {z : Int} (hj : j < 4) (h : Iv A) : Iv (mSet A j z) := by
  unfold mSet mOvr
  have e : ∀ k, 4 ≤ k → up A j z k = A k := fun k hk => up_ne (by omega)
  rw [e 4 (by omega), e 20 (by omega), e 21 (by omega), e 22 (by omega)]
  split
  next q =>
    refine ⟨fun h4 => ?_, fun h4 => ?_⟩
    · rw [up_eq] at h4
      omega
    · rw [up_eq] at h4
      omega
  next q => exact h.congr (e 4 (by omega)) (e 5 (by omega)) (e 20 (by omega)) (e 21 (by omega)) (e 22 (by omega)) (fun k _ => e _ (by omega))
theorem Iv_lay {w key t : Int} (hw : 0 ≤ w ∧ w ≤ 2) (hk : 0 ≤ key ∧ key ≤ 299) (h : Iv A) : Iv (mLay A w key t) := by
  have e : ∀ k, k < 25 ∨ 925 ≤ k → mLay A w key t k = A k := fun k hk => up_ne (by omega)
  exact h.congr (e 4 (by omega)) (e 5 (by omega)) (e 20 (by omega)) (e 21 (by omega)) (e 22 (by omega)) (fun k _ => e _ (by omega))
theorem RunR.fl {w a b : Int} (hr : RunR A) : RunR (mFl A w a b) := hr.congr (fun k h1 h2 h3 => mFl_lo h2 h3) (fun k h1 h2 => mFl_mt h1 h2)
theorem Iv_take {w a b : Int} (ha : AOk A) (h : Iv A) : Iv (mTake A w a b) := by
  have hr : RunR (mFl A w a b) := RunR.fl ha.2.2.2.2.1
  have e4 : mSlip (mFl A w a b) (RA (mFl A w a b)) 4 = A 4 := (mSlip_k (by omega)).trans (mFl_lo (by omega) (by omega))
  by_cases h0 : A 4 = 0
  · refine Iv_lookN ?_ (by rw [e4]; omega)
    refine ⟨fun _ k hk => ?_, fun h4 => ?_⟩
    · have e : mSlip (mFl A w a b) (RA (mFl A w a b)) (925 + k) = A (925 + k) := (mSlip_k (by omega)).trans (mFl_mt (by omega) (by omega))
      exact e.trans (h.1 h0 k hk)
    · rw [e4] at h4
      omega
  · exact Iv_look (slip_inv hr).1 (by rw [e4]; exact h0)
theorem Iv_dry (h : Iv A) : Iv (mDry A) := h.congr (mDry_k (by omega) (by omega)) (mDry_k (by omega) (by omega)) (mDry_k (by omega) (by omega)) (mDry_k (by omega) (by omega)) (mDry_k (by omega) (by omega)) (fun k _ => mDry_k (by omega) (by omega))
theorem Iv_begin (ha : AOk A) : Iv (mBegin A) := Iv_look (RunR_beg ha.1) (by show (1 : Int) ≠ 0; decide)
theorem Iv_leap (ha : AOk A) (h4 : A 4 = 1) : Iv (mLeap A (RA A)) := by
  have hn := nxtW_b A
  have hsh := nxtW_short ha.1 ha.2.2.2.2.2 h4
  have e4 : mLeapW A (RA A (nxtW A).toNat) (nxtW A).toNat 4 = A 4 := mLeapW_k (by omega) (by omega)
  exact Iv_look (RunR_leapW (by omega) ha.2.2.2.2.1 hsh) (by rw [e4]; omega)
theorem AOk.leap (ha : AOk A) (h4 : A 4 = 1) : AOk (mLeap A (RA A)) := by
  obtain ⟨h1, h2, h3, h5, h6, h7⟩ := ha
  have hl := leap_inv h1 h6 h7 h2 h4
  have e : ∀ k, 25 ≤ k → k < 925 → mLeap A (RA A) k = A k := fun k q1 q2 => mLeap_lo h6 h1.2.1.2 (by omega)
  have eR : ∀ w k : Nat, w < 3 → k < 300 → RA (mLeap A (RA A)) w k = RA A w k := fun w k hw hk => e _ (by omega) (by omega)
  have e7 : mLeap A (RA A) 7 = A 7 := mLeap_lo h6 h1.2.1.2 (by omega)
  refine ⟨h1.leap h6, fun w k hw hk => by rw [eR w k hw hk]; exact h2 w k hw hk, fun w hw => ?_, by rw [e7]; exact h5, hl.1, RunS_mono hl.2 hl.1 (fun _ _ => rfl) (fun u k hu hk hp => by rw [eR u k hu hk]; exact hp)⟩
  have ec := cnt_congr (r := RA (mLeap A (RA A)) w) (r' := RA A w) (m := 300) (fun k hk => by rw [eR w k hw hk])
  rw [ec]
  exact h3 w hw
theorem leap_R (ha : AOk A) {w k : Nat} (hw : w < 3) (hk : k < 300) : RA (mLeap A (RA A)) w k = RA A w k := mLeap_lo ha.2.2.2.2.1 ha.1.2.1.2 (by omega)
theorem mRunF_b (hR : RB R) : ∀ (f : Nat) (A : Nat → Int), StgR A → RunR A → RunS A R → Iv A → Iv (mRunF f A R).1 := by
  intro f
  induction f with
  | zero => intro A _ _ _ hI; exact hI
  | succ f ih =>
    intro A hA hr hs hI
    rw [mRunF]
    by_cases h4 : A 4 = 1
    · rw [if_pos h4]
      have hl := leap_inv hA hr hs hR h4
      have hn := nxtW_b A
      have hsh := nxtW_short hA hs h4
      have e4 : mLeapW A (R (nxtW A).toNat) (nxtW A).toNat 4 = A 4 := mLeapW_k (by omega) (by omega)
      exact ih _ (hA.leap hr) hl.1 hl.2 (Iv_look (RunR_leapW (by omega) hr hsh) (by rw [e4]; omega))
    · rw [if_neg h4]
      exact hI
theorem Iv_run (ha : AOk A) (h : Iv A) : Iv (mRun A (RA A)).1 := mRunF_b ha.2.1 1000 A ha.1 ha.2.2.2.2.1 ha.2.2.2.2.2 h
theorem Iv_lyF {w t : Int} (hw : 0 ≤ w ∧ w ≤ 2) : ∀ (f : Nat) (A : Nat → Int) (key : Int), 0 ≤ key → Iv A → Iv (lyF w t f A key).2 := by
  intro f
  induction f with
  | zero => intro A key _ h; exact h
  | succ f ih =>
    intro A key hk h
    rw [lyF]
    split
    · exact h
    next q =>
      rcases errLay_v (A := A) (w := w) (key := key) (t := t) with ⟨-, -, q2, -⟩ | ⟨q2, -⟩
      · exact ih _ _ (by omega) (Iv_lay hw q2 h)
      · omega
/-! the class's calls -/
theorem LWs.push (h : LWs S A m H K V P n) (hx : XIs S' A' (mM m) (mH m H A) K V P n) (hi : Iv A') : LWs S' A' (mM m) (mH m H A) K V P n := by
  refine ⟨hx, hi, fun j hj => ?_⟩
  unfold mM at hj
  unfold mH
  split
  next h6 =>
    rw [if_pos h6] at hj
    split
    next hm => exact h.2.2 j hm
    next hm => exact h.2.1
  next h6 =>
    rw [if_neg h6] at hj
    have := h.1.m6
    split
    next h5 => exact h.2.2 _ (by omega)
    next h5 => exact h.2.1
theorem LWs.same (h : LWs S A m H K V P n) {P' : Nat → Int} {n' : Nat} (hx : XIs S' A m H K V P' n') : LWs S' A m H K V P' n' := ⟨hx, h.2⟩
theorem mM_pos : 0 < mM m := by
  unfold mM
  split <;> omega
theorem mH_top (h6 : m ≤ 6) : mH m H A (mM m - 1) = A := by
  unfold mH mM
  split
  · rw [if_neg (by omega)]
  · rw [if_neg (by omega)]
theorem o_set {j : Nat} {z : Int} (h : LWs S A m H K V P n) (hj : j < 4) (hz : 0 ≤ z ∧ z ≤ hiS j) : ∃ S', fX8_set [vR 0, vI (j : Int), vI z] S = some (some (vI (A j)), S') ∧ LWs S' (mSet A j z) (mM m) (mH m H A) K V P n ∧ fr S S' := by
  obtain ⟨S', e, x, f⟩ := s_set h.1 (j := (j : Int)) (z := z) (by omega) hz
  rw [Int.toNat_natCast] at e x
  exact ⟨S', e, h.push x (Iv_set hj h.2.1), f⟩
theorem o_stone {w : Nat} {key t : Int} (h : LWs S A m H K V P n) (hw : w < 3) (hk : 0 ≤ key ∧ key ≤ 299) (ht : 1 ≤ t ∧ t ≤ 9) (hroom : cnt (RA A w) 300 < 40 ∨ 0 < RA A w key.toNat) : ∃ S', fX8_stone [vR 0, vI (w : Int), vI key, vI t] S = some (some (vI (RA A w key.toNat)), S') ∧ LWs S' (mLay A w key t) (mM m) (mH m H A) K V P n ∧ fr S S' := by
  have he : errLay A w key t = 0 := by
    unfold errLay
    rw [if_neg (by omega), if_neg (by omega), Int.toNat_natCast, if_pos hroom]
  obtain ⟨S', e, x, f⟩ := s_stone h.1 (w := (w : Int)) (key := key) (t := t) (by omega) (by omega) (by omega) he
  rw [Int.toNat_natCast] at e
  exact ⟨S', e, h.push x (Iv_lay (by omega) hk h.2.1), f⟩
theorem o_stoneT {w : Nat} {key t : Int} (h : LWs S A m H K V P n) (hw : w < 3) (hk : 0 ≤ key ∧ key ≤ 299) (ht : 1 ≤ t ∧ t ≤ 9) (hroom : ¬ (cnt (RA A w) 300 < 40 ∨ 0 < RA A w key.toNat)) : fX8_stone [vR 0, vI (w : Int), vI key, vI t] S = some (some (vI (-4)), S) := by
  have he : errLay A w key t = -4 := by
    unfold errLay
    rw [if_neg (by omega), if_neg (by omega), Int.toNat_natCast, if_neg hroom]
  have e := s_stoneX h.1 (w := (w : Int)) (key := key) (t := t) (by omega) (by omega) (by omega) (by omega)
  rw [he] at e
  exact e
theorem o_flood {w a b : Int} (h : LWs S A m H K V P n) (hw : w = -6 ∨ (0 ≤ w ∧ w ≤ 2)) (ha : 0 ≤ a ∧ a ≤ 299) (hb : a ≤ b ∧ b ≤ 299) : ∃ S', fX8_flood [vR 0, vI w, vI a, vI b] S = some (some (vI ((cnt (nT A w a b 0) 300 : Int) + cnt (nT A w a b 1) 300 + cnt (nT A w a b 2) 300)), S') ∧ LWs S' (mTake A w a b) (mM m) (mH m H A) K V P n ∧ fr S S' := by
  have he : errFl w a b = 0 := by
    unfold errFl
    rw [if_neg (by omega), if_pos (by omega)]
  obtain ⟨S', e, x, f⟩ := s_flood h.1 (w := w) (a := a) (b := b) (by omega) (by omega) (by omega) he
  exact ⟨S', e, h.push x (Iv_take h.1.aok h.2.1), f⟩
theorem o_dry (h : LWs S A m H K V P n) (he : errDry A = 0) : ∃ S', fX8_dry [vR 0] S = some (some (vI ((cnt (tk A 0) 300 : Int) + cnt (tk A 1) 300 + cnt (tk A 2) 300)), S') ∧ LWs S' (mDry A) (mM m) (mH m H A) K V P n ∧ fr S S' := by
  obtain ⟨S', e, x, f⟩ := s_dry h.1 he
  exact ⟨S', e, h.push x (Iv_dry h.2.1), f⟩
theorem o_begin (h : LWs S A m H K V P n) : ∃ S', fX8_begin [vR 0] S = some (some (vI (if mBegin A 4 = 2 then 1 else 0)), S') ∧ LWs S' (mBegin A) (mM m) (mH m H A) K V P n ∧ fr S S' := by
  obtain ⟨S', e, x, f⟩ := s_begin h.1
  exact ⟨S', e, h.push x (Iv_begin h.1.aok), f⟩
theorem o_leap (h : LWs S A m H K V P n) (h4 : A 4 = 1) : ∃ S', fX8_leap [vR 0] S = some (some (vI (nxtW A)), S') ∧ LWs S' (mLeap A (RA A)) (mM m) (mH m H A) K V P n ∧ fr S S' := by
  obtain ⟨S', e, x, f⟩ := s_leap h.1 h4
  exact ⟨S', e, h.push x (Iv_leap h.1.aok h4), f⟩
theorem o_run (h : LWs S A m H K V P n) (h4 : A 4 = 1) : ∃ S', fX8_run [vR 0] S = some (some (vI (mRun A (RA A)).2), S') ∧ LWs S' (mRun A (RA A)).1 (mM m) (mH m H A) K V P n ∧ fr S S' := by
  obtain ⟨S', e, x, f⟩ := s_runR h.1 h4
  exact ⟨S', e, h.push x (Iv_run h.1.aok h.2.1), f⟩
theorem o_undo (h : LWs S A m H K V P n) (hm : 0 < m) : ∃ S', fX8_undo [vR 0] S = some (some (vI ((m : Int) - 1)), S') ∧ LWs S' (H (m - 1)) (m - 1) H K V P n ∧ fr S S' := by
  obtain ⟨S', e, x, f⟩ := s_undo h.1 hm
  exact ⟨S', e, ⟨x, h.2.2 _ (by omega), fun j hj => h.2.2 j (by omega)⟩, f⟩
theorem o_runWith {s o what : Int} (h : LWs S A m H K V P n) (hs : rng s) (ho : rng o) (hx : rng what) : ∃ S', fX8_runWith [vR 0, vI s, vI o, vI what] S = some (some (vI (rwF A s o what)), S') ∧ LWs S' A m H K V P n ∧ fr S S' := by
  obtain ⟨S', e, x, f⟩ := s_runWith h.1 hs ho hx
  exact ⟨S', e, h.same x, f⟩
theorem o_cheapest {what : Int} (h : LWs S A m H K V P n) (hx : rng what) : ∃ S', fX8_cheapest [vR 0, vI what] S = some (some (vI (chF A what)), S') ∧ LWs S' A m H K V P n ∧ fr S S' := by
  obtain ⟨S', e, x, f⟩ := s_cheapest h.1 hx
  exact ⟨S', e, h.same x, f⟩
theorem o_wipe (h : LWs S A m H K V P n) : ∃ S', fX8_wipe [vR 0] S = some (some (vI (n : Int)), S') ∧ LWs S' A m H K V P 0 ∧ fr S S' := by
  obtain ⟨S', e, x, f⟩ := s_wipe h.1
  exact ⟨S', e, h.same x, f⟩
theorem o_fault (h : LWs S A m H K V P n) : ∃ S', fX8_fault [vR 0] S = some (some (vI (fltF P n)), S') ∧ LWs S' A m H K V P n ∧ fr S S' := by
  obtain ⟨S', e, x, f⟩ := s_fault h.1
  exact ⟨S', e, h.same x, f⟩
theorem o_put {u : Nat} (h : LWs S A m H K V P n) (hu : u < 18446744073709551616) (hr : 1 ≤ siF u 8 0) (ht : (n : Int) + siF u 8 0 ≤ 80) : ∃ S', fX8_put [vR 0, vJ u] S = some (some (vI ((n : Int) + siF u 8 0)), S') ∧ LWs S' A m H K V (putP P n u (siF u 8 0).toNat) (n + (siF u 8 0).toNat) ∧ fr S S' := by
  obtain ⟨S', e, x, f⟩ := s_put h.1 hu hr ht
  exact ⟨S', e, h.same x, f⟩
end LAW2

/-! copies of a crossing and of a scene; floods -/
theorem s_crossCopy {S : MM} {c o : Nat} {A : Nat → Int} (hc : crs c) (ho : crs o) (hco : c + 7 < o ∨ o + 7 < c) (h : CrossIs S o A) : ∃ S', fX0_copyFrom [vR c, vR o] S = some (none, S') ∧ CrossIs S' c A ∧ (∀ a, a < c ∨ c + 8 ≤ a → S' a = S a) := by
  obtain ⟨⟨k0, k1, k2, k3, k4, k5, k6, k7⟩, a1, a2, a3, a4, a5, a6, a7⟩ := id hc
  obtain ⟨⟨j0, j1, j2, j3, j4, j5, j6, j7⟩, b1, b2, b3, b4, b5, b6, b7⟩ := id ho
  obtain ⟨g1, g2, g3, ⟨m1, m2, m3⟩, t1, t2, t3, t4, t5⟩ := id h
  have hfb := flg_b h
  have hno : o ≠ c := by omega
  have hM := cnt_le (MetA A) 300
  obtain ⟨T0, hT0⟩ : ∃ T, T = updM (updM (updM (updM (updM S c 0 (S o 0)) c 1 (S o 1)) c 2 (S o 2)) c 3 (S o 3)) c 4 (S o 4) := ⟨_, rfl⟩
  have n0 : T0 c 0 = S o 0 := by rw [hT0]; simp only [updM_eq]; rw [up_ne (by omega), up_ne (by omega), up_ne (by omega), up_ne (by omega), up_eq]
  have n1 : T0 c 1 = S o 1 := by rw [hT0]; simp only [updM_eq]; rw [up_ne (by omega), up_ne (by omega), up_ne (by omega), up_eq]
  have n2 : T0 c 2 = S o 2 := by rw [hT0]; simp only [updM_eq]; rw [up_ne (by omega), up_ne (by omega), up_eq]
  have n3 : T0 c 3 = S o 3 := by rw [hT0]; simp only [updM_eq]; rw [up_ne (by omega), up_eq]
  have n4 : T0 c 4 = (cnt (MetA A) 300 : Int) := by rw [hT0, updM_eq, up_eq]; exact m1
  have nn : ∀ a, a ≠ c → T0 a = S a := fun a ha => by rw [hT0, updM_ne ha, updM_ne ha, updM_ne ha, updM_ne ha, updM_ne ha]
  obtain ⟨S1, e1, d1, v1⟩ := s_copyRow (S := T0) (i := o + 1) (j := c + 1) (n := (cnt (MetA A) 300 : Int)) j1 k1 ⟨by omega, by omega⟩
  have n41 : S1 c 4 = (cnt (MetA A) 300 : Int) := by rw [d1 c (by omega)]; exact n4
  obtain ⟨S2, e2, d2, v2⟩ := s_copyRow (S := S1) (i := o + 2) (j := c + 2) (n := (cnt (MetA A) 300 : Int)) j2 k2 ⟨by omega, by omega⟩
  obtain ⟨S3, e3, d3, v3⟩ := s_copyRow (S := S2) (i := o + 3) (j := c + 3) (n := 3) j3 k3 ⟨by omega, by omega⟩
  obtain ⟨S4, e4, d4, v4⟩ := s_copyRow (S := S3) (i := o + 4) (j := c + 4) (n := 3) j4 k4 ⟨by omega, by omega⟩
  obtain ⟨S5, e5, d5, v5⟩ := s_copyRow (S := S4) (i := o + 5) (j := c + 5) (n := 3) j5 k5 ⟨by omega, by omega⟩
  obtain ⟨S6, e6, d6, v6⟩ := s_copyRow (S := S5) (i := o + 6) (j := c + 6) (n := 3) j6 k6 ⟨by omega, by omega⟩
  obtain ⟨S7, e7, d7, v7⟩ := s_copyRow (S := S6) (i := o + 7) (j := c + 7) (n := 3) j7 k7 ⟨by omega, by omega⟩
  have hne : ∀ a, (a < c ∨ c + 8 ≤ a) → S7 a = S a := fun a ha => by rw [d7 a (by omega), d6 a (by omega), d5 a (by omega), d4 a (by omega), d3 a (by omega), d2 a (by omega), d1 a (by omega), nn a (by omega)]
  have hc7 : S7 c = T0 c := by rw [d7 c (by omega), d6 c (by omega), d5 c (by omega), d4 c (by omega), d3 c (by omega), d2 c (by omega), d1 c (by omega)]
  have w1 : ∀ y : Nat, y < cnt (MetA A) 300 → S7 (c + 1) y = S (o + 1) y := by
    intro y hy
    rw [d7 _ (by omega), d6 _ (by omega), d5 _ (by omega), d4 _ (by omega), d3 _ (by omega), d2 _ (by omega), v1 (by omega), if_pos ⟨by omega, by omega, by omega⟩, nn _ (by omega)]
  have w2 : ∀ y : Nat, y < cnt (MetA A) 300 → S7 (c + 2) y = S (o + 2) y := by
    intro y hy
    rw [d7 _ (by omega), d6 _ (by omega), d5 _ (by omega), d4 _ (by omega), d3 _ (by omega), v2 (by omega), if_pos ⟨by omega, by omega, by omega⟩, d1 _ (by omega), nn _ (by omega)]
  have w3 : ∀ y : Nat, y < 3 → S7 (c + 3) y = S (o + 3) y := by
    intro y hy
    rw [d7 _ (by omega), d6 _ (by omega), d5 _ (by omega), d4 _ (by omega), v3 (by omega), if_pos ⟨by omega, by omega, by omega⟩, d2 _ (by omega), d1 _ (by omega), nn _ (by omega)]
  have w4 : ∀ y : Nat, y < 3 → S7 (c + 4) y = S (o + 4) y := by
    intro y hy
    rw [d7 _ (by omega), d6 _ (by omega), d5 _ (by omega), v4 (by omega), if_pos ⟨by omega, by omega, by omega⟩, d3 _ (by omega), d2 _ (by omega), d1 _ (by omega), nn _ (by omega)]
  have w5 : ∀ y : Nat, y < 3 → S7 (c + 5) y = S (o + 5) y := by
    intro y hy
    rw [d7 _ (by omega), d6 _ (by omega), v5 (by omega), if_pos ⟨by omega, by omega, by omega⟩, d4 _ (by omega), d3 _ (by omega), d2 _ (by omega), d1 _ (by omega), nn _ (by omega)]
  have w6 : ∀ y : Nat, y < 3 → S7 (c + 6) y = S (o + 6) y := by
    intro y hy
    rw [d7 _ (by omega), v6 (by omega), if_pos ⟨by omega, by omega, by omega⟩, d5 _ (by omega), d4 _ (by omega), d3 _ (by omega), d2 _ (by omega), d1 _ (by omega), nn _ (by omega)]
  have w7 : ∀ y : Nat, y < 3 → S7 (c + 7) y = S (o + 7) y := by
    intro y hy
    rw [v7 (by omega), if_pos ⟨by omega, by omega, by omega⟩, d6 _ (by omega), d5 _ (by omega), d4 _ (by omega), d3 _ (by omega), d2 _ (by omega), d1 _ (by omega), nn _ (by omega)]
  refine ⟨S7, ?_, ⟨?_, by rw [hc7, n2]; exact g2, by rw [hc7, n3]; exact g3, ⟨by rw [hc7]; exact n4, ?_, ?_⟩, fun y hy => by rw [w3 y hy]; exact t1 y hy, fun y hy => by rw [w4 y hy]; exact t2 y hy, fun y hy => by rw [w5 y hy]; exact t3 y hy, fun y hy => by rw [w6 y hy]; exact t4 y hy, fun y hy => by rw [w7 y hy]; exact t5 y hy⟩, hne⟩
  · rw [uX0_copyFrom]
    simp (disch := omega) only [eX0_copyFrom_0, eX0_copyFrom_1, eX0_copyFrom_2, eX0_copyFrom_5, eX0_copyFrom_8, eX0_copyFrom_9, eX0_copyFrom_10, eX0_copyFrom_13, eX0_copyFrom_16, eX0_copyFrom_17, eX0_copyFrom_18, eX0_copyFrom_21, eX0_copyFrom_24, eX0_copyFrom_25, eX0_copyFrom_26, eX0_copyFrom_29, eX0_copyFrom_32, eX0_copyFrom_33, eX0_copyFrom_34, eX0_copyFrom_37, eX0_copyFrom_40, eX0_copyFrom_41, eX0_copyFrom_44, eX0_copyFrom_45, eX0_copyFrom_48, eX0_copyFrom_49, eX0_copyFrom_52, eX0_copyFrom_55, eX0_copyFrom_56, eX0_copyFrom_59, eX0_copyFrom_60, eX0_copyFrom_63, eX0_copyFrom_64, eX0_copyFrom_67, eX0_copyFrom_70, eX0_copyFrom_71, eX0_copyFrom_74, eX0_copyFrom_75, eX0_copyFrom_78, eX0_copyFrom_79, eX0_copyFrom_82, eX0_copyFrom_83, eX0_copyFrom_86, eX0_copyFrom_87, eX0_copyFrom_90, eX0_copyFrom_91, eX0_copyFrom_94, eX0_copyFrom_95, eX0_copyFrom_98, eX0_copyFrom_99, eX0_copyFrom_102, eX0_copyFrom_103, eX0_copyFrom_106, eX0_copyFrom_107, eX0_copyFrom_110, eX0_copyFrom_111, eX0_copyFrom_114, eX0_copyFrom_115, eX0_copyFrom_118, eX0_copyFrom_119, eX0_copyFrom_122, eX0_copyFrom_123, eX0_copyFrom_126, eX0_copyFrom_127, eX0_copyFrom_130, if_pos, if_neg, if_true, if_false, Option.bind_some, Option.toList_some, Option.toList_none, List.cons_append, List.nil_append, updM_ne hno]
    rw [← hT0]
    simp (disch := omega) only [eX0_copyFrom_0, eX0_copyFrom_1, eX0_copyFrom_2, eX0_copyFrom_5, eX0_copyFrom_8, eX0_copyFrom_9, eX0_copyFrom_10, eX0_copyFrom_13, eX0_copyFrom_16, eX0_copyFrom_17, eX0_copyFrom_18, eX0_copyFrom_21, eX0_copyFrom_24, eX0_copyFrom_25, eX0_copyFrom_26, eX0_copyFrom_29, eX0_copyFrom_32, eX0_copyFrom_33, eX0_copyFrom_34, eX0_copyFrom_37, eX0_copyFrom_40, eX0_copyFrom_41, eX0_copyFrom_44, eX0_copyFrom_45, eX0_copyFrom_48, eX0_copyFrom_49, eX0_copyFrom_52, eX0_copyFrom_55, eX0_copyFrom_56, eX0_copyFrom_59, eX0_copyFrom_60, eX0_copyFrom_63, eX0_copyFrom_64, eX0_copyFrom_67, eX0_copyFrom_70, eX0_copyFrom_71, eX0_copyFrom_74, eX0_copyFrom_75, eX0_copyFrom_78, eX0_copyFrom_79, eX0_copyFrom_82, eX0_copyFrom_83, eX0_copyFrom_86, eX0_copyFrom_87, eX0_copyFrom_90, eX0_copyFrom_91, eX0_copyFrom_94, eX0_copyFrom_95, eX0_copyFrom_98, eX0_copyFrom_99, eX0_copyFrom_102, eX0_copyFrom_103, eX0_copyFrom_106, eX0_copyFrom_107, eX0_copyFrom_110, eX0_copyFrom_111, eX0_copyFrom_114, eX0_copyFrom_115, eX0_copyFrom_118, eX0_copyFrom_119, eX0_copyFrom_122, eX0_copyFrom_123, eX0_copyFrom_126, eX0_copyFrom_127, eX0_copyFrom_130, if_pos, if_neg, if_true, if_false, Option.bind_some, Option.toList_some, Option.toList_none, List.cons_append, List.nil_append, n4, e1, n41, e2, e3, e4, e5, e6, e7]
  · unfold flg
    rw [hc7, n0, n1]
    exact g1
  · exact fun k hk hp => by rw [w1 _ (cnt_lt hk hp)]; exact m2 k hk hp
  · exact fun k hk hp => by rw [w2 _ (cnt_lt hk hp)]; exact m3 k hk hp
theorem s_sceneCopy {S : MM} {s o : Nat} {A : Nat → Int} (hs : scnF s) (ho : scnF o) (hso : s + 63 < o ∨ o + 63 < s) (h4 : S (s + 15) 0 = 4) (h : SceneIs S o A) : ∃ S', fX6_copyFrom [vR s, vR o] S = some (none, S') ∧ SceneIs S' s A ∧ (∀ a, a < s ∨ s + 64 ≤ a → S' a = S a) := by
  obtain ⟨k0, ht, hv, hd, hc⟩ := hs
  obtain ⟨j0, ot, ov, od, oc⟩ := ho
  obtain ⟨c0, -⟩ := id hc.1
  obtain ⟨t0, -⟩ := id ht
  obtain ⟨v0, -⟩ := id hv
  obtain ⟨d0, -⟩ := id hd
  obtain ⟨h1, h2, h3, hF, h5, h6, h7, h8⟩ := id h
  obtain ⟨S1, e1, g1, f1⟩ := s_setCopy (S := S) ht ot (by omega)
  obtain ⟨S2, e2, -, g2, f2⟩ := s_riverCopy (S := S1) hv ov (by omega) ((h3.rows (fun a q1 q2 => f1 a (by omega))).sz)
  have hF2 : FloodsIs S2 (o + 13) (A 7).toNat (TA A) := hF.rows (fun a q1 q2 => by rw [f2 a (by omega), f1 a (by omega)])
  obtain ⟨S3, e3, g3, f3⟩ := s_floodsCopy (S := S2) hd od (by omega) hF2.2.2.2.2.1 (by show S2 (s + 15) 0 = 4; rw [f2 _ (by omega), f1 _ (by omega)]; exact h4)
  obtain ⟨S4, e4, g4, f4⟩ := s_crossCopy (S := S3) hc oc (by omega) (h6.rows (fun a q1 q2 => by rw [f3 a (by omega), f2 a (by omega), f1 a (by omega)]))
  refine ⟨S4, ?_, ⟨fun j hj => ?_, h2, ?_, ?_, h5, g4, h7, h8⟩, fun a ha => by rw [f4 a (by omega), f3 a (by omega), f2 a (by omega), f1 a (by omega)]⟩
  · rw [uX6_copyFrom]
    simp (disch := omega) only [eX6_copyFrom_0, eX6_copyFrom_1n, eX6_copyFrom_1r, eX6_copyFrom_4, eX6_copyFrom_5, eX6_copyFrom_6, eX6_copyFrom_9, eX6_copyFrom_10, eX6_copyFrom_13, eX6_copyFrom_16, eX6_copyFrom_17, eX6_copyFrom_20, eX6_copyFrom_21, eX6_copyFrom_24, eX6_copyFrom_27, eX6_copyFrom_28, eX6_copyFrom_31, eX6_copyFrom_32, eX6_copyFrom_35, eX6_copyFrom_38, eX6_copyFrom_39, eX6_copyFrom_42, eX6_copyFrom_43, eX6_copyFrom_46, eX6_copyFrom_49, if_pos, if_neg, if_true, if_false, Option.bind_some, Option.toList_some, Option.toList_none, List.cons_append, List.nil_append, e1, e2, e3, e4]
  · rw [f4 _ (by omega), f3 _ (by omega), f2 _ (by omega), g1 j hj]
    exact h1 j hj
  · exact (g2 _ (h3.rows (fun a q1 q2 => f1 a (by omega)))).rows (fun a q1 q2 => by rw [f4 a (by omega), f3 a (by omega)])
  · exact (g3 _ _ hF2).rows (fun a q1 q2 => f4 a (by omega))
theorem RiverIs.set {S T : MM} {v u : Nat} {P : Nat → Nat → Int} {r : Nat → Int} (h : RiverIs S v P) (hu : u < 3) (hT : ∀ a, v < a → a < v + 10 → (a < v + 1 + 3 * u ∨ v + 4 + 3 * u ≤ a) → T a = S a) (hp : PathIs T (v + 1 + 3 * u) r) : RiverIs T v (fun x => if x = u then r else P x) := by
  obtain ⟨h0, h1, h2⟩ := h
  rcases (show u = 0 ∨ u = 1 ∨ u = 2 by omega) with rfl | rfl | rfl
  · exact ⟨hp, h1.rows (by rw [hT _ (by omega) (by omega) (by omega)]) (hT _ (by omega) (by omega) (by omega)) (hT _ (by omega) (by omega) (by omega)), h2.rows (by rw [hT _ (by omega) (by omega) (by omega)]) (hT _ (by omega) (by omega) (by omega)) (hT _ (by omega) (by omega) (by omega))⟩
  · exact ⟨h0.rows (by rw [hT _ (by omega) (by omega) (by omega)]) (hT _ (by omega) (by omega) (by omega)) (hT _ (by omega) (by omega) (by omega)), hp, h2.rows (by rw [hT _ (by omega) (by omega) (by omega)]) (hT _ (by omega) (by omega) (by omega)) (hT _ (by omega) (by omega) (by omega))⟩
  · exact ⟨h0.rows (by rw [hT _ (by omega) (by omega) (by omega)]) (hT _ (by omega) (by omega) (by omega)) (hT _ (by omega) (by omega) (by omega)), h1.rows (by rw [hT _ (by omega) (by omega) (by omega)]) (hT _ (by omega) (by omega) (by omega)) (hT _ (by omega) (by omega) (by omega)), hp⟩
theorem FloodsIs.last {S S' : MM} {d m q : Nat} {T : Nat → Nat → Nat → Int} {R : Nat → Nat → Int} (h : FloodsIs S d m T) (hm : 0 < m) (hq : q = ((S (d + 2) 1).toNat + 4 - m + (m - 1)) % 4) (hR : RiverIs S' (d + 3 + 10 * q) R) (he : ∀ a, d + 2 ≤ a → a < d + 43 → (a ≤ d + 3 + 10 * q ∨ d + 13 + 10 * q ≤ a) → S' a = S a) : FloodsIs S' d m (fun j => if j = m - 1 then R else T j) := by
  obtain ⟨h1, h2, h3, h4, h5, h6⟩ := h
  have e := he (d + 2) (by omega) (by omega) (by omega)
  refine ⟨by rw [e]; exact h1, by rw [e]; exact h2, by rw [e]; exact h3, h4, fun k hk => ?_, fun j hj => ?_⟩
  · by_cases z : k = q
    · rw [z]
      exact hR.sz
    · exact (h5 k hk).rows (fun a q1 q2 => he a (by omega) (by omega) (by omega))
  · rw [e]
    by_cases z : j = m - 1
    · simp only [if_pos z]
      rw [z, ← hq]
      exact hR
    · simp only [if_neg z]
      have hj2 := h6 j hj
      have hlt : ((S (d + 2) 1).toNat + 4 - m + j) % 4 < 4 := Nat.mod_lt _ (by omega)
      have hne : ((S (d + 2) 1).toNat + 4 - m + j) % 4 ≠ q := by omega
      exact hj2.rows (fun a q1 q2 => he a (by omega) (by omega) (by omega))
def nR (A : Nat → Int) (w a b : Int) (u : Nat) : Nat → Int := if w = -6 ∨ w = (u : Int) then mOut (RA A u) a b else RA A u
def nT (A : Nat → Int) (w a b : Int) (u : Nat) : Nat → Int := if w = -6 ∨ w = (u : Int) then mIn (RA A u) a b else fun _ => 0
def fl0 (A : Nat → Int) : Nat := if A 7 < 4 then (A 7).toNat else 3
def mFl (A : Nat → Int) (w a b : Int) : Nat → Int := fun k => if k = 7 then (fl0 A : Int) + 1 else if k < 25 then A k else if k < 925 then nR A w a b ((k - 25) / 300) ((k - 25) % 300) else if k < 1225 then A k else if k < 1225 + 900 * fl0 A then (if A 7 < 4 then A k else A (k + 900)) else if k < 2125 + 900 * fl0 A then nT A w a b ((k - 1225 - 900 * fl0 A) / 300) ((k - 1225 - 900 * fl0 A) % 300) else A k
def mTake (A : Nat → Int) (w a b : Int) : Nat → Int := mLook (mSlip (mFl A w a b) (RA (mFl A w a b))) (RA (mFl A w a b))
section FL
variable {S : MM} {s : Nat} {A : Nat → Int} {w a b : Int}
theorem mFl_lo {k : Nat} (h : k < 25) (h7 : k ≠ 7) : mFl A w a b k = A k := by
  unfold mFl
  rw [if_neg h7, if_pos h]
theorem mFl_mt {k : Nat} (h : 925 ≤ k) (h2 : k < 1225) : mFl A w a b k = A k := by
  unfold mFl
  rw [if_neg (by omega), if_neg (by omega), if_neg (by omega), if_pos h2]
theorem mFl_R {u k : Nat} (hu : u < 3) (hk : k < 300) : RA (mFl A w a b) u k = nR A w a b u k := by
  show mFl A w a b (25 + 300 * u + k) = _
  unfold mFl
  rw [if_neg (by omega), if_neg (by omega), if_pos (by omega), show (25 + 300 * u + k - 25) / 300 = u by omega, show (25 + 300 * u + k - 25) % 300 = k by omega]
theorem mFl_T {j u k : Nat} (hj : j < fl0 A) (hu : u < 3) (hk : k < 300) : TA (mFl A w a b) j u k = if A 7 < 4 then TA A j u k else TA A (j + 1) u k := by
  show mFl A w a b (1225 + 900 * j + 300 * u + k) = _
  unfold mFl
  rw [if_neg (by omega), if_neg (by omega), if_neg (by omega), if_neg (by omega), if_pos (by omega)]
  unfold TA
  rw [show 1225 + 900 * j + 300 * u + k + 900 = 1225 + 900 * (j + 1) + 300 * u + k by omega]
theorem mFl_N {u k : Nat} (hu : u < 3) (hk : k < 300) : TA (mFl A w a b) (fl0 A) u k = nT A w a b u k := by
  show mFl A w a b (1225 + 900 * fl0 A + 300 * u + k) = _
  unfold mFl
  rw [if_neg (by omega), if_neg (by omega), if_neg (by omega), if_neg (by omega), if_neg (by omega), if_pos (by omega), show (1225 + 900 * fl0 A + 300 * u + k - 1225 - 900 * fl0 A) / 300 = u by omega, show (1225 + 900 * fl0 A + 300 * u + k - 1225 - 900 * fl0 A) % 300 = k by omega]
theorem l_take (hs : scnF s) {q : Nat} (hq : riv q) (hsq : s + 15 < q) {P Q : Nat → Nat → Int} {u : Nat} (hu : u < 3) (hP : RiverIs S (s + 3) P) (hQ : RiverIs S q Q) (hz : cnt (Q u) 300 = 0) (ha : 0 ≤ a ∧ a ≤ 299) (hb : 0 ≤ b ∧ b ≤ 299) (hw : w = -6 ∨ (0 ≤ w ∧ w ≤ 2)) : ∃ S', rn xX6_takeAway (19, [some (vR s), some (vI w), some (vI a), some (vI b), some (vR q), some (vI u)], [], S) = rn xX6_takeAway (19, [some (vR s), some (vI w), some (vI a), some (vI b), some (vR q), some (vI (u + 1))], [], S') ∧ RiverIs S' (s + 3) (fun x => if x = u then (if w = -6 ∨ w = (u : Int) then mOut (P u) a b else P u) else P x) ∧ RiverIs S' q (fun x => if x = u then (if w = -6 ∨ w = (u : Int) then mIn (P u) a b else Q u) else Q x) ∧ (∀ c, (c ≤ s + 3 ∨ s + 13 ≤ c) → (c ≤ q ∨ q + 10 ≤ c) → S' c = S c) := by
  obtain ⟨k0, ht, hv, hd, hc⟩ := hs
  obtain ⟨v0, -⟩ := id hv
  obtain ⟨q0, -⟩ := id hq
  have e1 := s_pathOf (S := S) (w := (u : Int)) hv.1 (by omega)
  have e2 := s_pathOf (S := S) (w := (u : Int)) hq.1 (by omega)
  have hp := riv_pw (w := (u : Int)) hv (by omega)
  have ho := riv_pw (w := (u : Int)) hq (by omega)
  have p1 : pw (s + 3) (u : Int) = s + 3 + 1 + 3 * u := by unfold pw; rw [Int.toNat_natCast]
  have p2 : pw q (u : Int) = q + 1 + 3 * u := by unfold pw; rw [Int.toNat_natCast]
  have hPu := hP.pw (w := (u : Int)) (by omega)
  have hQu := hQ.pw (w := (u : Int)) (by omega)
  rw [Int.toNat_natCast] at hPu hQu
  rw [p1] at e1 hp hPu
  rw [p2] at e2 ho hQu
  obtain ⟨pk, -⟩ := id hp
  obtain ⟨ok, -⟩ := id ho
  have c1 : ((u : Int) + 1) = ((u + 1 : Nat) : Int) := by omega
  by_cases z : w = -6 ∨ w = (u : Int)
  · obtain ⟨T, f1, f2, f3, f4⟩ := s_moveTo (S := S) hp ho (by omega) hPu (by rw [hQu.1, hz]; rfl) ha hb
    refine ⟨T, ?_, ?_, ?_, fun c y1 y2 => f4 c (by omega) (by omega) (by omega) (by omega) (by omega) (by omega)⟩
    · rw [eX6_takeAway_19]
      by_cases y : w = -6
      · simp (disch := omega) only [eX6_takeAway_0, eX6_takeAway_1, eX6_takeAway_4, eX6_takeAway_7, eX6_takeAway_9, eX6_takeAway_11n, eX6_takeAway_11r, eX6_takeAway_14, eX6_takeAway_15, eX6_takeAway_16, eX6_takeAway_17, eX6_takeAway_21, eX6_takeAway_22, eX6_takeAway_25, eX6_takeAway_26, eX6_takeAway_28, eX6_takeAway_31, eX6_takeAway_32, eX6_takeAway_34, eX6_takeAway_37, eX6_takeAway_38, eX6_takeAway_41, eX6_takeAway_43, eX6_takeAway_46, eX6_takeAway_48, eX6_takeAway_50, eX6_takeAway_53, eX6_takeAway_54, eX6_takeAway_55, eX6_takeAway_58, eX6_takeAway_61, eX6_takeAway_64, eX6_takeAway_65, eX6_takeAway_68, eX6_takeAway_69, eX6_takeAway_72, eX6_takeAway_75, eX6_takeAway_76, eX6_takeAway_79, eX6_takeAway_80, eX6_takeAway_83, eX6_takeAway_84, eX6_takeAway_87, eX6_takeAway_88, eX6_takeAway_91, eX6_takeAway_94, eX6_takeAway_96, eX6_takeAway_99, if_pos, if_neg, if_true, if_false, Option.bind_some, Option.toList_some, Option.toList_none, List.cons_append, List.nil_append, e1, e2, f1]
      · have y2 : w = (u : Int) := by omega
        simp (disch := omega) only [eX6_takeAway_0, eX6_takeAway_1, eX6_takeAway_4, eX6_takeAway_7, eX6_takeAway_9, eX6_takeAway_11n, eX6_takeAway_11r, eX6_takeAway_14, eX6_takeAway_15, eX6_takeAway_16, eX6_takeAway_17, eX6_takeAway_21, eX6_takeAway_22, eX6_takeAway_25, eX6_takeAway_26, eX6_takeAway_28, eX6_takeAway_31, eX6_takeAway_32, eX6_takeAway_34, eX6_takeAway_37, eX6_takeAway_38, eX6_takeAway_41, eX6_takeAway_43, eX6_takeAway_46, eX6_takeAway_48, eX6_takeAway_50, eX6_takeAway_53, eX6_takeAway_54, eX6_takeAway_55, eX6_takeAway_58, eX6_takeAway_61, eX6_takeAway_64, eX6_takeAway_65, eX6_takeAway_68, eX6_takeAway_69, eX6_takeAway_72, eX6_takeAway_75, eX6_takeAway_76, eX6_takeAway_79, eX6_takeAway_80, eX6_takeAway_83, eX6_takeAway_84, eX6_takeAway_87, eX6_takeAway_88, eX6_takeAway_91, eX6_takeAway_94, eX6_takeAway_96, eX6_takeAway_99, if_pos, if_neg, if_true, if_false, Option.bind_some, Option.toList_some, Option.toList_none, List.cons_append, List.nil_append, e1, e2, f1]
    · simp only [if_pos z]
      exact hP.set hu (fun c y1 y2 y3 => f4 c (by omega) (by omega) (by omega) (by omega) (by omega) (by omega)) f2
    · simp only [if_pos z]
      exact hQ.set hu (fun c y1 y2 y3 => f4 c (by omega) (by omega) (by omega) (by omega) (by omega) (by omega)) f3
  · refine ⟨S, ?_, ?_, ?_, fun _ _ _ => rfl⟩
    · rw [eX6_takeAway_19]
      simp (disch := omega) only [eX6_takeAway_0, eX6_takeAway_1, eX6_takeAway_4, eX6_takeAway_7, eX6_takeAway_9, eX6_takeAway_11n, eX6_takeAway_11r, eX6_takeAway_14, eX6_takeAway_15, eX6_takeAway_16, eX6_takeAway_17, eX6_takeAway_21, eX6_takeAway_22, eX6_takeAway_25, eX6_takeAway_26, eX6_takeAway_28, eX6_takeAway_31, eX6_takeAway_32, eX6_takeAway_34, eX6_takeAway_37, eX6_takeAway_38, eX6_takeAway_41, eX6_takeAway_43, eX6_takeAway_46, eX6_takeAway_48, eX6_takeAway_50, eX6_takeAway_53, eX6_takeAway_54, eX6_takeAway_55, eX6_takeAway_58, eX6_takeAway_61, eX6_takeAway_64, eX6_takeAway_65, eX6_takeAway_68, eX6_takeAway_69, eX6_takeAway_72, eX6_takeAway_75, eX6_takeAway_76, eX6_takeAway_79, eX6_takeAway_80, eX6_takeAway_83, eX6_takeAway_84, eX6_takeAway_87, eX6_takeAway_88, eX6_takeAway_91, eX6_takeAway_94, eX6_takeAway_96, eX6_takeAway_99, if_pos, if_neg, if_true, if_false, Option.bind_some, Option.toList_some, Option.toList_none, List.cons_append, List.nil_append]
    · refine hP.congr (fun x k hx hk => ?_)
      simp only [if_neg z]
      split
      · next y => rw [y]
      · rfl
    · refine hQ.congr (fun x k hx hk => ?_)
      simp only [if_neg z]
      split
      · next y => rw [y]
      · rfl
theorem RunS_mono {A' : Nat → Int} {R R' : Nat → Nat → Int} (h : RunS A R) (hr : RunR A) (e : ∀ k, (k = 1 ∨ k = 4 ∨ k = 5 ∨ (20 ≤ k ∧ k < 23)) → A' k = A k) (hpos : ∀ u k, u < 3 → k < 300 → 0 < R u k → 0 < R' u k) : RunS A' R' := by
  obtain ⟨g1, g2, g3⟩ := h
  unfold RunS
  rw [e 4 (by omega), e 1 (by omega), e 5 (by omega)]
  refine ⟨g1, fun q => ⟨fun u hu => ?_, ?_⟩, fun q u hu => ?_⟩
  · have hb := (hr.2.2.2.2 u hu).1
    have := (g2 q).1 u hu
    rw [e _ (by omega)]
    exact ⟨this.1, this.2.1, hpos u _ hu (by omega) this.2.2⟩
  · obtain ⟨u, hu, hlt⟩ := (g2 q).2
    exact ⟨u, hu, by rw [e _ (by omega)]; exact hlt⟩
  · have hb := (hr.2.2.2.2 u hu).1
    rw [e _ (by omega)]
    by_cases z : A (20 + u) = 300
    · exact Or.inl z
    · rcases g3 q u hu with y | y
      · exact Or.inl y
      · exact Or.inr (hpos u _ hu (by omega) y)
end FL

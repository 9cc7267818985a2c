/-! the law's texts: typing; what the text says -/
section LAW9
variable {S S' : MM} {A A' : Nat → Int} {m : Nat} {H : Nat → Nat → Int} {K : Nat → Int} {V : Nat → Nat → Int} {P : Nat → Int} {n : Nat}
theorem sh8 {u : Nat} {c : Int} (hu : u < 72057594037927936) (hc : 0 ≤ c ∧ c < 256) : (u * 2 ^ (8 : Int).toNat % 18446744073709551616 ||| (c % 18446744073709551616).toNat) = u * 256 + c.toNat := by
  have e1 : u * 2 ^ (8 : Int).toNat = 2 ^ 8 * u := by
    rw [show (8 : Int).toNat = 8 from rfl, Nat.mul_comm]
  have e2 : (c % 18446744073709551616).toNat = c.toNat := by omega
  have e3 : 2 ^ 8 * u % 18446744073709551616 = 2 ^ 8 * u := Nat.mod_eq_of_lt (by omega)
  rw [e1, e2, e3, ← Nat.two_pow_add_eq_or_of_lt (show c.toNat < 2 ^ 8 by omega) u]
  omega
section TYPE
variable {c1 c2 c3 c4 c5 c6 c7 c8 : Int}
theorem l_ty2 {u : Nat} (hu : u < 72057594037927936) (hc : 0 < c2 ∧ c2 < 256) : rn xL_type (4, [some (vR 0), some (vI c1), some (vI c2), some (vI c3), some (vI c4), some (vI c5), some (vI c6), some (vI c7), some (vI c8), some (vJ u), none], [], S) = rn xL_type (18, [some (vR 0), some (vI c1), some (vI c2), some (vI c3), some (vI c4), some (vI c5), some (vI c6), some (vI c7), some (vI c8), some (vJ (u * 256 + c2.toNat)), none], [], S) := by
  have hm : u * 2 ^ (8 : Int).toNat % 18446744073709551616 < 18446744073709551616 := Nat.mod_lt _ (by decide)
  have hm2 : (c2 % 18446744073709551616).toNat < 18446744073709551616 := by omega
  have e := sh8 hu (show 0 ≤ c2 ∧ c2 < 256 by omega)
  simp (disch := omega) only [eL_type_4, eL_type_5, eL_type_8, eL_type_10, eL_type_12, eL_type_13, eL_type_14, eL_type_15, eL_type_16, if_pos, if_neg, if_true, if_false, Option.bind_some, Option.toList_some, Option.toList_none, List.cons_append, List.nil_append, e]
theorem l_ty3 {u : Nat} (hu : u < 72057594037927936) (hc : 0 < c3 ∧ c3 < 256) : rn xL_type (18, [some (vR 0), some (vI c1), some (vI c2), some (vI c3), some (vI c4), some (vI c5), some (vI c6), some (vI c7), some (vI c8), some (vJ u), none], [], S) = rn xL_type (32, [some (vR 0), some (vI c1), some (vI c2), some (vI c3), some (vI c4), some (vI c5), some (vI c6), some (vI c7), some (vI c8), some (vJ (u * 256 + c3.toNat)), none], [], S) := by
  have hm : u * 2 ^ (8 : Int).toNat % 18446744073709551616 < 18446744073709551616 := Nat.mod_lt _ (by decide)
  have hm2 : (c3 % 18446744073709551616).toNat < 18446744073709551616 := by omega
  have e := sh8 hu (show 0 ≤ c3 ∧ c3 < 256 by omega)
  simp (disch := omega) only [eL_type_18, eL_type_19, eL_type_22, eL_type_24, eL_type_26, eL_type_27, eL_type_28, eL_type_29, eL_type_30, if_pos, if_neg, if_true, if_false, Option.bind_some, Option.toList_some, Option.toList_none, List.cons_append, List.nil_append, e]
theorem l_ty4 {u : Nat} (hu : u < 72057594037927936) (hc : 0 < c4 ∧ c4 < 256) : rn xL_type (32, [some (vR 0), some (vI c1), some (vI c2), some (vI c3), some (vI c4), some (vI c5), some (vI c6), some (vI c7), some (vI c8), some (vJ u), none], [], S) = rn xL_type (48, [some (vR 0), some (vI c1), some (vI c2), some (vI c3), some (vI c4), some (vI c5), some (vI c6), some (vI c7), some (vI c8), some (vJ (u * 256 + c4.toNat)), none], [], S) := by
  have hm : u * 2 ^ (8 : Int).toNat % 18446744073709551616 < 18446744073709551616 := Nat.mod_lt _ (by decide)
  have hm2 : (c4 % 18446744073709551616).toNat < 18446744073709551616 := by omega
  have e := sh8 hu (show 0 ≤ c4 ∧ c4 < 256 by omega)
  simp (disch := omega) only [eL_type_32, eL_type_34, eL_type_37, eL_type_39, eL_type_41, eL_type_42, eL_type_44, eL_type_45, eL_type_46, if_pos, if_neg, if_true, if_false, Option.bind_some, Option.toList_some, Option.toList_none, List.cons_append, List.nil_append, e]
theorem l_ty5 {u : Nat} (hu : u < 72057594037927936) (hc : 0 < c5 ∧ c5 < 256) : rn xL_type (48, [some (vR 0), some (vI c1), some (vI c2), some (vI c3), some (vI c4), some (vI c5), some (vI c6), some (vI c7), some (vI c8), some (vJ u), none], [], S) = rn xL_type (64, [some (vR 0), some (vI c1), some (vI c2), some (vI c3), some (vI c4), some (vI c5), some (vI c6), some (vI c7), some (vI c8), some (vJ (u * 256 + c5.toNat)), none], [], S) := by
  have hm : u * 2 ^ (8 : Int).toNat % 18446744073709551616 < 18446744073709551616 := Nat.mod_lt _ (by decide)
  have hm2 : (c5 % 18446744073709551616).toNat < 18446744073709551616 := by omega
  have e := sh8 hu (show 0 ≤ c5 ∧ c5 < 256 by omega)
  simp (disch := omega) only [eL_type_48, eL_type_50, eL_type_53, eL_type_55, eL_type_57, eL_type_58, eL_type_60, eL_type_61, eL_type_62, if_pos, if_neg, if_true, if_false, Option.bind_some, Option.toList_some, Option.toList_none, List.cons_append, List.nil_append, e]
theorem l_ty6 {u : Nat} (hu : u < 72057594037927936) (hc : 0 < c6 ∧ c6 < 256) : rn xL_type (64, [some (vR 0), some (vI c1), some (vI c2), some (vI c3), some (vI c4), some (vI c5), some (vI c6), some (vI c7), some (vI c8), some (vJ u), none], [], S) = rn xL_type (80, [some (vR 0), some (vI c1), some (vI c2), some (vI c3), some (vI c4), some (vI c5), some (vI c6), some (vI c7), some (vI c8), some (vJ (u * 256 + c6.toNat)), none], [], S) := by
  have hm : u * 2 ^ (8 : Int).toNat % 18446744073709551616 < 18446744073709551616 := Nat.mod_lt _ (by decide)
  have hm2 : (c6 % 18446744073709551616).toNat < 18446744073709551616 := by omega
  have e := sh8 hu (show 0 ≤ c6 ∧ c6 < 256 by omega)
  simp (disch := omega) only [eL_type_64, eL_type_66, eL_type_69, eL_type_71, eL_type_73, eL_type_74, eL_type_76, eL_type_77, eL_type_78, if_pos, if_neg, if_true, if_false, Option.bind_some, Option.toList_some, Option.toList_none, List.cons_append, List.nil_append, e]
theorem l_ty7 {u : Nat} (hu : u < 72057594037927936) (hc : 0 < c7 ∧ c7 < 256) : rn xL_type (80, [some (vR 0), some (vI c1), some (vI c2), some (vI c3), some (vI c4), some (vI c5), some (vI c6), some (vI c7), some (vI c8), some (vJ u), none], [], S) = rn xL_type (96, [some (vR 0), some (vI c1), some (vI c2), some (vI c3), some (vI c4), some (vI c5), some (vI c6), some (vI c7), some (vI c8), some (vJ (u * 256 + c7.toNat)), none], [], S) := by
  have hm : u * 2 ^ (8 : Int).toNat % 18446744073709551616 < 18446744073709551616 := Nat.mod_lt _ (by decide)
  have hm2 : (c7 % 18446744073709551616).toNat < 18446744073709551616 := by omega
  have e := sh8 hu (show 0 ≤ c7 ∧ c7 < 256 by omega)
  simp (disch := omega) only [eL_type_80, eL_type_82, eL_type_85, eL_type_87, eL_type_89, eL_type_90, eL_type_92, eL_type_93, eL_type_94, if_pos, if_neg, if_true, if_false, Option.bind_some, Option.toList_some, Option.toList_none, List.cons_append, List.nil_append, e]
theorem l_ty8 {u : Nat} (hu : u < 72057594037927936) (hc : 0 < c8 ∧ c8 < 256) : rn xL_type (96, [some (vR 0), some (vI c1), some (vI c2), some (vI c3), some (vI c4), some (vI c5), some (vI c6), some (vI c7), some (vI c8), some (vJ u), none], [], S) = rn xL_type (112, [some (vR 0), some (vI c1), some (vI c2), some (vI c3), some (vI c4), some (vI c5), some (vI c6), some (vI c7), some (vI c8), some (vJ (u * 256 + c8.toNat)), none], [], S) := by
  have hm : u * 2 ^ (8 : Int).toNat % 18446744073709551616 < 18446744073709551616 := Nat.mod_lt _ (by decide)
  have hm2 : (c8 % 18446744073709551616).toNat < 18446744073709551616 := by omega
  have e := sh8 hu (show 0 ≤ c8 ∧ c8 < 256 by omega)
  simp (disch := omega) only [eL_type_96, eL_type_98, eL_type_101, eL_type_103, eL_type_105, eL_type_106, eL_type_108, eL_type_109, eL_type_110, if_pos, if_neg, if_true, if_false, Option.bind_some, Option.toList_some, Option.toList_none, List.cons_append, List.nil_append, e]
theorem siF_8 {u : Nat} (h : ∀ j : Nat, j < 8 → 33 ≤ byt u j ∧ byt u j ≤ 126) : ∀ f i : Nat, i + f = 8 → siF u f i = 8
  | 0, _, _ => rfl
  | f + 1, i, q => by
    have hb := h i (by omega)
    rw [siF, if_neg (by omega), if_pos hb]
    exact siF_8 h f (i + 1) (by omega)
theorem byt_0 (u : Nat) : byt u 0 = u % 256 := by
  unfold byt
  rw [Nat.mul_zero, Nat.pow_zero, Nat.div_one]
theorem byt_s (u c k : Nat) (hc : c < 256) : byt (u * 256 + c) (k + 1) = byt u k := by
  unfold byt
  rw [show 8 * (k + 1) = 8 + 8 * k by omega, Nat.pow_add, ← Nat.div_div_eq_div_mul, show (u * 256 + c) / 2 ^ 8 = u by omega]
theorem st256 {u B c : Nat} (hu : u < B) (hc : c < 256) : u * 256 + c < B * 256 := by omega
def chr (c : Int) : Prop := 33 ≤ c ∧ c ≤ 126
set_option maxHeartbeats 1000000 in
theorem t_type (h : LWs S A m H K V P n) (hn : n + 8 ≤ 80) (h1 : chr c1) (h2 : chr c2) (h3 : chr c3) (h4 : chr c4) (h5 : chr c5) (h6 : chr c6) (h7 : chr c7) (h8 : chr c8) : ∃ S' P', fL_type [vR 0, vI c1, vI c2, vI c3, vI c4, vI c5, vI c6, vI c7, vI c8] S = some (some (vI 1), S') ∧ LWs S' A m H K V P' (n + 8) ∧ fr S S' ∧ (∀ k, k < n → P' k = P k) ∧ P' n = c1 ∧ P' (n + 1) = c2 ∧ P' (n + 2) = c3 ∧ P' (n + 3) = c4 ∧ P' (n + 4) = c5 ∧ P' (n + 5) = c6 ∧ P' (n + 6) = c7 ∧ P' (n + 7) = c8 := by
  unfold chr at h1 h2 h3 h4 h5 h6 h7 h8
  have b2 : (c1.toNat * 256 + c2.toNat) < 65536 := st256 (B := 256) (show c1.toNat < 256 by omega) (by omega)
  have b3 : ((c1.toNat * 256 + c2.toNat) * 256 + c3.toNat) < 16777216 := st256 (B := 65536) b2 (by omega)
  have b4 : (((c1.toNat * 256 + c2.toNat) * 256 + c3.toNat) * 256 + c4.toNat) < 4294967296 := st256 (B := 16777216) b3 (by omega)
  have b5 : ((((c1.toNat * 256 + c2.toNat) * 256 + c3.toNat) * 256 + c4.toNat) * 256 + c5.toNat) < 1099511627776 := st256 (B := 4294967296) b4 (by omega)
  have b6 : (((((c1.toNat * 256 + c2.toNat) * 256 + c3.toNat) * 256 + c4.toNat) * 256 + c5.toNat) * 256 + c6.toNat) < 281474976710656 := st256 (B := 1099511627776) b5 (by omega)
  have b7 : ((((((c1.toNat * 256 + c2.toNat) * 256 + c3.toNat) * 256 + c4.toNat) * 256 + c5.toNat) * 256 + c6.toNat) * 256 + c7.toNat) < 72057594037927936 := st256 (B := 281474976710656) b6 (by omega)
  have b8 : (((((((c1.toNat * 256 + c2.toNat) * 256 + c3.toNat) * 256 + c4.toNat) * 256 + c5.toNat) * 256 + c6.toNat) * 256 + c7.toNat) * 256 + c8.toNat) < 18446744073709551616 := st256 (B := 72057594037927936) b7 (by omega)
  have s2 := l_ty2 (S := S) (c1 := c1) (c2 := c2) (c3 := c3) (c4 := c4) (c5 := c5) (c6 := c6) (c7 := c7) (c8 := c8) (u := c1.toNat) ((by omega)) (by omega)
  have s3 := l_ty3 (S := S) (c1 := c1) (c2 := c2) (c3 := c3) (c4 := c4) (c5 := c5) (c6 := c6) (c7 := c7) (c8 := c8) (u := (c1.toNat * 256 + c2.toNat)) (Nat.lt_of_lt_of_le b2 (by decide)) (by omega)
  have s4 := l_ty4 (S := S) (c1 := c1) (c2 := c2) (c3 := c3) (c4 := c4) (c5 := c5) (c6 := c6) (c7 := c7) (c8 := c8) (u := ((c1.toNat * 256 + c2.toNat) * 256 + c3.toNat)) (Nat.lt_of_lt_of_le b3 (by decide)) (by omega)
  have s5 := l_ty5 (S := S) (c1 := c1) (c2 := c2) (c3 := c3) (c4 := c4) (c5 := c5) (c6 := c6) (c7 := c7) (c8 := c8) (u := (((c1.toNat * 256 + c2.toNat) * 256 + c3.toNat) * 256 + c4.toNat)) (Nat.lt_of_lt_of_le b4 (by decide)) (by omega)
  have s6 := l_ty6 (S := S) (c1 := c1) (c2 := c2) (c3 := c3) (c4 := c4) (c5 := c5) (c6 := c6) (c7 := c7) (c8 := c8) (u := ((((c1.toNat * 256 + c2.toNat) * 256 + c3.toNat) * 256 + c4.toNat) * 256 + c5.toNat)) (Nat.lt_of_lt_of_le b5 (by decide)) (by omega)
  have s7 := l_ty7 (S := S) (c1 := c1) (c2 := c2) (c3 := c3) (c4 := c4) (c5 := c5) (c6 := c6) (c7 := c7) (c8 := c8) (u := (((((c1.toNat * 256 + c2.toNat) * 256 + c3.toNat) * 256 + c4.toNat) * 256 + c5.toNat) * 256 + c6.toNat)) (Nat.lt_of_lt_of_le b6 (by decide)) (by omega)
  have s8 := l_ty8 (S := S) (c1 := c1) (c2 := c2) (c3 := c3) (c4 := c4) (c5 := c5) (c6 := c6) (c7 := c7) (c8 := c8) (u := ((((((c1.toNat * 256 + c2.toNat) * 256 + c3.toNat) * 256 + c4.toNat) * 256 + c5.toNat) * 256 + c6.toNat) * 256 + c7.toNat)) (Nat.lt_of_lt_of_le b7 (by decide)) (by omega)
  obtain ⟨U, hU⟩ : ∃ U : Nat, U = (((((((c1.toNat * 256 + c2.toNat) * 256 + c3.toNat) * 256 + c4.toNat) * 256 + c5.toNat) * 256 + c6.toNat) * 256 + c7.toNat) * 256 + c8.toNat) := ⟨_, rfl⟩
  rw [← hU] at b8 s8
  have y0 : byt U 0 = c8.toNat := by
    rw [hU, byt_0]
    omega
  have y1 : byt U 1 = c7.toNat := by
    rw [hU, byt_s _ _ _ (by omega), byt_0]
    omega
  have y2 : byt U 2 = c6.toNat := by
    rw [hU, byt_s _ _ _ (by omega), byt_s _ _ _ (by omega), byt_0]
    omega
  have y3 : byt U 3 = c5.toNat := by
    rw [hU, byt_s _ _ _ (by omega), byt_s _ _ _ (by omega), byt_s _ _ _ (by omega), byt_0]
    omega
  have y4 : byt U 4 = c4.toNat := by
    rw [hU, byt_s _ _ _ (by omega), byt_s _ _ _ (by omega), byt_s _ _ _ (by omega), byt_s _ _ _ (by omega), byt_0]
    omega
  have y5 : byt U 5 = c3.toNat := by
    rw [hU, byt_s _ _ _ (by omega), byt_s _ _ _ (by omega), byt_s _ _ _ (by omega), byt_s _ _ _ (by omega), byt_s _ _ _ (by omega), byt_0]
    omega
  have y6 : byt U 6 = c2.toNat := by
    rw [hU, byt_s _ _ _ (by omega), byt_s _ _ _ (by omega), byt_s _ _ _ (by omega), byt_s _ _ _ (by omega), byt_s _ _ _ (by omega), byt_s _ _ _ (by omega), byt_0]
    omega
  have y7 : byt U 7 = c1.toNat := by
    rw [hU, byt_s _ _ _ (by omega), byt_s _ _ _ (by omega), byt_s _ _ _ (by omega), byt_s _ _ _ (by omega), byt_s _ _ _ (by omega), byt_s _ _ _ (by omega), byt_s _ _ _ (by omega), byt_0]
    omega
  have hs : siF U 8 0 = 8 := siF_8 (fun j hj => by
    rcases (show j = 0 ∨ j = 1 ∨ j = 2 ∨ j = 3 ∨ j = 4 ∨ j = 5 ∨ j = 6 ∨ j = 7 by omega) with rfl | rfl | rfl | rfl | rfl | rfl | rfl | rfl <;> omega) 8 0 rfl
  obtain ⟨S1, e, L1, g⟩ := o_put (u := U) h b8 (by omega) (by omega)
  rw [hs] at e L1
  have e8 : (8 : Int).toNat = 8 := rfl
  rw [e8] at L1
  refine ⟨S1, putP P n U 8, ?_, L1, g, fun k hk => if_pos hk, ?_, ?_, ?_, ?_, ?_, ?_, ?_, ?_⟩
  · rw [uL_type]
    simp (disch := omega) only [eL_type_0, eL_type_1, eL_type_2, if_pos, if_neg, if_true, if_false, Option.bind_some, Option.toList_some, Option.toList_none, List.cons_append, List.nil_append]
    rw [show (c1 % 18446744073709551616).toNat = c1.toNat by omega, s2, s3, s4, s5, s6, s7, s8]
    simp (disch := omega) only [eL_type_112, eL_type_113, eL_type_115, eL_type_118, eL_type_121, eL_type_122, eL_type_125, eL_type_126, if_pos, if_neg, if_true, if_false, Option.bind_some, Option.toList_some, Option.toList_none, List.cons_append, List.nil_append, e]
  · unfold putP
    rw [if_neg (by omega), show 8 - 1 - (n - n) = 7 by omega, y7]
    omega
  · unfold putP
    rw [if_neg (by omega), show 8 - 1 - (n + 1 - n) = 6 by omega, y6]
    omega
  · unfold putP
    rw [if_neg (by omega), show 8 - 1 - (n + 2 - n) = 5 by omega, y5]
    omega
  · unfold putP
    rw [if_neg (by omega), show 8 - 1 - (n + 3 - n) = 4 by omega, y4]
    omega
  · unfold putP
    rw [if_neg (by omega), show 8 - 1 - (n + 4 - n) = 3 by omega, y3]
    omega
  · unfold putP
    rw [if_neg (by omega), show 8 - 1 - (n + 5 - n) = 2 by omega, y2]
    omega
  · unfold putP
    rw [if_neg (by omega), show 8 - 1 - (n + 6 - n) = 1 by omega, y1]
    omega
  · unfold putP
    rw [if_neg (by omega), show 8 - 1 - (n + 7 - n) = 0 by omega, y0]
    omega

end TYPE
/-! reading what was typed -/
theorem ky_1 {p : Nat} {d : Int} (h0 : nx P n p = 48 + d) (hd : 0 ≤ d ∧ d ≤ 9) (h1 : ¬ (48 ≤ nx P n (p + 1) ∧ nx P n (p + 1) ≤ 57)) : ky P n p = (d, p + 1) := by
  unfold ky
  rw [if_pos (by omega), kyL, if_neg (fun z => h1 z.2.1), h0]
  rw [show 48 + d - 48 = d by omega]
theorem ky_2 {p : Nat} {d e : Int} (h0 : nx P n p = 48 + d) (hd : 1 ≤ d ∧ d ≤ 9) (h1 : nx P n (p + 1) = 48 + e) (he : 0 ≤ e ∧ e ≤ 9) (h2 : ¬ (48 ≤ nx P n (p + 1 + 1) ∧ nx P n (p + 1 + 1) ≤ 57)) : ky P n p = (10 * d + e, p + 2) := by
  unfold ky
  rw [if_pos (by omega), kyL, if_pos (by omega), kyL, if_neg (fun z => h2 z.2.1), h0, h1]
  rw [show 10 * (48 + d - 48) + (48 + e - 48) = 10 * d + e by omega]
theorem tx_all {w a b r c f t k : Int} (hw : 0 ≤ w ∧ w ≤ 2) (ha : 0 ≤ a ∧ a ≤ 9) (hb : 10 ≤ b ∧ b ≤ 99) (hr : 1 ≤ r ∧ r ≤ 9) (hc : 0 ≤ c ∧ c ≤ 9) (hf : 0 ≤ f ∧ f ≤ 9) (ht : 10 ≤ t ∧ t ≤ 99) (hk : k = 100 ∨ k = 103)
    (n0 : nx P 24 0 = 48 + w) (n1 : nx P 24 1 = 58) (n2 : nx P 24 2 = 48 + a) (n3 : nx P 24 3 = 45) (n4 : nx P 24 4 = 48 + b / 10) (n5 : nx P 24 5 = 48 + b % 10) (n6 : nx P 24 6 = 42) (n7 : nx P 24 7 = 48 + r) (n8 : nx P 24 8 = 44) (n9 : nx P 24 9 = 48 + c) (n10 : nx P 24 10 = 59) (n11 : nx P 24 11 = 102) (n12 : nx P 24 12 = 42) (n13 : nx P 24 13 = 58) (n14 : nx P 24 14 = 48 + f) (n15 : nx P 24 15 = 45) (n16 : nx P 24 16 = 48 + t / 10) (n17 : nx P 24 17 = 48 + t % 10) (n18 : nx P 24 18 = 59) (n19 : nx P 24 19 = k) (n20 : nx P 24 20 = 59) (n21 : nx P 24 21 = 103) (n22 : nx P 24 22 = 59) (n23 : nx P 24 23 = 108) :
    Tx P 24 80 0 = (true, 24, [(115, w, [(a, b, r), (c, c, 1)]), (102, -6, [(f, t, 0)]), (k, 0, []), (103, 0, []), (108, 0, [])]) := by
  have k2 : ky P 24 2 = (a, 3) := ky_1 n2 ha (by show ¬ (48 ≤ nx P 24 3 ∧ nx P 24 3 ≤ 57); omega)
  have k4 : ky P 24 4 = (b, 6) := by
    have := ky_2 (P := P) (n := 24) (p := 4) (d := b / 10) (e := b % 10) n4 (by omega) n5 (by omega) (by show ¬ (48 ≤ nx P 24 6 ∧ nx P 24 6 ≤ 57); omega)
    rw [show 10 * (b / 10) + b % 10 = b by omega] at this
    exact this
  have k9 : ky P 24 9 = (c, 10) := ky_1 n9 hc (by show ¬ (48 ≤ nx P 24 10 ∧ nx P 24 10 ≤ 57); omega)
  have k14 : ky P 24 14 = (f, 15) := ky_1 n14 hf (by show ¬ (48 ≤ nx P 24 15 ∧ nx P 24 15 ≤ 57); omega)
  have k16 : ky P 24 16 = (t, 18) := by
    have := ky_2 (P := P) (n := 24) (p := 16) (d := t / 10) (e := t % 10) n16 (by omega) n17 (by omega) (by show ¬ (48 ≤ nx P 24 18 ∧ nx P 24 18 ≤ 57); omega)
    rw [show 10 * (t / 10) + t % 10 = t by omega] at this
    exact this
  have s2 : St P 24 2 = (true, 8, a, b, r) := by
    unfold St
    rw [k2]
    dsimp only
    rw [if_neg (by omega), if_neg (fun z => by rw [n3] at z; omega), if_pos n3]
    have k4' : ky P 24 (3 + 1) = (b, 6) := k4
    rw [k4']
    dsimp only
    rw [if_neg (by omega), if_neg (fun z => by rw [n6] at z; omega)]
    unfold stR
    have n7' : nx P 24 (6 + 1) = 48 + r := n7
    rw [if_pos n6, n7', if_pos (by omega), show 48 + r - 48 = r by omega]
  have s9 : St P 24 9 = (true, 10, c, c, 1) := by
    unfold St
    rw [k9]
    dsimp only
    rw [if_neg (by omega), if_neg (fun z => by rw [n10] at z; omega), if_neg (by omega)]
    unfold stR
    rw [if_neg (by omega)]
  have l9 : Lst P 24 79 9 = (true, 10, [(c, c, 1)]) := by
    rw [Lst, s9]
    dsimp only
    rw [if_pos rfl, if_neg (by omega)]
  have l2 : Lst P 24 80 2 = (true, 10, [(a, b, r), (c, c, 1)]) := by
    rw [Lst, s2]
    dsimp only
    have l9' : Lst P 24 79 (8 + 1) = (true, 10, [(c, c, 1)]) := l9
    rw [if_pos rfl, if_pos n8, l9']
  have o0 : Od P 24 0 = (true, 10, 115, w, [(a, b, r), (c, c, 1)]) := by
    unfold Od
    have n1' : nx P 24 (0 + 1) = 58 := n1
    have l2' : Lst P 24 80 (0 + 2) = (true, 10, [(a, b, r), (c, c, 1)]) := l2
    rw [if_neg (by omega), if_neg (by omega), if_pos (by omega), if_pos n1', l2', n0, show 48 + w - 48 = w by omega]
  have f12 : Fl P 24 12 = (true, 18, -6, f, t) := by
    unfold Fl
    have n13' : nx P 24 (12 + 1) = 58 := n13
    have k14' : ky P 24 (12 + 2) = (f, 15) := k14
    have k16' : ky P 24 (15 + 1) = (t, 18) := k16
    rw [if_pos (Or.inl n12), if_pos n13', k14']
    dsimp only
    rw [if_neg (by omega), if_pos n15, k16']
    dsimp only
    rw [if_neg (by omega), if_neg (fun z => by rw [n18] at z; omega), if_pos n12]
  have o11 : Od P 24 11 = (true, 18, 102, -6, [(f, t, 0)]) := by
    unfold Od
    have f12' : Fl P 24 (11 + 1) = (true, 18, -6, f, t) := f12
    rw [if_neg (by omega), if_pos n11, f12']
  have o19 : Od P 24 19 = (true, 20, k, 0, []) := by
    unfold Od
    rw [if_pos (by omega), n19]
  have o21 : Od P 24 21 = (true, 22, 103, 0, []) := by
    unfold Od
    rw [if_pos (by omega), n21]
  have o23 : Od P 24 23 = (true, 24, 108, 0, []) := by
    unfold Od
    rw [if_pos (by omega), n23]
  have t23 : Tx P 24 76 23 = (true, 24, [(108, 0, [])]) := by
    rw [Tx, o23]
    dsimp only
    rw [if_pos rfl, if_neg (by decide)]
  have t21 : Tx P 24 77 21 = (true, 24, [(103, 0, []), (108, 0, [])]) := by
    rw [Tx, o21]
    dsimp only
    have t23' : Tx P 24 76 (22 + 1) = (true, 24, [(108, 0, [])]) := t23
    rw [if_pos rfl, if_pos (by decide), if_pos n22, t23']
  have t19 : Tx P 24 78 19 = (true, 24, [(k, 0, []), (103, 0, []), (108, 0, [])]) := by
    rw [Tx, o19]
    dsimp only
    have t21' : Tx P 24 77 (20 + 1) = (true, 24, [(103, 0, []), (108, 0, [])]) := t21
    rw [if_pos rfl, if_pos (by decide), if_pos n20, t21']
  have t11 : Tx P 24 79 11 = (true, 24, [(102, -6, [(f, t, 0)]), (k, 0, []), (103, 0, []), (108, 0, [])]) := by
    rw [Tx, o11]
    dsimp only
    have t19' : Tx P 24 78 (18 + 1) = (true, 24, [(k, 0, []), (103, 0, []), (108, 0, [])]) := t19
    rw [if_pos rfl, if_pos (by decide), if_pos n18, t19']
  rw [Tx, o0]
  dsimp only
  have t11' : Tx P 24 79 (10 + 1) = (true, 24, [(102, -6, [(f, t, 0)]), (k, 0, []), (103, 0, []), (108, 0, [])]) := t11
  rw [if_pos rfl, if_pos (by decide), if_pos n10, t11']
end LAW9

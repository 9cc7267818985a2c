/-! rules: what the meaning of a method does at an instruction -/
section QR
variable {X : XX} {pc : Nat} {L : List (Option VV)} {st : List VV} {S : MM}
theorem q_icmp {cn : ClassFile.Cond} {off : Int} {a b : Int} {t : Nat} (hd : decode X.1 pc = .ok (.if_icmp cn off, 3)) (h0 : 0 ≤ (pc : Int) + off) (ht : pcT pc off = t) (ha : rng a) (hb : rng b) : rn X (pc, L, vI b :: vI a :: st, S) = if cmpB cn a b = true then rn X (t, L, st, S) else rn X (pc + 3, L, st, S) := by
  subst ht
  split
  next h => exact rn_step hd rfl (by simp only [exi, br2]; rw [if_pos ⟨⟨ha, hb⟩, h0⟩, if_pos h])
  next h => exact rn_step hd rfl (by simp only [exi, br2]; rw [if_pos ⟨⟨ha, hb⟩, h0⟩, if_neg h])
theorem q_if {cn : ClassFile.Cond} {off : Int} {a : Int} {t : Nat} (hd : decode X.1 pc = .ok (.ifCond cn off, 3)) (h0 : 0 ≤ (pc : Int) + off) (ht : pcT pc off = t) (ha : rng a) : rn X (pc, L, vI a :: st, S) = if cmpB cn a 0 = true then rn X (t, L, st, S) else rn X (pc + 3, L, st, S) := by
  subst ht
  split
  next h => exact rn_step hd rfl (by simp only [exi, br1]; rw [if_pos ⟨ha, h0⟩, if_pos h])
  next h => exact rn_step hd rfl (by simp only [exi, br1]; rw [if_pos ⟨ha, h0⟩, if_neg h])
theorem q_icmp_eq {off : Int} {a b : Int} {t : Nat} (hd : decode X.1 pc = .ok (.if_icmp .eq off, 3)) (h0 : 0 ≤ (pc : Int) + off) (ht : pcT pc off = t) (ha : rng a) (hb : rng b) : rn X (pc, L, vI b :: vI a :: st, S) = if a = b then rn X (t, L, st, S) else rn X (pc + 3, L, st, S) := by
  rw [q_icmp hd h0 ht ha hb]; simp only [cmpB, decide_eq_true_eq]
theorem q_icmp_ne {off : Int} {a b : Int} {t : Nat} (hd : decode X.1 pc = .ok (.if_icmp .ne off, 3)) (h0 : 0 ≤ (pc : Int) + off) (ht : pcT pc off = t) (ha : rng a) (hb : rng b) : rn X (pc, L, vI b :: vI a :: st, S) = if a = b then rn X (pc + 3, L, st, S) else rn X (t, L, st, S) := by
  rw [q_icmp hd h0 ht ha hb]; simp only [cmpB, decide_eq_true_eq, ite_not]
theorem q_icmp_lt {off : Int} {a b : Int} {t : Nat} (hd : decode X.1 pc = .ok (.if_icmp .lt off, 3)) (h0 : 0 ≤ (pc : Int) + off) (ht : pcT pc off = t) (ha : rng a) (hb : rng b) : rn X (pc, L, vI b :: vI a :: st, S) = if a < b then rn X (t, L, st, S) else rn X (pc + 3, L, st, S) := by
  rw [q_icmp hd h0 ht ha hb]; simp only [cmpB, decide_eq_true_eq]
theorem q_icmp_ge {off : Int} {a b : Int} {t : Nat} (hd : decode X.1 pc = .ok (.if_icmp .ge off, 3)) (h0 : 0 ≤ (pc : Int) + off) (ht : pcT pc off = t) (ha : rng a) (hb : rng b) : rn X (pc, L, vI b :: vI a :: st, S) = if a < b then rn X (pc + 3, L, st, S) else rn X (t, L, st, S) := by
  rw [q_icmp hd h0 ht ha hb]; simp only [cmpB, decide_eq_true_eq]
  by_cases h : a < b
  · rw [if_pos h, if_neg (by omega)]
  · rw [if_neg h, if_pos (by omega)]
theorem q_icmp_gt {off : Int} {a b : Int} {t : Nat} (hd : decode X.1 pc = .ok (.if_icmp .gt off, 3)) (h0 : 0 ≤ (pc : Int) + off) (ht : pcT pc off = t) (ha : rng a) (hb : rng b) : rn X (pc, L, vI b :: vI a :: st, S) = if b < a then rn X (t, L, st, S) else rn X (pc + 3, L, st, S) := by
  rw [q_icmp hd h0 ht ha hb]; simp only [cmpB, decide_eq_true_eq]
theorem q_icmp_le {off : Int} {a b : Int} {t : Nat} (hd : decode X.1 pc = .ok (.if_icmp .le off, 3)) (h0 : 0 ≤ (pc : Int) + off) (ht : pcT pc off = t) (ha : rng a) (hb : rng b) : rn X (pc, L, vI b :: vI a :: st, S) = if b < a then rn X (pc + 3, L, st, S) else rn X (t, L, st, S) := by
  rw [q_icmp hd h0 ht ha hb]; simp only [cmpB, decide_eq_true_eq]
  by_cases h : b < a
  · rw [if_pos h, if_neg (by omega)]
  · rw [if_neg h, if_pos (by omega)]
theorem q_if_eq {off : Int} {a : Int} {t : Nat} (hd : decode X.1 pc = .ok (.ifCond .eq off, 3)) (h0 : 0 ≤ (pc : Int) + off) (ht : pcT pc off = t) (ha : rng a) : rn X (pc, L, vI a :: st, S) = if a = 0 then rn X (t, L, st, S) else rn X (pc + 3, L, st, S) := by
  rw [q_if hd h0 ht ha]; simp only [cmpB, decide_eq_true_eq]
theorem q_if_ne {off : Int} {a : Int} {t : Nat} (hd : decode X.1 pc = .ok (.ifCond .ne off, 3)) (h0 : 0 ≤ (pc : Int) + off) (ht : pcT pc off = t) (ha : rng a) : rn X (pc, L, vI a :: st, S) = if a = 0 then rn X (pc + 3, L, st, S) else rn X (t, L, st, S) := by
  rw [q_if hd h0 ht ha]; simp only [cmpB, decide_eq_true_eq, ite_not]
theorem q_if_lt {off : Int} {a : Int} {t : Nat} (hd : decode X.1 pc = .ok (.ifCond .lt off, 3)) (h0 : 0 ≤ (pc : Int) + off) (ht : pcT pc off = t) (ha : rng a) : rn X (pc, L, vI a :: st, S) = if a < 0 then rn X (t, L, st, S) else rn X (pc + 3, L, st, S) := by
  rw [q_if hd h0 ht ha]; simp only [cmpB, decide_eq_true_eq]
theorem q_if_ge {off : Int} {a : Int} {t : Nat} (hd : decode X.1 pc = .ok (.ifCond .ge off, 3)) (h0 : 0 ≤ (pc : Int) + off) (ht : pcT pc off = t) (ha : rng a) : rn X (pc, L, vI a :: st, S) = if a < 0 then rn X (pc + 3, L, st, S) else rn X (t, L, st, S) := by
  rw [q_if hd h0 ht ha]; simp only [cmpB, decide_eq_true_eq]
  by_cases h : a < 0
  · rw [if_pos h, if_neg (by omega)]
  · rw [if_neg h, if_pos (by omega)]
theorem q_if_gt {off : Int} {a : Int} {t : Nat} (hd : decode X.1 pc = .ok (.ifCond .gt off, 3)) (h0 : 0 ≤ (pc : Int) + off) (ht : pcT pc off = t) (ha : rng a) : rn X (pc, L, vI a :: st, S) = if 0 < a then rn X (t, L, st, S) else rn X (pc + 3, L, st, S) := by
  rw [q_if hd h0 ht ha]; simp only [cmpB, decide_eq_true_eq]
theorem q_if_le {off : Int} {a : Int} {t : Nat} (hd : decode X.1 pc = .ok (.ifCond .le off, 3)) (h0 : 0 ≤ (pc : Int) + off) (ht : pcT pc off = t) (ha : rng a) : rn X (pc, L, vI a :: st, S) = if 0 < a then rn X (pc + 3, L, st, S) else rn X (t, L, st, S) := by
  rw [q_if hd h0 ht ha]; simp only [cmpB, decide_eq_true_eq]
  by_cases h : 0 < a
  · rw [if_pos h, if_neg (by omega)]
  · rw [if_neg h, if_pos (by omega)]
theorem q_getI {idx ci k i : Nat} (hd : decode X.1 pc = .ok (.getfield idx, 3)) (hf : X.2.1 idx = some (ci, k)) (hs : (ci < 10 ∧ k < nfl ci) ∧ ¬ fk ci k = 8) (h : kd i = ci) : rn X (pc, L, vR i :: st, S) = rn X (pc + 3, L, vI (S i k) :: st, S) :=
  rn_step hd rfl (by simp only [exi, hf]; rw [if_pos ⟨h, hs.1⟩, if_neg hs.2])
theorem q_getR {idx ci k i j : Nat} (hd : decode X.1 pc = .ok (.getfield idx, 3)) (hf : X.2.1 idx = some (ci, k)) (hs : (ci < 10 ∧ k < nfl ci) ∧ fk ci k = 8) (hj : kd i = ci → fref i k = j) (h : kd i = ci) : rn X (pc, L, vR i :: st, S) = rn X (pc + 3, L, vR j :: st, S) :=
  rn_step hd rfl (by simp only [exi, hf]; rw [if_pos ⟨h, hs.1⟩, if_pos hs.2, hj h])
theorem q_put {idx ci k i : Nat} {z : Int} (hd : decode X.1 pc = .ok (.putfield idx, 3)) (hf : X.2.1 idx = some (ci, k)) (hs : ci < 10 ∧ k < nfl ci) (hz : fitB (fk ci k) z = true) (h : kd i = ci) : rn X (pc, L, vI z :: vR i :: st, S) = rn X (pc + 3, L, st, updM S i k z) :=
  rn_step hd rfl (by simp only [exi, hf]; rw [if_pos ⟨⟨h, hs⟩, hz⟩])
theorem fit1 {z : Int} (h : z = 0 ∨ z = 1) : fitB 1 z = true := by simp only [fitB]; simpa using h
theorem fit2 {z : Int} (h : 0 ≤ z ∧ z ≤ 65535) : fitB 2 z = true := by simp only [fitB]; simpa using h
theorem q_iald {i : Nat} {j : Int} (hd : decode X.1 pc = .ok (.iaload, 1)) (h : kd i = 10) (h0 : 0 ≤ j) (h1 : j < alen i) : rn X (pc, L, vI j :: vR i :: st, S) = rn X (pc + 1, L, vI (S i j.toNat) :: st, S) :=
  rn_step hd rfl (by simp only [exi, ald, aget]; rw [if_pos h, if_pos ⟨h0, h1⟩])
theorem q_ialdX {j : Int} (hd : decode X.1 pc = .ok (.iaload, 1)) (h0 : 0 ≤ j) (h1 : j < S 604 0) : rn X (pc, L, vI j :: vR 602 :: st, S) = rn X (pc + 1, L, vI (S 602 j.toNat) :: st, S) :=
  rn_step hd rfl (by simp only [exi, ald, aget]; rw [if_neg (by decide +kernel), if_pos ⟨trivial, Or.inl trivial, h0, h1⟩])
theorem q_ialdY {j : Int} (hd : decode X.1 pc = .ok (.iaload, 1)) (h0 : 0 ≤ j) (h1 : j < S 604 1) : rn X (pc, L, vI j :: vR 603 :: st, S) = rn X (pc + 1, L, vI (S 603 j.toNat) :: st, S) :=
  rn_step hd rfl (by simp only [exi, ald, aget]; rw [if_neg (by decide +kernel), if_pos ⟨trivial, Or.inr trivial, h0, h1⟩])
theorem q_bald {i : Nat} {j : Int} (hd : decode X.1 pc = .ok (.baload, 1)) (h : kd i = 11) (h0 : 0 ≤ j) (h1 : j < alen i) : rn X (pc, L, vI j :: vR i :: st, S) = rn X (pc + 1, L, vI (S i j.toNat) :: st, S) :=
  rn_step hd rfl (by simp only [exi, ald, aget]; rw [if_pos h, if_pos ⟨h0, h1⟩])
theorem q_cald {i : Nat} {j : Int} (hd : decode X.1 pc = .ok (.caload, 1)) (h : kd i = 12) (h0 : 0 ≤ j) (h1 : j < alen i) : rn X (pc, L, vI j :: vR i :: st, S) = rn X (pc + 1, L, vI (S i j.toNat) :: st, S) :=
  rn_step hd rfl (by simp only [exi, ald, aget]; rw [if_pos h, if_pos ⟨h0, h1⟩])
theorem q_aald {i : Nat} {j : Int} (hd : decode X.1 pc = .ok (.aaload, 1)) (h : kd i = 13 ∨ kd i = 14) (h0 : 0 ≤ j) (h1 : j < alen i) : rn X (pc, L, vI j :: vR i :: st, S) = rn X (pc + 1, L, vR (fref i j.toNat) :: st, S) :=
  rn_step hd rfl (by simp only [exi]; rw [if_pos ⟨h, h0, h1⟩])
theorem q_iast {i : Nat} {j z : Int} (hd : decode X.1 pc = .ok (.iastore, 1)) (h : kd i = 10) (h0 : 0 ≤ j) (h1 : j < alen i) : rn X (pc, L, vI z :: vI j :: vR i :: st, S) = rn X (pc + 1, L, st, updM S i j.toNat z) :=
  rn_step hd rfl (by simp only [exi, ast]; rw [if_pos ⟨h, ⟨h0, h1⟩, rfl⟩])
theorem q_bast {i : Nat} {j z : Int} (hd : decode X.1 pc = .ok (.bastore, 1)) (h : kd i = 11) (h0 : 0 ≤ j) (h1 : j < alen i) (hz : z = 0 ∨ z = 1) : rn X (pc, L, vI z :: vI j :: vR i :: st, S) = rn X (pc + 1, L, st, updM S i j.toNat z) :=
  rn_step hd rfl (by simp only [exi, ast]; rw [if_pos ⟨h, ⟨h0, h1⟩, fit1 hz⟩])
theorem q_cast {i : Nat} {j z : Int} (hd : decode X.1 pc = .ok (.castore, 1)) (h : kd i = 12) (h0 : 0 ≤ j) (h1 : j < alen i) (hz : 0 ≤ z ∧ z ≤ 65535) : rn X (pc, L, vI z :: vI j :: vR i :: st, S) = rn X (pc + 1, L, st, updM S i j.toNat z) :=
  rn_step hd rfl (by simp only [exi, ast]; rw [if_pos ⟨h, ⟨h0, h1⟩, fit2 hz⟩])
theorem q_alen {i : Nat} (hd : decode X.1 pc = .ok (.arraylength, 1)) (h : 10 ≤ kd i ∧ kd i ≤ 14) : rn X (pc, L, vR i :: st, S) = rn X (pc + 1, L, vI (alen i) :: st, S) :=
  rn_step hd rfl (by simp only [exi]; rw [if_pos h])
theorem q_alenX (hd : decode X.1 pc = .ok (.arraylength, 1)) : rn X (pc, L, vR 602 :: st, S) = rn X (pc + 1, L, vI (S 604 0) :: st, S) :=
  rn_step hd rfl (by simp only [exi]; rw [if_neg (by decide +kernel), if_pos (Or.inl trivial)])
theorem q_alenY (hd : decode X.1 pc = .ok (.arraylength, 1)) : rn X (pc, L, vR 603 :: st, S) = rn X (pc + 1, L, vI (S 604 1) :: st, S) :=
  rn_step hd rfl (by simp only [exi]; rw [if_neg (by decide +kernel), if_pos (Or.inr trivial)])
theorem q_idiv {a b : Int} (hd : decode X.1 pc = .ok (.idiv, 1)) (hb : 0 < b ∧ b ≤ 2147483647) (h0 : 0 ≤ a) (h1 : a ≤ 2147483647) : rn X (pc, L, vI b :: vI a :: st, S) = rn X (pc + 1, L, vI (a / b) :: st, S) :=
  rn_step hd rfl (by simp only [exi, op2]; rw [if_pos ⟨⟨by omega, h1⟩, hb⟩, Int.tdiv_eq_ediv_of_nonneg h0])
theorem q_irem {a b : Int} (hd : decode X.1 pc = .ok (.irem, 1)) (hb : 0 < b ∧ b ≤ 2147483647) (h0 : 0 ≤ a) (h1 : a ≤ 2147483647) : rn X (pc, L, vI b :: vI a :: st, S) = rn X (pc + 1, L, vI (a % b) :: st, S) :=
  rn_step hd rfl (by simp only [exi, op2]; rw [if_pos ⟨⟨by omega, h1⟩, hb⟩, Int.tmod_eq_emod_of_nonneg h0])
theorem q_ishr1 {a : Int} (hd : decode X.1 pc = .ok (.ishr, 1)) (h : rng a) : rn X (pc, L, vI 1 :: vI a :: st, S) = rn X (pc + 1, L, vI (a / 2) :: st, S) :=
  rn_step hd rfl (by simp only [exi, op2]; rw [if_pos ⟨h, by decide, by decide⟩]; rfl)
theorem q_iand31 {a : Int} (hd : decode X.1 pc = .ok (.iand, 1)) : rn X (pc, L, vI 31 :: vI a :: st, S) = rn X (pc + 1, L, vI (a % 32) :: st, S) :=
  rn_step hd rfl (by simp only [exi, op2]; rw [if_pos trivial])
theorem q_i2l {a : Int} (hd : decode X.1 pc = .ok (.i2l, 1)) (h : rng a) : rn X (pc, L, vI a :: st, S) = rn X (pc + 1, L, vJ (a % 18446744073709551616).toNat :: st, S) :=
  rn_step hd rfl (by simp only [exi]; rw [if_pos h])
theorem q_l2i {u : Nat} (hd : decode X.1 pc = .ok (.l2i, 1)) (h : u < 18446744073709551616) : rn X (pc, L, vJ u :: st, S) = rn X (pc + 1, L, vI (Int.bmod u 4294967296) :: st, S) :=
  rn_step hd rfl (by simp only [exi]; rw [if_pos h])
theorem q_lushr {u : Nat} {k : Int} (hd : decode X.1 pc = .ok (.lushr, 1)) (h : u < 18446744073709551616) (h0 : 0 ≤ k) (h1 : k < 64) : rn X (pc, L, vI k :: vJ u :: st, S) = rn X (pc + 1, L, vJ (u / 2 ^ k.toNat) :: st, S) :=
  rn_step hd rfl (by simp only [exi, opS]; rw [if_pos ⟨h, h0, h1⟩])
theorem q_lshl {u : Nat} {k : Int} (hd : decode X.1 pc = .ok (.lshl, 1)) (h : u < 18446744073709551616) (h0 : 0 ≤ k) (h1 : k < 64) : rn X (pc, L, vI k :: vJ u :: st, S) = rn X (pc + 1, L, vJ (u * 2 ^ k.toNat % 18446744073709551616) :: st, S) :=
  rn_step hd rfl (by simp only [exi, opS]; rw [if_pos ⟨h, h0, h1⟩])
theorem q_lshr {u : Nat} {k : Int} (hd : decode X.1 pc = .ok (.lshr, 1)) (h : u < 18446744073709551616) (h0 : 0 ≤ k) (h1 : k < 64) : rn X (pc, L, vI k :: vJ u :: st, S) = rn X (pc + 1, L, vJ (sgn u / 2 ^ k.toNat % 18446744073709551616).toNat :: st, S) :=
  rn_step hd rfl (by simp only [exi, opS]; rw [if_pos ⟨h, h0, h1⟩])
theorem q_land {u v : Nat} (hd : decode X.1 pc = .ok (.land, 1)) (h : u < 18446744073709551616) (h2 : v < 18446744073709551616) : rn X (pc, L, vJ v :: vJ u :: st, S) = rn X (pc + 1, L, vJ (u &&& v) :: st, S) :=
  rn_step hd rfl (by simp only [exi, opJ]; rw [if_pos ⟨h, h2⟩])
theorem q_lor {u v : Nat} (hd : decode X.1 pc = .ok (.lor, 1)) (h : u < 18446744073709551616) (h2 : v < 18446744073709551616) : rn X (pc, L, vJ v :: vJ u :: st, S) = rn X (pc + 1, L, vJ (u ||| v) :: st, S) :=
  rn_step hd rfl (by simp only [exi, opJ]; rw [if_pos ⟨h, h2⟩])
theorem q_lcmp {u v : Nat} (hd : decode X.1 pc = .ok (.lcmp, 1)) (h : u < 18446744073709551616) (h2 : v < 18446744073709551616) : rn X (pc, L, vJ v :: vJ u :: st, S) = rn X (pc + 1, L, vI (if u = v then 0 else if sgn u < sgn v then -1 else 1) :: st, S) :=
  rn_step hd rfl (by simp only [exi, opJ]; rw [if_pos ⟨h, h2⟩])
theorem q_ldc2 {idx u : Nat} (hd : decode X.1 pc = .ok (.ldc2_w idx, 3)) (hf : X.2.1 idx = some (98, u)) : rn X (pc, L, st, S) = rn X (pc + 3, L, vJ u :: st, S) :=
  rn_step hd rfl (by simp only [exi, hf])
theorem q_gets {idx u : Nat} (hd : decode X.1 pc = .ok (.getstatic idx, 3)) (hf : X.2.1 idx = some (97, u)) : rn X (pc, L, st, S) = rn X (pc + 3, L, vR 602 :: st, S) :=
  rn_step hd rfl (by simp only [exi, hf])
theorem callX_go {ci n : Nat} {f : FN} {virt : Bool} {as rest : List VV} (hn : as.length = n) (hl : rW rest = true) (hs : st = as.reverse ++ rest) (hv : recvB virt ci as = true) : callX (some (ci, n, f)) virt pc L st S = match f as S with | some (r, S') => .inl (pc + 3, L, r.toList ++ rest, S') | none => .inr none := by
  subst hs
  have h1 : (as.reverse ++ rest).take n = as.reverse := by rw [← hn, ← List.length_reverse, List.take_left]
  have h2 : (as.reverse ++ rest).drop n = rest := by rw [← hn, ← List.length_reverse, List.drop_left]
  simp only [callX]
  rw [h2, h1, List.reverse_reverse, if_pos ⟨⟨by simp; omega, hl⟩, hv⟩]
  all_goals (cases f as S <;> rfl)
theorem q_callS {idx ci n : Nat} {f : FN} {as rest : List VV} (hd : decode X.1 pc = .ok (.invokestatic idx, 3)) (hm : X.2.2.1 1 idx = some (ci, n, f)) (hn : as.length = n) (hl : rW rest = true) (hs : st = as.reverse ++ rest) : rn X (pc, L, st, S) = (f as S).bind (fun q => rn X (pc + 3, L, q.1.toList ++ rest, q.2)) := by
  have hv : recvB false ci as = true := by
    unfold recvB
    split <;> rfl
  have h := callX_go (pc := pc) (L := L) (S := S) (f := f) (ci := ci) (virt := false) hn hl hs hv
  cases hf : f as S with
  | none =>
    rw [hf] at h
    exact rn_end hd rfl (by simp only [exi, hm]; exact h)
  | some r =>
    rw [hf] at h
    exact rn_step hd rfl (by simp only [exi, hm]; exact h)
theorem q_callV {idx ci n i : Nat} {f : FN} {as rest : List VV} (hd : decode X.1 pc = .ok (.invokevirtual idx, 3)) (hm : X.2.2.1 0 idx = some (ci, n + 1, f)) (hn : as.length = n) (hl : rW rest = true) (hs : st = (vR i :: as).reverse ++ rest) (hk : kd i = ci) : rn X (pc, L, st, S) = (f (vR i :: as) S).bind (fun q => rn X (pc + 3, L, q.1.toList ++ rest, q.2)) := by
  have hv : recvB true ci (vR i :: as) = true := by simpa [recvB] using hk
  have h := callX_go (pc := pc) (L := L) (S := S) (f := f) (ci := ci) (virt := true) (n := n + 1) (by simp; exact hn) hl hs hv
  cases hf : f (vR i :: as) S with
  | none =>
    rw [hf] at h
    exact rn_end hd rfl (by simp only [exi, hm]; exact h)
  | some r =>
    rw [hf] at h
    exact rn_step hd rfl (by simp only [exi, hm]; exact h)
theorem q_retI {z : Int} (hd : decode X.1 pc = .ok (.ireturn, 1)) (hr : X.2.2.2 = 1) : rn X (pc, L, [vI z], S) = some (some (vI z), S) :=
  rn_end hd rfl (by simp only [exi, hr]; rw [if_pos ⟨by decide, rfl⟩])
theorem q_retZ {z : Int} (hd : decode X.1 pc = .ok (.ireturn, 1)) (hr : X.2.2.2 = 2) (hz : z = 0 ∨ z = 1) : rn X (pc, L, [vI z], S) = some (some (vI z), S) :=
  rn_end hd rfl (by simp only [exi, hr]; rw [if_pos ⟨by decide, fit1 hz⟩])
theorem q_retC {z : Int} (hd : decode X.1 pc = .ok (.ireturn, 1)) (hr : X.2.2.2 = 3) (hz : 0 ≤ z ∧ z ≤ 65535) : rn X (pc, L, [vI z], S) = some (some (vI z), S) :=
  rn_end hd rfl (by simp only [exi, hr]; rw [if_pos ⟨by decide, fit2 hz⟩])
theorem q_retA {r : Option Nat} (hd : decode X.1 pc = .ok (.areturn, 1)) (hr : X.2.2.2 = 4) : rn X (pc, L, [.inr (.inl r)], S) = some (some (.inr (.inl r)), S) :=
  rn_end hd rfl (by simp only [exi, hr]; rw [if_pos trivial])
theorem q_retV (hd : decode X.1 pc = .ok (.return_, 1)) (hr : X.2.2.2 = 0) : rn X (pc, L, [], S) = some (none, S) :=
  rn_end hd rfl (by simp only [exi, hr]; rw [if_pos trivial])
theorem q_tab {d lo hi : Int} {offs : Array Int} {n : Nat} {x : Int} (hd : decode X.1 pc = .ok (.tableswitch d lo hi offs, n)) (hx : rng x) {t : Nat} {o : Int} (hn : ¬ (x < lo ∨ hi < x)) (ho : offs[(x - lo).toNat]? = some o) (h0 : 0 ≤ (pc : Int) + o) (ht : pcT pc o = t) : rn X (pc, L, vI x :: st, S) = rn X (t, L, st, S) := by
  subst ht
  exact rn_step hd rfl (by simp only [exi]; rw [if_pos hx, if_neg hn, ho]; simp only [jmp]; rw [if_pos h0])
theorem q_tabD {d lo hi : Int} {offs : Array Int} {n : Nat} {x : Int} (hd : decode X.1 pc = .ok (.tableswitch d lo hi offs, n)) (hx : rng x) {t : Nat} (hn : x < lo ∨ hi < x) (h0 : 0 ≤ (pc : Int) + d) (ht : pcT pc d = t) : rn X (pc, L, vI x :: st, S) = rn X (t, L, st, S) := by
  subst ht
  exact rn_step hd rfl (by simp only [exi]; rw [if_pos hx, if_pos hn]; simp only [jmp]; rw [if_pos h0])
theorem q_look {d : Int} {ps : Array (Int × Int)} {n : Nat} {x : Int} (hd : decode X.1 pc = .ok (.lookupswitch d ps, n)) (hp : srt2 ps = true) (hx : rng x) {t : Nat} {o : Int} (ho : Op.lookupswitch.offset ps.toList d x = o) (h0 : 0 ≤ (pc : Int) + o) (ht : pcT pc o = t) : rn X (pc, L, vI x :: st, S) = rn X (t, L, st, S) := by
  subst ht
  exact rn_step hd rfl (by simp only [exi]; rw [if_pos ⟨hx, hp⟩, ho]; simp only [jmp]; rw [if_pos h0])
end QR
theorem fref0 {i k : Nat} (h : kd i = 0) : fref i k = i + k - 4 := by simp only [fref, h]
theorem fref1 {i k : Nat} (h : kd i = 1) : fref i k = i + 1 + k := by simp only [fref, h]
theorem fref2 {i k : Nat} (h : kd i = 2) : fref i k = i + 1 := by simp only [fref, h]
theorem fref3 {i k : Nat} (h : kd i = 3) : fref i k = i + 1 + k := by simp only [fref, h]
theorem fref5 {i k : Nat} (h : kd i = 5) : fref i k = i + 1 + 3 * k := by simp only [fref, h]
theorem fref6 {i k : Nat} (h : kd i = 6) : fref i k = i + [1, 3, 13, 56].getD k 0 := by simp only [fref, h]
theorem fref7 {i k : Nat} (h : kd i = 7) : fref i k = i + 1 := by simp only [fref, h]
theorem fref13 {i k : Nat} (h : kd i = 13) : fref i k = i + 2 + 10 * k := by simp only [fref, h]
/-- a class's fields by pool index -/
def fcF (l : List (Nat × Nat × Nat)) : Nat → Option (Nat × Nat) := fun idx => (l.find? (fun q => q.1 == idx)).map (fun q => q.2)
theorem FOK_of {own : String} {l : List (Nat × Nat × Nat)} (h : ∀ q ∈ l, (q.2.1 < 10 → fword own q.1 q.2.1 q.2.2 ∈ lw_g ∨ fwordN own q.1 q.2.1 q.2.2 ∈ nws) ∧ (q.2.1 = 97 → Cond.fieldLink own q.1 "LeapStones" "TURNS" "[I" ∈ lw_g) ∧ (q.2.1 = 98 → q.2.2 < 18446744073709551616 ∧ Cond.constantLong own q.1 (Int64.ofNat q.2.2) ∈ lw_g)) : FOK own (fcF l) := by
  intro idx ci k hq
  unfold fcF at hq
  cases hf : l.find? (fun q => q.1 == idx) with
  | none => rw [hf] at hq; cases hq
  | some z =>
    rw [hf] at hq
    have e : z.2 = (ci, k) := Option.some.inj hq
    have h1 := List.find?_some hf
    simp only [beq_iff_eq] at h1
    have h2 := h z (List.mem_of_find?_eq_some hf)
    rw [e, h1] at h2
    exact h2

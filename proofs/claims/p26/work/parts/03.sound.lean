/-! THE MEANING IS THE MACHINE'S -/
theorem i32T {z : Int} (h : rng z) : (Int32.ofInt z).toInt = z := by
  rw [Int32.toInt_ofInt]
  obtain ⟨h1, h2⟩ := h
  exact Int.bmod_eq_of_le (by simp [Int32.size]; omega) (by simp [Int32.size]; omega)
theorem i32lt {a b : Int} (ha : rng a) (hb : rng b) : Int32.ofInt a < Int32.ofInt b ↔ a < b := by
  rw [Int32.lt_iff_toInt_lt, i32T ha, i32T hb]
theorem i32le {a b : Int} (ha : rng a) (hb : rng b) : Int32.ofInt a ≤ Int32.ofInt b ↔ a ≤ b := by
  rw [Int32.le_iff_toInt_le, i32T ha, i32T hb]
theorem i32eq {a b : Int} (ha : rng a) (hb : rng b) : Int32.ofInt a = Int32.ofInt b ↔ a = b := by
  rw [← Int32.toInt_inj, i32T ha, i32T hb]
theorem i32cl {j : Int} (h0 : 0 ≤ j) (h1 : j ≤ 2147483647) : (Int32.ofInt j).toNatClampNeg = j.toNat := by
  rw [Int32.toNatClampNeg, i32T ⟨by omega, h1⟩]
theorem i32in {j : Int} {n : Nat} (h0 : 0 ≤ j) (h1 : j < n) (hn : n ≤ 2147483647) : vp_in (Int32.ofInt j) n := by
  rw [vp_in_iff, i32T ⟨by omega, by omega⟩]
  exact ⟨h0, h1⟩
theorem i32add (a b : Int) : Int32.ofInt a + Int32.ofInt b = Int32.ofInt (a + b) := (Int32.ofInt_add a b).symm
theorem i32sub (a b : Int) : Int32.ofInt a - Int32.ofInt b = Int32.ofInt (a - b) := (Int32.ofInt_sub a b).symm
theorem i32mul (a b : Int) : Int32.ofInt a * Int32.ofInt b = Int32.ofInt (a * b) := (Int32.ofInt_mul a b).symm
theorem i32bv (z : Int) : (Int32.ofInt z).toBitVec = BitVec.ofInt 32 z := rfl
theorem i32div {a b : Int} (ha : rng a) (h0 : 0 < b) (hb : b ≤ 2147483647) : Int32.ofInt a / Int32.ofInt b = Int32.ofInt (a.tdiv b) := by
  rw [← Int32.toInt_inj, Int32.toInt_div, i32T ha, i32T (show rng b from ⟨by omega, hb⟩), Int32.toInt_ofInt]
theorem i32rem {a b : Int} (ha : rng a) (h0 : 0 < b) (hb : b ≤ 2147483647) : Int32.ofInt a - Int32.ofInt a / Int32.ofInt b * Int32.ofInt b = Int32.ofInt (a.tmod b) := by
  rw [i32div ha h0 hb, i32mul, i32sub]
  congr 1
  have := Int.tmod_add_mul_tdiv a b
  rw [Int.mul_comm] at this
  omega
theorem i32and (a : Int) : Int32.ofInt a &&& Int32.ofInt 31 = Int32.ofInt (a % 32) := by
  apply Int32.toBitVec_inj.mp
  rw [Int32.toBitVec_and, i32bv, i32bv, i32bv]
  apply BitVec.eq_of_toNat_eq
  rw [BitVec.toNat_and, BitVec.toNat_ofInt, BitVec.toNat_ofInt, BitVec.toNat_ofInt]
  have e : ((31 : Int) % ((2 ^ 32 : Nat) : Int)).toNat = 2 ^ 5 - 1 := by decide
  rw [e, Nat.and_two_pow_sub_one_eq_mod]
  omega
theorem i32and2 (a : Int) : Int32.ofInt a &&& Int32.ofInt 2147483647 = Int32.ofInt (a % 2147483648) := by
  apply Int32.toBitVec_inj.mp
  rw [Int32.toBitVec_and, i32bv, i32bv, i32bv]
  apply BitVec.eq_of_toNat_eq
  rw [BitVec.toNat_and, BitVec.toNat_ofInt, BitVec.toNat_ofInt, BitVec.toNat_ofInt]
  have e : ((2147483647 : Int) % ((2 ^ 32 : Nat) : Int)).toNat = 2 ^ 31 - 1 := by decide
  rw [e, Nat.and_two_pow_sub_one_eq_mod]
  omega
theorem i32shr {a b : Int} (ha : rng a) (h0 : 0 ≤ b) (hb : b < 32) : Int32.ofInt a >>> (Int32.ofInt b &&& 31) = Int32.ofInt (a / 2 ^ b.toNat) := by
  have hs : ((Int32.ofInt b &&& 31).toBitVec.smod 32).toNat = b.toNat := by
    obtain ⟨n, rfl⟩ := Int.eq_ofNat_of_zero_le h0
    have h : ∀ n : Nat, n < 32 → ((Int32.ofInt (n : Int) &&& 31).toBitVec.smod 32).toNat = n := by decide +kernel
    exact h n (by omega)
  have h1 := pk_shr (Int32.ofInt a) (Int32.ofInt b &&& 31) b.toNat hs
  rw [i32T ha] at h1
  have b1 := Int32.le_toInt (Int32.ofInt a >>> (Int32.ofInt b &&& 31))
  have b2 := Int32.toInt_lt (Int32.ofInt a >>> (Int32.ofInt b &&& 31))
  have e : a >>> b.toNat = a / 2 ^ b.toNat := by rw [Int.shiftRight_eq_div_pow]; norm_cast
  rw [h1, e] at b1 b2
  rw [← Int32.toInt_inj, h1, e, i32T ⟨by omega, by omega⟩]
/-! longs -/
theorem i64T {u : Nat} (h : u < 18446744073709551616) : (Int64.ofNat u).toBitVec.toNat = u := by
  show (BitVec.ofNat 64 u).toNat = u
  rw [BitVec.toNat_ofNat]
  omega
theorem i64eq {u v : Nat} (hu : u < 18446744073709551616) (hv : v < 18446744073709551616) : Int64.ofNat u = Int64.ofNat v ↔ u = v := by
  constructor
  · intro h
    have := congrArg (fun x : Int64 => x.toBitVec.toNat) h
    simp only [i64T hu, i64T hv] at this
    exact this
  · rintro rfl; rfl
theorem i64I {u : Nat} : (Int64.ofNat u).toInt = sgn u := by
  rw [Int64.toInt_ofNat']
  rfl
theorem i64lt {u v : Nat} : Int64.ofNat u < Int64.ofNat v ↔ sgn u < sgn v := by rw [Int64.lt_iff_toInt_lt, i64I, i64I]
theorem i64of (x : Int64) : Int64.ofNat x.toBitVec.toNat = x := by
  apply Int64.toBitVec_inj.mp
  apply BitVec.eq_of_toNat_eq
  exact i64T x.toBitVec.isLt
theorem i64ext {x : Int64} {u : Nat} (hu : u < 18446744073709551616) (h : x.toBitVec.toNat = u) : x = Int64.ofNat u := by rw [← h, i64of]
theorem bmE {z : Int} {m : Nat} (hm : 0 < m) (h1 : -((m : Int) / 2) ≤ z) (h2 : z < ((m : Int) + 1) / 2) : Int.bmod ((z % (m : Int)).toNat : Int) m = z := by
  rw [Int.toNat_of_nonneg (Int.emod_nonneg _ (by omega)), Int.emod_bmod]
  exact Int.bmod_eq_of_le h1 h2
theorem bmD {z : Int} {m d : Nat} (h : d ∣ m) : (z.bmod m).bmod d = (z.bmod d).bmod d := by
  rw [Int.bmod_bmod_of_dvd h, Int.bmod_bmod_of_dvd ⟨1, by omega⟩]
theorem sgnE {z : Int} (h1 : -9223372036854775808 ≤ z) (h2 : z < 9223372036854775808) : sgn (z % 18446744073709551616).toNat = z :=
  bmE (m := 18446744073709551616) (by decide) (by omega) (by omega)
theorem i64i2l {a : Int} (ha : rng a) : (Int32.ofInt a).toInt64 = Int64.ofNat (a % 18446744073709551616).toNat := by
  rw [← Int64.toInt_inj, Int32.toInt_toInt64, i32T ha, i64I]
  exact (sgnE (by omega) (by omega)).symm
theorem i64l2i {u : Nat} (hu : u < 18446744073709551616) : (Int64.ofNat u).toInt32 = Int32.ofInt (Int.bmod u 4294967296) := by
  refine Int32.toInt_inj.mp ((Int64.toInt_toInt32 _).trans ((congrArg (fun z => Int.bmod z 4294967296) i64I).trans (Eq.trans ?_ Int32.toInt_ofInt.symm)))
  exact bmD (z := (u : Int)) (m := 18446744073709551616) (d := 4294967296) (Nat.dvd_of_mod_eq_zero (Nat.eq_of_beq_eq_true rfl))
theorem i64and {u v : Nat} (hu : u < 18446744073709551616) (hv : v < 18446744073709551616) : Int64.ofNat u &&& Int64.ofNat v = Int64.ofNat (u &&& v) :=
  i64ext (Nat.lt_of_le_of_lt Nat.and_le_left hu) (by rw [Int64.toBitVec_and, BitVec.toNat_and, i64T hu, i64T hv])
theorem i64or {u v : Nat} (hu : u < 18446744073709551616) (hv : v < 18446744073709551616) : Int64.ofNat u ||| Int64.ofNat v = Int64.ofNat (u ||| v) :=
  i64ext (Nat.or_lt_two_pow (n := 64) hu hv) (by rw [Int64.toBitVec_or, BitVec.toNat_or, i64T hu, i64T hv])
theorem i64shl {u : Nat} (hu : u < 18446744073709551616) {k : Int} (h0 : 0 ≤ k) (hk : k < 64) : Int64.ofNat u <<< ((Int32.ofInt k).toInt64 &&& 63) = Int64.ofNat (u * 2 ^ k.toNat % 18446744073709551616) := by
  have hs : (((Int32.ofInt k).toInt64 &&& 63).toBitVec.smod 64).toNat = k.toNat := by
    obtain ⟨n, rfl⟩ := Int.eq_ofNat_of_zero_le h0
    have h : ∀ n : Nat, n < 64 → (((Int32.ofInt (n : Int)).toInt64 &&& 63).toBitVec.smod 64).toNat = n := by decide +kernel
    exact h n (by omega)
  refine i64ext (Nat.mod_lt _ (by decide)) ?_
  rw [Int64.toBitVec_shiftLeft, BitVec.shiftLeft_eq', BitVec.toNat_shiftLeft, i64T hu, hs, Nat.shiftLeft_eq]
theorem i64ushr {u : Nat} (hu : u < 18446744073709551616) {k : Int} (h0 : 0 ≤ k) (hk : k < 64) : ((Int64.ofNat u).toUInt64 >>> ((Int32.ofInt k).toInt64.toUInt64 &&& Int64.toUInt64 63)).toInt64 = Int64.ofNat (u / 2 ^ k.toNat) := by
  have hs : (((Int32.ofInt k).toInt64.toUInt64 &&& Int64.toUInt64 63).toBitVec % 64).toNat = k.toNat := by
    obtain ⟨n, rfl⟩ := Int.eq_ofNat_of_zero_le h0
    have h : ∀ n : Nat, n < 64 → (((Int32.ofInt (n : Int)).toInt64.toUInt64 &&& Int64.toUInt64 63).toBitVec % 64).toNat = n := by decide +kernel
    exact h n (by omega)
  refine i64ext (Nat.lt_of_le_of_lt (Nat.div_le_self _ _) hu) ?_
  show (((Int64.ofNat u).toUInt64 >>> ((Int32.ofInt k).toInt64.toUInt64 &&& Int64.toUInt64 63)).toBitVec).toNat = _
  rw [UInt64.toBitVec_shiftRight, BitVec.ushiftRight_eq', BitVec.toNat_ushiftRight, hs, Nat.shiftRight_eq_div_pow]
  congr 1
  exact i64T hu
theorem i64shr {u : Nat} (hu : u < 18446744073709551616) {k : Int} (h0 : 0 ≤ k) (hk : k < 64) : Int64.ofNat u >>> ((Int32.ofInt k).toInt64 &&& 63) = Int64.ofNat (sgn u / 2 ^ k.toNat % 18446744073709551616).toNat := by
  have hs : (((Int32.ofInt k).toInt64 &&& 63).toBitVec.smod 64).toNat = k.toNat := by
    obtain ⟨n, rfl⟩ := Int.eq_ofNat_of_zero_le h0
    have h : ∀ n : Nat, n < 64 → (((Int32.ofInt (n : Int)).toInt64 &&& 63).toBitVec.smod 64).toNat = n := by decide +kernel
    exact h n (by omega)
  have hI : (Int64.ofNat u >>> ((Int32.ofInt k).toInt64 &&& 63)).toInt = sgn u / 2 ^ k.toNat := by
    have h1 : (Int64.ofNat u >>> ((Int32.ofInt k).toInt64 &&& 63)).toInt = (Int64.ofNat u).toInt >>> k.toNat := by
      show (Int64.ofNat u >>> ((Int32.ofInt k).toInt64 &&& 63)).toBitVec.toInt = _
      rw [Int64.toBitVec_shiftRight, BitVec.sshiftRight_eq', BitVec.toInt_sshiftRight, hs]
      rfl
    rw [h1, i64I, Int.shiftRight_eq_div_pow]
    norm_cast
  have b1 := Int64.le_toInt (Int64.ofNat u >>> ((Int32.ofInt k).toInt64 &&& 63))
  have b2 := Int64.toInt_lt (Int64.ofNat u >>> ((Int32.ofInt k).toInt64 &&& 63))
  rw [← Int64.toInt_inj, i64I]
  rw [hI] at b1 b2 ⊢
  exact (sgnE (by omega) (by omega)).symm
theorem i64add {u v : Nat} (hu : u < 18446744073709551616) (hv : v < 18446744073709551616) : Int64.ofNat u + Int64.ofNat v = Int64.ofNat ((u + v) % 18446744073709551616) :=
  i64ext (Nat.mod_lt _ (by decide)) (by rw [Int64.toBitVec_add, BitVec.toNat_add, i64T hu, i64T hv])
theorem i64mul {u v : Nat} (hu : u < 18446744073709551616) (hv : v < 18446744073709551616) : Int64.ofNat u * Int64.ofNat v = Int64.ofNat (u * v % 18446744073709551616) :=
  i64ext (Nat.mod_lt _ (by decide)) (by rw [Int64.toBitVec_mul, BitVec.toNat_mul, i64T hu, i64T hv])

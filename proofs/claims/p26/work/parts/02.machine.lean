/-! THE MACHINE: values, memory, a meaning for each instruction; the world that they speak of -/
abbrev VV : Type := Int ⊕ (Option Nat ⊕ Nat)
abbrev MM : Type := Nat → Nat → Int
abbrev RR : Type := Option VV × MM
abbrev FN : Type := List VV → MM → Option RR
abbrev CF : Type := Nat × List (Option VV) × List VV × MM
abbrev GG : Type := va_G × Nat × (Nat → ClassId) × (Nat → Nat)
abbrev XX : Type := ByteArray × (Nat → Option (Nat × Nat)) × (Nat → Nat → Option (Nat × Nat × FN)) × Nat
abbrev vI (z : Int) : VV := .inl z
abbrev vR (i : Nat) : VV := .inr (.inl (some i))
abbrev vN : VV := .inr (.inl none)
abbrev vJ (u : Nat) : VV := .inr (.inr u)
abbrev rng (z : Int) : Prop := -2147483648 ≤ z ∧ z ≤ 2147483647
def updM (S : MM) (i k : Nat) (z : Int) : MM := fun a b => if a = i ∧ b = k then z else S a b
/-! the cells -/
def kdRiver : List Nat := [5, 3, 10, 10, 3, 10, 10, 3, 10, 10]
def kdScene : List Nat := [6, 7, 10] ++ kdRiver ++ [1, 13, 4] ++ kdRiver ++ kdRiver ++ kdRiver ++ kdRiver ++ [0, 10, 10, 10, 10, 10, 10, 10]
def kdL : List Nat := [8] ++ kdScene ++ [14, 4, 14, 11, 2, 12, 0, 10, 10, 10, 10, 10, 10, 10, 7, 10] ++ kdScene ++ kdScene ++ kdScene ++ kdScene ++ kdScene ++ kdScene ++ kdScene ++ kdScene
def kd (i : Nat) : Nat := kdL.getD i 99
def alRiver : List Nat := [0, 0, 40, 40, 0, 40, 40, 0, 40, 40]
def alScene : List Nat := [0, 0, 4] ++ alRiver ++ [0, 4, 0] ++ alRiver ++ alRiver ++ alRiver ++ alRiver ++ [0, 300, 300, 3, 3, 3, 3, 3]
def alL : List Nat := [0] ++ alScene ++ [6, 0, 2, 2, 0, 80, 0, 300, 300, 3, 3, 3, 3, 3, 0, 4] ++ alScene ++ alScene ++ alScene ++ alScene ++ alScene ++ alScene ++ alScene ++ alScene
def alen (i : Nat) : Nat := alL.getD i 0
def fref (i k : Nat) : Nat := match kd i with
  | 0 => i + k - 4
  | 1 => i + 1 + k
  | 2 => i + 1
  | 3 => i + 1 + k
  | 5 => i + 1 + 3 * k
  | 6 => i + [1, 3, 13, 56].getD k 0
  | 7 => i + 1
  | 8 => [1, 65, 66, 67, 68, 69, 71, 79].getD k 0
  | 13 => i + 2 + 10 * k
  | 14 => if i = 65 then 81 + 64 * k else 465 + 64 * k
  | _ => 0
/-- fields of a class: how many, which are references, which may be written with numbers of which kind (0 int, 1 boolean, 2 char, 9 not at all) -/
def nfl (c : Nat) : Nat := [12, 2, 8, 3, 3, 3, 4, 1, 8, 8].getD c 0
def fks (c : Nat) : List Nat := [[1, 1, 0, 0, 0, 8, 8, 8, 8, 8, 8, 8], [8, 8], [8, 0, 0, 2, 0, 0, 0, 0], [8, 8, 0], [9, 0, 0], [8, 8, 8], [8, 8, 8, 8], [8], [8, 8, 8, 8, 8, 8, 8, 8], [8, 8, 8, 8, 8, 8, 8, 8]].getD c []
def fk (c k : Nat) : Nat := (fks c).getD k 9
/-! the instructions -/
def pcT (pc : Nat) (off : Int) : Nat := ((pc : Int) + off).toNat
def ldX (i : Nat) (pc : Nat) (L : List (Option VV)) (st : List VV) (S : MM) (ok : VV → Bool) : CF ⊕ Option RR := match L[i]? with
  | some (some v) => if ok v = true then .inl (pc, L, v :: st, S) else .inr none
  | _ => .inr none
def isI : VV → Bool | .inl _ => true | _ => false
def isA : VV → Bool | .inr (.inl _) => true | _ => false
def isJ : VV → Bool | .inr (.inr _) => true | _ => false
/-- no long before place i -/
def noJ (L : List (Option VV)) : Nat → Bool
  | 0 => true
  | i + 1 => match L[i]? with | some (some (.inr (.inr _))) => false | _ => true
def stX (i : Nat) (pc : Nat) (L : List (Option VV)) (st : List VV) (S : MM) (ok : VV → Bool) : CF ⊕ Option RR := match st with
  | v :: st => if ok v = true ∧ i < L.length ∧ noJ L i = true then .inl (pc, L.set i (some v), st, S) else .inr none
  | [] => .inr none
def stJ (i : Nat) (pc : Nat) (L : List (Option VV)) (st : List VV) (S : MM) : CF ⊕ Option RR := match st with
  | v :: st => if isJ v = true ∧ i + 1 < L.length ∧ noJ L i = true then .inl (pc, (L.set i (some v)).set (i + 1) none, st, S) else .inr none
  | [] => .inr none
def br1 (pc : Nat) (off : Int) (L : List (Option VV)) (st : List VV) (S : MM) (c : Int → Bool) : CF ⊕ Option RR := match st with
  | .inl a :: st => if rng a ∧ 0 ≤ (pc : Int) + off then (if c a = true then .inl (pcT pc off, L, st, S) else .inl (pc + 3, L, st, S)) else .inr none
  | _ => .inr none
def br2 (pc : Nat) (off : Int) (L : List (Option VV)) (st : List VV) (S : MM) (c : Int → Int → Bool) : CF ⊕ Option RR := match st with
  | .inl b :: .inl a :: st => if (rng a ∧ rng b) ∧ 0 ≤ (pc : Int) + off then (if c a b = true then .inl (pcT pc off, L, st, S) else .inl (pc + 3, L, st, S)) else .inr none
  | _ => .inr none
def cmpB : ClassFile.Cond → Int → Int → Bool
  | .eq, a, b => decide (a = b)
  | .ne, a, b => decide (a ≠ b)
  | .lt, a, b => decide (a < b)
  | .ge, a, b => decide (b ≤ a)
  | .gt, a, b => decide (b < a)
  | .le, a, b => decide (a ≤ b)
def op2 (pc : Nat) (L : List (Option VV)) (st : List VV) (S : MM) (f : Int → Int → Option Int) : CF ⊕ Option RR := match st with
  | .inl b :: .inl a :: st => match f a b with
    | some z => .inl (pc + 1, L, .inl z :: st, S)
    | none => .inr none
  | _ => .inr none
/-- an array's element: ints, booleans, chars; what the outer rows hold -/
def aget (k : Nat) (S : MM) (i : Nat) (j : Int) : Option Int :=
  if kd i = k then (if 0 ≤ j ∧ j < alen i then some (S i j.toNat) else none)
  else if k = 10 ∧ (i = 602 ∨ i = 603) ∧ 0 ≤ j ∧ j < S 604 (i - 602) then some (S i j.toNat)
  else if k = 10 ∧ (i = 606 ∧ S 604 3 = 3) ∧ 0 ≤ j ∧ j < 3 then some (S 606 j.toNat) else none
def ald (k pc : Nat) (L : List (Option VV)) (st : List VV) (S : MM) : CF ⊕ Option RR := match st with
  | .inl j :: .inr (.inl (some i)) :: st => match aget k S i j with
    | some z => .inl (pc + 1, L, .inl z :: st, S)
    | none => .inr none
  | _ => .inr none
def fitB (k : Nat) (z : Int) : Bool := if k = 0 then true else if k = 1 then decide (z = 0 ∨ z = 1) else if k = 2 then decide (0 ≤ z ∧ z ≤ 65535) else false
def ast (k pc : Nat) (L : List (Option VV)) (st : List VV) (S : MM) : CF ⊕ Option RR := match st with
  | .inl z :: .inl j :: .inr (.inl (some i)) :: st => if kd i = k ∧ (0 ≤ j ∧ j < alen i) ∧ fitB (k - 10) z = true then .inl (pc + 1, L, st, updM S i j.toNat z) else if k = 10 ∧ (i = 606 ∧ S 604 3 = 3) ∧ 0 ≤ j ∧ j < 3 then .inl (pc + 1, L, st, updM S 606 j.toNat z) else .inr none
  | _ => .inr none
def recvB (virt : Bool) (ci : Nat) : List VV → Bool
  | .inr (.inl (some i)) :: _ => !virt || decide (kd i = ci)
  | _ => !virt
def rW (rest : List VV) : Bool := Nat.ble rest.length 4 || (Nat.ble rest.length 8 && rest.all (fun v => !isJ v))
def callX (q : Option (Nat × Nat × FN)) (virt : Bool) (pc : Nat) (L : List (Option VV)) (st : List VV) (S : MM) : CF ⊕ Option RR := match q with
  | none => .inr none
  | some (ci, n, f) =>
    if (n ≤ st.length ∧ rW (st.drop n) = true) ∧ recvB virt ci (st.take n).reverse = true then
      (match f (st.take n).reverse S with
        | some (r, S') => .inl (pc + 3, L, r.toList ++ st.drop n, S')
        | none => .inr none)
    else .inr none
def jmp (pc : Nat) (off : Int) (L : List (Option VV)) (st : List VV) (S : MM) : CF ⊕ Option RR := if 0 ≤ (pc : Int) + off then .inl (pcT pc off, L, st, S) else .inr none
def sgn (u : Nat) : Int := Int.bmod u 18446744073709551616
def opJ (pc : Nat) (L : List (Option VV)) (st : List VV) (S : MM) (f : Nat → Nat → Option VV) : CF ⊕ Option RR := match st with
  | .inr (.inr v) :: .inr (.inr u) :: st => if u < 18446744073709551616 ∧ v < 18446744073709551616 then (match f u v with
    | some z => .inl (pc + 1, L, z :: st, S)
    | none => .inr none) else .inr none
  | _ => .inr none
def opS (pc : Nat) (L : List (Option VV)) (st : List VV) (S : MM) (f : Nat → Nat → Nat) : CF ⊕ Option RR := match st with
  | .inl k :: .inr (.inr u) :: st => if u < 18446744073709551616 ∧ 0 ≤ k ∧ k < 64 then .inl (pc + 1, L, vJ (f u k.toNat) :: st, S) else .inr none
  | _ => .inr none
def srt2 (ps : Array (Int × Int)) : Bool := (ps.toList.zip (ps.toList.drop 1)).all (fun (a, next) => a.1 < next.1)
def exi (X : XX) (pc : Nat) (L : List (Option VV)) (st : List VV) (S : MM) : Instr → CF ⊕ Option RR
  | .iconst n => .inl (pc + 1, L, .inl n :: st, S)
  | .bipush n => if -128 ≤ n ∧ n ≤ 127 then .inl (pc + 2, L, .inl n :: st, S) else .inr none
  | .sipush n => if -32768 ≤ n ∧ n ≤ 32767 then .inl (pc + 3, L, .inl n :: st, S) else .inr none
  | .lconst n => .inl (pc + 1, L, vJ n.val :: st, S)
  | .iload_n k => ldX k.val (pc + 1) L st S isI
  | .iload i => ldX i (pc + 2) L st S isI
  | .aload_n k => ldX k.val (pc + 1) L st S isA
  | .aload i => ldX i (pc + 2) L st S isA
  | .lload_n k => ldX k.val (pc + 1) L st S isJ
  | .lload i => ldX i (pc + 2) L st S isJ
  | .istore_n k => stX k.val (pc + 1) L st S isI
  | .istore i => stX i (pc + 2) L st S isI
  | .astore_n k => stX k.val (pc + 1) L st S isA
  | .astore i => stX i (pc + 2) L st S isA
  | .lstore_n k => stJ k.val (pc + 1) L st S
  | .lstore i => stJ i (pc + 2) L st S
  | .iinc i n => match L[i]? with
    | some (some (.inl z)) => if i < L.length ∧ noJ L i = true then .inl (pc + 3, L.set i (some (.inl (z + n))), st, S) else .inr none
    | _ => .inr none
  | .iadd => op2 pc L st S (fun a b => some (a + b))
  | .isub => op2 pc L st S (fun a b => some (a - b))
  | .imul => op2 pc L st S (fun a b => some (a * b))
  | .idiv => op2 pc L st S (fun a b => if rng a ∧ 0 < b ∧ b ≤ 2147483647 then some (a.tdiv b) else none)
  | .irem => op2 pc L st S (fun a b => if rng a ∧ 0 < b ∧ b ≤ 2147483647 then some (a.tmod b) else none)
  | .iand => op2 pc L st S (fun a b => if b = 31 then some (a % 32) else if b = 2147483647 then some (a % 2147483648) else none)
  | .ishr => op2 pc L st S (fun a b => if rng a ∧ 0 ≤ b ∧ b < 32 then some (a / 2 ^ b.toNat) else none)
  | .i2c => match st with
    | .inl a :: st => .inl (pc + 1, L, .inl (a % 65536) :: st, S)
    | _ => .inr none
  | .i2l => match st with
    | .inl a :: st => if rng a then .inl (pc + 1, L, vJ (a % 18446744073709551616).toNat :: st, S) else .inr none
    | _ => .inr none
  | .l2i => match st with
    | .inr (.inr u) :: st => if u < 18446744073709551616 then .inl (pc + 1, L, .inl (Int.bmod u 4294967296) :: st, S) else .inr none
    | _ => .inr none
  | .ldc2_w idx => match X.2.1 idx with
    | some (98, u) => .inl (pc + 3, L, vJ u :: st, S)
    | _ => .inr none
  | .ldc idx => match X.2.1 idx with
    | some (96, u) => .inl (pc + 2, L, .inl (u : Int) :: st, S)
    | _ => .inr none
  | .ladd => opJ pc L st S (fun u v => some (vJ ((u + v) % 18446744073709551616)))
  | .lmul => opJ pc L st S (fun u v => some (vJ (u * v % 18446744073709551616)))
  | .lushr => opS pc L st S (fun u k => u / 2 ^ k)
  | .lshl => opS pc L st S (fun u k => u * 2 ^ k % 18446744073709551616)
  | .lshr => opS pc L st S (fun u k => (sgn u / 2 ^ k % 18446744073709551616).toNat)
  | .land => opJ pc L st S (fun u v => some (vJ (u &&& v)))
  | .lor => opJ pc L st S (fun u v => some (vJ (u ||| v)))
  | .lcmp => opJ pc L st S (fun u v => some (.inl (if u = v then 0 else if sgn u < sgn v then -1 else 1)))
  | .dup => match st with
    | v :: st => if isJ v = false then .inl (pc + 1, L, v :: v :: st, S) else .inr none
    | _ => .inr none
  | .pop => match st with
    | v :: st => if isJ v = false then .inl (pc + 1, L, st, S) else .inr none
    | _ => .inr none
  | .dup2 => match st with
    | v :: w :: st => if isJ v = false ∧ isJ w = false then .inl (pc + 1, L, v :: w :: v :: w :: st, S) else .inr none
    | _ => .inr none
  | .ifCond c off => br1 pc off L st S (fun a => cmpB c a 0)
  | .if_icmp c off => br2 pc off L st S (cmpB c)
  | .ifnull off => match st with
    | .inr (.inl none) :: st => jmp pc off L st S
    | .inr (.inl (some _)) :: st => .inl (pc + 3, L, st, S)
    | _ => .inr none
  | .ifnonnull off => match st with
    | .inr (.inl none) :: st => .inl (pc + 3, L, st, S)
    | .inr (.inl (some _)) :: st => jmp pc off L st S
    | _ => .inr none
  | .aconst_null => .inl (pc + 1, L, vN :: st, S)
  | .goto off => jmp pc off L st S
  | .tableswitch d lo hi offs => match st with
    | .inl x :: st => if rng x then (if x < lo ∨ hi < x then jmp pc d L st S else match offs[(x - lo).toNat]? with
      | some o => jmp pc o L st S
      | none => .inr none) else .inr none
    | _ => .inr none
  | .lookupswitch d ps => match st with
    | .inl x :: st => if rng x ∧ srt2 ps = true then jmp pc (Op.lookupswitch.offset ps.toList d x) L st S else .inr none
    | _ => .inr none
  | .getfield idx => match X.2.1 idx, st with
    | some (ci, k), .inr (.inl (some i)) :: st => if kd i = ci ∧ ci < 10 ∧ k < nfl ci then .inl (pc + 3, L, (if fk ci k = 8 then vR (fref i k) else .inl (S i k)) :: st, S) else .inr none
    | _, _ => .inr none
  | .putfield idx => match X.2.1 idx, st with
    | some (ci, k), .inl z :: .inr (.inl (some i)) :: st => if (kd i = ci ∧ ci < 10 ∧ k < nfl ci) ∧ fitB (fk ci k) z = true then .inl (pc + 3, L, st, updM S i k z) else .inr none
    | _, _ => .inr none
  | .getstatic idx => match X.2.1 idx with
    | some (97, _) => .inl (pc + 3, L, vR 602 :: st, S)
    | _ => .inr none
  | .arraylength => match st with
    | .inr (.inl (some i)) :: st => if 10 ≤ kd i ∧ kd i ≤ 14 then .inl (pc + 1, L, .inl (alen i) :: st, S) else if i = 602 ∨ i = 603 then .inl (pc + 1, L, .inl (S 604 (i - 602)) :: st, S) else .inr none
    | _ => .inr none
  | .iaload => ald 10 pc L st S
  | .baload => ald 11 pc L st S
  | .caload => ald 12 pc L st S
  | .aaload => match st with
    | .inl j :: .inr (.inl (some i)) :: st => if (kd i = 13 ∨ kd i = 14) ∧ 0 ≤ j ∧ j < alen i then .inl (pc + 1, L, vR (fref i j.toNat) :: st, S) else .inr none
    | _ => .inr none
  | .iastore => ast 10 pc L st S
  | .bastore => ast 11 pc L st S
  | .castore => ast 12 pc L st S
  | .invokevirtual idx => callX (X.2.2.1 0 idx) true pc L st S
  | .invokestatic idx => callX (X.2.2.1 1 idx) false pc L st S
  | .ireturn => match st with
    | [.inl z] => if (1 ≤ X.2.2.2 ∧ X.2.2.2 ≤ 3) ∧ fitB (X.2.2.2 - 1) z = true then .inr (some (some (.inl z), S)) else .inr none
    | _ => .inr none
  | .areturn => match st with
    | [.inr (.inl r)] => if X.2.2.2 = 4 then .inr (some (some (.inr (.inl r)), S)) else .inr none
    | _ => .inr none
  | .lreturn => match st with
    | [.inr (.inr u)] => if X.2.2.2 = 5 then .inr (some (some (vJ u), S)) else .inr none
    | _ => .inr none
  | .return_ => match st with
    | [] => if X.2.2.2 = 0 then .inr (some (none, S)) else .inr none
    | _ => .inr none
  | _ => .inr none
def lenI : Instr → Nat → Bool
  | .bipush _, n => n == 2
  | .ldc _, n => n == 2
  | .iload _, n => n == 2
  | .lload _, n => n == 2
  | .aload _, n => n == 2
  | .istore _, n => n == 2
  | .lstore _, n => n == 2
  | .astore _, n => n == 2
  | .sipush _, n => n == 3
  | .getfield _, n => n == 3
  | .putfield _, n => n == 3
  | .getstatic _, n => n == 3
  | .invokevirtual _, n => n == 3
  | .invokestatic _, n => n == 3
  | .ifCond _ _, n => n == 3
  | .if_icmp _ _, n => n == 3
  | .goto _, n => n == 3
  | .ifnull _, n => n == 3
  | .ifnonnull _, n => n == 3
  | .iinc _ _, n => n == 3
  | .ldc2_w _, n => n == 3
  | .tableswitch _ _ _ _, _ => true
  | .lookupswitch _ _, _ => true
  | _, n => n == 1
def stp (X : XX) (c : CF) : CF ⊕ Option RR := match decode X.1 c.1 with
  | .ok (i, n) => if lenI i n = true then exi X c.1 c.2.1 c.2.2.1 c.2.2.2 i else .inr none
  | _ => .inr none
def ev (X : XX) : Nat → CF → Option RR
  | 0, _ => none
  | n + 1, c => match stp X c with
    | .inl c' => ev X n c'
    | .inr r => r
theorem ev_more (X : XX) : ∀ (n : Nat) (c : CF) (r : RR), ev X n c = some r → ev X (n + 1) c = some r := by
  intro n
  induction n with
  | zero => intro c r h; cases h
  | succ n ih =>
    intro c r h
    rw [ev] at h ⊢
    split at h
    · exact ih _ _ h
    · exact h
theorem ev_le (X : XX) {n k : Nat} (hk : n ≤ k) {c : CF} {r : RR} (h : ev X n c = some r) : ev X k c = some r := by
  induction hk with
  | refl => exact h
  | step _ ih => exact ev_more X _ _ _ ih
noncomputable def rn (X : XX) (c : CF) : Option RR := @dite (Option RR) (∃ r n, ev X n c = some r) (Classical.propDecidable _) (fun h => some h.choose) (fun _ => none)
theorem rn_iff (X : XX) (c : CF) (r : RR) : rn X c = some r ↔ ∃ n, ev X n c = some r := by
  unfold rn
  constructor
  · intro h
    split at h
    next q =>
      obtain ⟨n, hn⟩ := q.choose_spec
      cases h
      exact ⟨n, hn⟩
    next => cases h
  · rintro ⟨n, hn⟩
    have q : ∃ r n, ev X n c = some r := ⟨r, n, hn⟩
    rw [dif_pos q]
    obtain ⟨k, hk⟩ := q.choose_spec
    have h1 := ev_le X (Nat.le_max_left n k) hn
    have h2 := ev_le X (Nat.le_max_right n k) hk
    rw [h1] at h2
    exact h2.symm
theorem rn_unf (X : XX) (c : CF) : rn X c = match stp X c with | .inl c' => rn X c' | .inr r => r := by
  apply Option.ext
  intro r
  rw [rn_iff]
  constructor
  · rintro ⟨n, hn⟩
    cases n with
    | zero => cases hn
    | succ n =>
      rw [ev] at hn
      split at hn
      next c' hc => exact (rn_iff X c' r).mpr ⟨n, hn⟩
      next hc => exact hn
  · intro h
    split at h
    next c' hc =>
      obtain ⟨n, hn⟩ := (rn_iff X c' r).mp h
      exact ⟨n + 1, by rw [ev, hc]; exact hn⟩
    next hc => exact ⟨1, by rw [ev, hc]; exact h⟩
theorem rn_step {X : XX} {c c' : CF} {i : Instr} {n : Nat} (hd : decode X.1 c.1 = .ok (i, n)) (hn : lenI i n = true) (h : exi X c.1 c.2.1 c.2.2.1 c.2.2.2 i = .inl c') : rn X c = rn X c' := by
  rw [rn_unf, stp, hd]
  simp only [hn, if_true, h]
theorem rn_end {X : XX} {c : CF} {r : Option RR} {i : Instr} {n : Nat} (hd : decode X.1 c.1 = .ok (i, n)) (hn : lenI i n = true) (h : exi X c.1 c.2.1 c.2.2.1 c.2.2.2 i = .inr r) : rn X c = r := by
  rw [rn_unf, stp, hd]
  simp only [hn, if_true, h]

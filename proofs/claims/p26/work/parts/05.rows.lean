/-! the rows of the kit, over the meaning: KK p l e R s m args below meth c cells slots Q G nL c: from c the machine comes to Q -/
def CTX (p : Program) (s : State) (m : MethodId) (args : Array Value) (c : Code) (own : String) (X : XX) (nL : Nat) : Prop := p.tables.exec = Jvm.exec ∧ c.code = X.1 ∧ c.maxLocals = nL ∧ s.vm.findClass own = some m.cls ∧ (∀ w ∈ lw_g, w.before args s = true) ∧ NW s
def KK (p : Program) (l : Launch) (e : Env) (R : Room) (s : State) (m : MethodId) (args : Array Value) (below : List Frame) (meth : Method) (c : Code) (cells slots : Nat) (Q : State → Prop) (G : GG) (nL : Nat) (cf : CF) : Prop :=
  ∀ (H : Heap) (locs : List Loc) (ls : Array Slot), WW G s cf.2.2.2 H locs → LV G ls nL cf.2.1 → W p l e R s m args below meth c H locs cells slots Q (F0 m cf.1 ls (cf.2.2.1.map (cv G)))
/-- the class's own words for its fields: pool index, class number, field -/
def fword (own : String) (idx ci k : Nat) : Cond := .fieldLink own idx ((vwCl.getD ci (RX0, TX0, 12)).2.1 k).1 ((vwCl.getD ci (RX0, TX0, 12)).2.1 k).2.1 ((vwCl.getD ci (RX0, TX0, 12)).2.1 k).2.2.1
def fwordN (own : String) (idx ci k : Nat) : Cond := .fieldLinkNest own idx ((vwCl.getD ci (RX0, TX0, 12)).2.1 k).1 ((vwCl.getD ci (RX0, TX0, 12)).2.1 k).2.1 ((vwCl.getD ci (RX0, TX0, 12)).2.1 k).2.2.1 "LeapStones"
def FOK (own : String) (fc : Nat → Option (Nat × Nat)) : Prop := ∀ idx ci k : Nat, fc idx = some (ci, k) → (ci < 10 → fword own idx ci k ∈ lw_g ∨ fwordN own idx ci k ∈ nws) ∧ (ci = 97 → Cond.fieldLink own idx "LeapStones" "TURNS" "[I" ∈ lw_g) ∧ (ci = 98 → k < 18446744073709551616 ∧ Cond.constantLong own idx (Int64.ofNat k) ∈ lw_g) ∧ (ci = 96 → Cond.constant own idx (Int32.ofInt (k : Int)) ∈ lw_g)
theorem vwCl_at {ci : Nat} (h : ci < 10) : vwCl[ci]? = some (vwCl.getD ci (RX0, TX0, 12)) ∧ (vwCl.getD ci (RX0, TX0, 12)).2.2 = nfl ci := by
  rcases (show ci = 0 ∨ ci = 1 ∨ ci = 2 ∨ ci = 3 ∨ ci = 4 ∨ ci = 5 ∨ ci = 6 ∨ ci = 7 ∨ ci = 8 ∨ ci = 9 by omega) with rfl | rfl | rfl | rfl | rfl | rfl | rfl | rfl | rfl | rfl <;> exact ⟨rfl, rfl⟩
theorem vwCl_in {ci : Nat} (h : ci < 10) : ∀ w ∈ u_ws (vwCl.getD ci (RX0, TX0, 12)).1 (vwCl.getD ci (RX0, TX0, 12)).2.1 (vwCl.getD ci (RX0, TX0, 12)).2.2, w ∈ lw_g := by
  rcases (show ci = 0 ∨ ci = 1 ∨ ci = 2 ∨ ci = 3 ∨ ci = 4 ∨ ci = 5 ∨ ci = 6 ∨ ci = 7 ∨ ci = 8 ∨ ci = 9 by omega) with rfl | rfl | rfl | rfl | rfl | rfl | rfl | rfl | rfl | rfl
  · exact inX0
  · exact inX1
  · exact inX2
  · exact inX3
  · exact inX4
  · exact inX5
  · exact inX6
  · exact inX7
  · exact inX8
  · exact inX8
def vwT (ci k : Nat) : FieldType := match ci with
  | 0 => tyX0 k
  | 1 => tyX1 k
  | 2 => tyX2 k
  | 3 => tyX3 k
  | 4 => tyX4 k
  | 5 => tyX5 k
  | 6 => tyX6 k
  | 7 => tyX7 k
  | 8 => tyX8 k
  | _ => tyX8 k
theorem vwCl_ty {ci : Nat} (h : ci < 10) : ∀ k, k < (vwCl.getD ci (RX0, TX0, 12)).2.2 → parseFieldDescriptor ((vwCl.getD ci (RX0, TX0, 12)).2.1 k).2.2.1 = some (vwT ci k) := by
  rcases (show ci = 0 ∨ ci = 1 ∨ ci = 2 ∨ ci = 3 ∨ ci = 4 ∨ ci = 5 ∨ ci = 6 ∨ ci = 7 ∨ ci = 8 ∨ ci = 9 by omega) with rfl | rfl | rfl | rfl | rfl | rfl | rfl | rfl | rfl | rfl
  · exact tyX0_ok
  · exact tyX1_ok
  · exact tyX2_ok
  · exact tyX3_ok
  · exact tyX4_ok
  · exact tyX5_ok
  · exact tyX6_ok
  · exact tyX7_ok
  · exact tyX8_ok
  · exact tyX8_ok
theorem vwCl_nm {ci : Nat} (h : ci < 10) : ∀ a, a < (vwCl.getD ci (RX0, TX0, 12)).2.2 → ∀ b, b < (vwCl.getD ci (RX0, TX0, 12)).2.2 → a ≠ b → ((vwCl.getD ci (RX0, TX0, 12)).2.1 a).2.1 ≠ ((vwCl.getD ci (RX0, TX0, 12)).2.1 b).2.1 := by
  rcases (show ci = 0 ∨ ci = 1 ∨ ci = 2 ∨ ci = 3 ∨ ci = 4 ∨ ci = 5 ∨ ci = 6 ∨ ci = 7 ∨ ci = 8 ∨ ci = 9 by omega) with rfl | rfl | rfl | rfl | rfl | rfl | rfl | rfl | rfl | rfl
  · exact nmX0
  · exact nmX1
  · exact nmX2
  · exact nmX3
  · exact nmX4
  · exact nmX5
  · exact nmX6
  · exact nmX7
  · exact nmX8
  · exact nmX8
/-- a field that may be written: its type, not final -/
theorem vwCl_put {ci k : Nat} (h : ci < 10) (hk : k < nfl ci) (hf : fk ci k ≤ 2) : ((vwCl.getD ci (RX0, TX0, 12)).2.1 k).2.2.2 = false ∧ vwT ci k = [FieldType.int, .boolean, .char].getD (fk ci k) .int := by
  have key : ∀ ci : Fin 10, ∀ k : Fin 17, k.val < nfl ci.val → fk ci.val k.val ≤ 2 → ((vwCl.getD ci.val (RX0, TX0, 12)).2.1 k.val).2.2.2 = false ∧ vwT ci.val k.val = [FieldType.int, .boolean, .char].getD (fk ci.val k.val) .int := by decide +kernel
  have h17 : nfl ci ≤ 17 := by
    have k2 : ∀ ci : Fin 10, nfl ci.val ≤ 17 := by decide +kernel
    exact k2 ⟨ci, h⟩
  exact key ⟨ci, h⟩ ⟨k, by omega⟩ hk hf
theorem i32char {z : Int} (h0 : 0 ≤ z) (h1 : z ≤ 65535) : narrow .char (.int (Int32.ofInt z)) = .int (Int32.ofInt z) ∧ fits .char (.int (Int32.ofInt z)) = true := by
  obtain ⟨n, rfl⟩ := Int.eq_ofNat_of_zero_le h0
  have e : Int32.ofInt (n : Int) = nI n := rfl
  rw [e]
  exact pk_charN (by omega)
theorem fit_ok {k : Nat} {z : Int} (hk : fitB k z = true) : narrow ([FieldType.int, .boolean, .char].getD k .int) (.int (Int32.ofInt z)) = .int (Int32.ofInt z) ∧ fits ([FieldType.int, .boolean, .char].getD k .int) (.int (Int32.ofInt z)) = true ∧ k ≤ 2 := by
  unfold fitB at hk
  split at hk
  next h =>
    subst h
    exact ⟨rfl, rfl, by omega⟩
  next =>
    split at hk
    next h =>
      subst h
      rcases (of_decide_eq_true hk) with rfl | rfl
      · exact ⟨by decide, by decide, by omega⟩
      · exact ⟨by decide, by decide, by omega⟩
    next =>
      split at hk
      next h =>
        subst h
        obtain ⟨h0, h1⟩ := of_decide_eq_true hk
        exact ⟨(i32char h0 h1).1, (i32char h0 h1).2, by omega⟩
      next => cases hk
theorem ent_obj (G : GG) (S : MM) {i ci : Nat} (h : kd i = ci) (hc : ci < 10) : ent G S i = .inr (ci, (List.range (nfl ci)).map (fent G S i)) := by
  unfold ent
  rw [if_pos (by omega), h]
theorem ent_prim (G : GG) (S : MM) {i k : Nat} (h : kd i = k) (h1 : 10 ≤ k) (h2 : k < 13) : ent G S i = .inl (G.2.2.1 k, (alen i, .inl (fun j => Int32.ofInt (S i j)))) := by
  unfold ent
  rw [if_neg (by omega), if_pos (by omega), h]
theorem ent_ref (G : GG) (S : MM) {i k : Nat} (h : kd i = k) (h1 : 13 ≤ k) : ent G S i = .inl (G.2.2.1 k, (alen i, .inr (.inr (.inr (.inr (fun j => some (ad G (fref i j)))))))) := by
  unfold ent
  rw [if_neg (by omega), if_neg (by omega), h]
section ROWS
variable {p : Program} {l : Launch} {e : Env} {R : Room} {s : State} {m : MethodId} {args : Array Value} {below : List Frame} {meth : Method} {c : Code} {cells slots : Nat} {Q : State → Prop} {G : GG} {nL : Nat} {own : String} {X : XX}
variable {pc : Nat} {L : List (Option VV)} {st : List VV} {S : MM}
theorem r_iconst {n : Int} (C : CTX p s m args c own X nL) (hd : decode X.1 pc = .ok (.iconst n, 1)) (k : KK p l e R s m args below meth c cells slots Q G nL (pc + 1, L, .inl n :: st, S)) : KK p l e R s m args below meth c cells slots Q G nL (pc, L, st, S) :=
  fun H locs ls hw hl => lv_iconst C.1 C.2.1 hd rfl (k H locs ls hw hl)
theorem r_bipush {n : Int} (C : CTX p s m args c own X nL) (hd : decode X.1 pc = .ok (.bipush n, 2)) (h1 : -128 ≤ n ∧ n ≤ 127) (k : KK p l e R s m args below meth c cells slots Q G nL (pc + 2, L, .inl n :: st, S)) : KK p l e R s m args below meth c cells slots Q G nL (pc, L, st, S) :=
  fun H locs ls hw hl => lv_bipush C.1 C.2.1 hd (by rw [← Int32.toInt_inj, Int8.toInt_toInt32, i32T ⟨by omega, by omega⟩, Int8.toInt_ofInt]; exact Int.bmod_eq_of_le (by simp [Int8.size]; omega) (by simp [Int8.size]; omega)) (k H locs ls hw hl)
theorem r_sipush {n : Int} (C : CTX p s m args c own X nL) (hd : decode X.1 pc = .ok (.sipush n, 3)) (h1 : -32768 ≤ n ∧ n ≤ 32767) (k : KK p l e R s m args below meth c cells slots Q G nL (pc + 3, L, .inl n :: st, S)) : KK p l e R s m args below meth c cells slots Q G nL (pc, L, st, S) :=
  fun H locs ls hw hl => lv_sipush C.1 C.2.1 hd (by rw [← Int32.toInt_inj, Int16.toInt_toInt32, i32T ⟨by omega, by omega⟩, Int16.toInt_ofInt]; exact Int.bmod_eq_of_le (by simp [Int16.size]; omega) (by simp [Int16.size]; omega)) (k H locs ls hw hl)
theorem r_lconst {n : Fin 2} (C : CTX p s m args c own X nL) (hd : decode X.1 pc = .ok (.lconst n, 1)) (k : KK p l e R s m args below meth c cells slots Q G nL (pc + 1, L, vJ n.val :: st, S)) : KK p l e R s m args below meth c cells slots Q G nL (pc, L, st, S) :=
  fun H locs ls hw hl => lv_lconst C.1 C.2.1 hd rfl (k H locs ls hw hl)
theorem r_iload {i : Nat} {z : Int} (C : CTX p s m args c own X nL) (hd : decode X.1 pc = .ok (.iload i, 2)) (h : L[i]? = some (some (.inl z))) (k : KK p l e R s m args below meth c cells slots Q G nL (pc + 2, L, .inl z :: st, S)) : KK p l e R s m args below meth c cells slots Q G nL (pc, L, st, S) :=
  fun H locs ls hw hl => lv_iload C.1 C.2.1 hd (hl.get h) (k H locs ls hw hl)
theorem r_iload_n {i : Fin 4} {z : Int} (C : CTX p s m args c own X nL) (hd : decode X.1 pc = .ok (.iload_n i, 1)) (h : L[i.val]? = some (some (.inl z))) (k : KK p l e R s m args below meth c cells slots Q G nL (pc + 1, L, .inl z :: st, S)) : KK p l e R s m args below meth c cells slots Q G nL (pc, L, st, S) :=
  fun H locs ls hw hl => lv_iload_n C.1 C.2.1 hd rfl (hl.get h) (k H locs ls hw hl)
theorem r_lload {i : Nat} {u : Nat} (C : CTX p s m args c own X nL) (hd : decode X.1 pc = .ok (.lload i, 2)) (h : L[i]? = some (some (vJ u))) (k : KK p l e R s m args below meth c cells slots Q G nL (pc + 2, L, vJ u :: st, S)) : KK p l e R s m args below meth c cells slots Q G nL (pc, L, st, S) :=
  fun H locs ls hw hl => lv_lload C.1 C.2.1 hd (hl.get h) (k H locs ls hw hl)
theorem r_lload_n {i : Fin 4} {u : Nat} (C : CTX p s m args c own X nL) (hd : decode X.1 pc = .ok (.lload_n i, 1)) (h : L[i.val]? = some (some (vJ u))) (k : KK p l e R s m args below meth c cells slots Q G nL (pc + 1, L, vJ u :: st, S)) : KK p l e R s m args below meth c cells slots Q G nL (pc, L, st, S) :=
  fun H locs ls hw hl => lv_lload_n C.1 C.2.1 hd rfl (hl.get h) (k H locs ls hw hl)
theorem r_aload {i : Nat} {r : Option Nat} (C : CTX p s m args c own X nL) (hd : decode X.1 pc = .ok (.aload i, 2)) (h : L[i]? = some (some (.inr (.inl r)))) (k : KK p l e R s m args below meth c cells slots Q G nL (pc + 2, L, .inr (.inl r) :: st, S)) : KK p l e R s m args below meth c cells slots Q G nL (pc, L, st, S) := by
  intro H locs ls hw hl
  have g := hl.get h
  have k := k H locs ls hw hl
  cases r with
  | none => exact lv_aloadN C.1 C.2.1 hd g k
  | some r => exact lv_aload C.1 C.2.1 hd g k
theorem r_aload_n {i : Fin 4} {r : Option Nat} (C : CTX p s m args c own X nL) (hd : decode X.1 pc = .ok (.aload_n i, 1)) (h : L[i.val]? = some (some (.inr (.inl r)))) (k : KK p l e R s m args below meth c cells slots Q G nL (pc + 1, L, .inr (.inl r) :: st, S)) : KK p l e R s m args below meth c cells slots Q G nL (pc, L, st, S) := by
  intro H locs ls hw hl
  have g := hl.get h
  have k := k H locs ls hw hl
  cases r with
  | none => exact lv_aload_nN C.1 C.2.1 hd rfl g k
  | some r => exact lv_aload_n C.1 C.2.1 hd rfl g k
theorem r_istore {i : Nat} {z : Int} (C : CTX p s m args c own X nL) (hd : decode X.1 pc = .ok (.istore i, 2)) (hi : i < L.length) (hn : noJ L i = true) (k : KK p l e R s m args below meth c cells slots Q G nL (pc + 2, L.set i (some (.inl z)), st, S)) : KK p l e R s m args below meth c cells slots Q G nL (pc, L, .inl z :: st, S) :=
  fun H locs _ hw hl => lv_istore C.1 C.2.1 hd hl.1 (Nat.lt_of_lt_of_le hi hl.2) rfl fun ls' h' => k H locs ls' hw (LV.set1 (v := .inl z) hn hl.2 h')
theorem r_istore_n {i : Fin 4} {z : Int} (C : CTX p s m args c own X nL) (hd : decode X.1 pc = .ok (.istore_n i, 1)) (hi : i.val < L.length) (hn : noJ L i.val = true) (k : KK p l e R s m args below meth c cells slots Q G nL (pc + 1, L.set i.val (some (.inl z)), st, S)) : KK p l e R s m args below meth c cells slots Q G nL (pc, L, .inl z :: st, S) :=
  fun H locs _ hw hl => lv_istore_n C.1 C.2.1 hd rfl hl.1 (Nat.lt_of_lt_of_le hi hl.2) rfl fun ls' h' => k H locs ls' hw (LV.set1 (v := .inl z) hn hl.2 h')
theorem r_lstore {i : Nat} {u : Nat} (C : CTX p s m args c own X nL) (hd : decode X.1 pc = .ok (.lstore i, 2)) (hi : i + 1 < L.length) (hn : noJ L i = true) (k : KK p l e R s m args below meth c cells slots Q G nL (pc + 2, (L.set i (some (vJ u))).set (i + 1) none, st, S)) : KK p l e R s m args below meth c cells slots Q G nL (pc, L, vJ u :: st, S) :=
  fun H locs _ hw hl => lv_lstore C.1 C.2.1 hd hl.1 (Nat.lt_of_lt_of_le hi hl.2) rfl fun ls' h' => k H locs ls' hw (LV.set2 (v := vJ u) hn hl.2 h')
theorem r_lstore_n {i : Fin 4} {u : Nat} (C : CTX p s m args c own X nL) (hd : decode X.1 pc = .ok (.lstore_n i, 1)) (hi : i.val + 1 < L.length) (hn : noJ L i.val = true) (k : KK p l e R s m args below meth c cells slots Q G nL (pc + 1, (L.set i.val (some (vJ u))).set (i.val + 1) none, st, S)) : KK p l e R s m args below meth c cells slots Q G nL (pc, L, vJ u :: st, S) :=
  fun H locs _ hw hl => lv_lstore_n C.1 C.2.1 hd rfl hl.1 (Nat.lt_of_lt_of_le hi hl.2) rfl fun ls' h' => k H locs ls' hw (LV.set2 (v := vJ u) hn hl.2 h')
theorem r_astore {i : Nat} {r : Option Nat} (C : CTX p s m args c own X nL) (hd : decode X.1 pc = .ok (.astore i, 2)) (hi : i < L.length) (hn : noJ L i = true) (k : KK p l e R s m args below meth c cells slots Q G nL (pc + 2, L.set i (some (.inr (.inl r))), st, S)) : KK p l e R s m args below meth c cells slots Q G nL (pc, L, .inr (.inl r) :: st, S) := by
  intro H locs ls hw hl
  cases r with
  | none => exact lv_astoreN C.1 C.2.1 hd hl.1 (Nat.lt_of_lt_of_le hi hl.2) rfl fun ls' h' => k H locs ls' hw (LV.set1 (v := vN) hn hl.2 h')
  | some r => exact lv_astore C.1 C.2.1 hd hl.1 (Nat.lt_of_lt_of_le hi hl.2) rfl fun ls' h' => k H locs ls' hw (LV.set1 (v := vR r) hn hl.2 h')
theorem r_astore_n {i : Fin 4} {r : Option Nat} (C : CTX p s m args c own X nL) (hd : decode X.1 pc = .ok (.astore_n i, 1)) (hi : i.val < L.length) (hn : noJ L i.val = true) (k : KK p l e R s m args below meth c cells slots Q G nL (pc + 1, L.set i.val (some (.inr (.inl r))), st, S)) : KK p l e R s m args below meth c cells slots Q G nL (pc, L, .inr (.inl r) :: st, S) := by
  intro H locs ls hw hl
  cases r with
  | none => exact lv_astore_nN C.1 C.2.1 hd rfl hl.1 (Nat.lt_of_lt_of_le hi hl.2) rfl fun ls' h' => k H locs ls' hw (LV.set1 (v := vN) hn hl.2 h')
  | some r => exact lv_astore_n C.1 C.2.1 hd rfl hl.1 (Nat.lt_of_lt_of_le hi hl.2) rfl fun ls' h' => k H locs ls' hw (LV.set1 (v := vR r) hn hl.2 h')
theorem r_iinc {i : Nat} {n z : Int} (C : CTX p s m args c own X nL) (hd : decode X.1 pc = .ok (.iinc i n, 3)) (h : L[i]? = some (some (.inl z))) (hi : i < L.length) (hn : noJ L i = true) (k : KK p l e R s m args below meth c cells slots Q G nL (pc + 3, L.set i (some (.inl (z + n))), st, S)) : KK p l e R s m args below meth c cells slots Q G nL (pc, L, st, S) := by
  intro H locs ls hw hl
  obtain ⟨j, hj⟩ := List.getElem?_of_mem (mem_asL (G := G) (q := (i, Value.int (Int32.ofInt z))).mpr ⟨.inl z, h, rfl⟩)
  exact lv_iinc C.1 C.2.1 hd hl.1 hj (i32add z n) (Nat.lt_of_lt_of_le hi hl.2) rfl fun ls' h' => k H locs ls' hw (LV.set1 (v := .inl (z + n)) hn hl.2 h')
theorem r_iadd {a b : Int} (C : CTX p s m args c own X nL) (hd : decode X.1 pc = .ok (.iadd, 1)) (k : KK p l e R s m args below meth c cells slots Q G nL (pc + 1, L, .inl (a + b) :: st, S)) : KK p l e R s m args below meth c cells slots Q G nL (pc, L, .inl b :: .inl a :: st, S) :=
  fun H locs ls hw hl => lv_iadd C.1 C.2.1 hd (by rw [i32add]; exact k H locs ls hw hl)
theorem r_isub {a b : Int} (C : CTX p s m args c own X nL) (hd : decode X.1 pc = .ok (.isub, 1)) (k : KK p l e R s m args below meth c cells slots Q G nL (pc + 1, L, .inl (a - b) :: st, S)) : KK p l e R s m args below meth c cells slots Q G nL (pc, L, .inl b :: .inl a :: st, S) :=
  fun H locs ls hw hl => lv_isub C.1 C.2.1 hd (by rw [i32sub]; exact k H locs ls hw hl)
theorem r_imul {a b : Int} (C : CTX p s m args c own X nL) (hd : decode X.1 pc = .ok (.imul, 1)) (k : KK p l e R s m args below meth c cells slots Q G nL (pc + 1, L, .inl (a * b) :: st, S)) : KK p l e R s m args below meth c cells slots Q G nL (pc, L, .inl b :: .inl a :: st, S) :=
  fun H locs ls hw hl => lv_imul C.1 C.2.1 hd (by rw [i32mul]; exact k H locs ls hw hl)
theorem i32ne0 {b : Int} (h0 : 0 < b) (hb : b ≤ 2147483647) : ¬ Int32.ofInt b = 0 := by
  intro h
  have h2 := congrArg Int32.toInt h
  rw [i32T ⟨by omega, hb⟩] at h2
  have h3 : (0 : Int32).toInt = 0 := rfl
  omega
theorem r_idiv {a b : Int} (C : CTX p s m args c own X nL) (hd : decode X.1 pc = .ok (.idiv, 1)) (ha : rng a) (h0 : 0 < b) (hb : b ≤ 2147483647) (k : KK p l e R s m args below meth c cells slots Q G nL (pc + 1, L, .inl (a.tdiv b) :: st, S)) : KK p l e R s m args below meth c cells slots Q G nL (pc, L, .inl b :: .inl a :: st, S) :=
  fun H locs ls hw hl => lv_idiv C.1 C.2.1 hd (i32ne0 h0 hb) (by rw [i32div ha h0 hb]; exact k H locs ls hw hl)
theorem r_irem {a b : Int} (C : CTX p s m args c own X nL) (hd : decode X.1 pc = .ok (.irem, 1)) (ha : rng a) (h0 : 0 < b) (hb : b ≤ 2147483647) (k : KK p l e R s m args below meth c cells slots Q G nL (pc + 1, L, .inl (a.tmod b) :: st, S)) : KK p l e R s m args below meth c cells slots Q G nL (pc, L, .inl b :: .inl a :: st, S) :=
  fun H locs ls hw hl => lv_irem C.1 C.2.1 hd (i32ne0 h0 hb) (by rw [i32rem ha h0 hb]; exact k H locs ls hw hl)
theorem r_iand {a : Int} (C : CTX p s m args c own X nL) (hd : decode X.1 pc = .ok (.iand, 1)) (k : KK p l e R s m args below meth c cells slots Q G nL (pc + 1, L, .inl (a % 32) :: st, S)) : KK p l e R s m args below meth c cells slots Q G nL (pc, L, .inl 31 :: .inl a :: st, S) :=
  fun H locs ls hw hl => lv_iand C.1 C.2.1 hd (by rw [i32and]; exact k H locs ls hw hl)
theorem r_ishr {a b : Int} (C : CTX p s m args c own X nL) (hd : decode X.1 pc = .ok (.ishr, 1)) (ha : rng a) (h0 : 0 ≤ b) (hb : b < 32) (k : KK p l e R s m args below meth c cells slots Q G nL (pc + 1, L, .inl (a / 2 ^ b.toNat) :: st, S)) : KK p l e R s m args below meth c cells slots Q G nL (pc, L, .inl b :: .inl a :: st, S) :=
  fun H locs ls hw hl => lv_ishr C.1 C.2.1 hd (by rw [i32shr ha h0 hb]; exact k H locs ls hw hl)
theorem r_i2c {a : Int} (C : CTX p s m args c own X nL) (hd : decode X.1 pc = .ok (.i2c, 1)) (k : KK p l e R s m args below meth c cells slots Q G nL (pc + 1, L, .inl (a % 65536) :: st, S)) : KK p l e R s m args below meth c cells slots Q G nL (pc, L, .inl a :: st, S) :=
  fun H locs ls hw hl => lv_i2c C.1 C.2.1 hd (by
    rw [pk_char, i32bv, BitVec.toNat_ofInt]
    have e : nI ((a % ((2 ^ 32 : Nat) : Int)).toNat % 65536) = Int32.ofInt (((a % ((2 ^ 32 : Nat) : Int)).toNat % 65536 : Nat) : Int) := rfl
    rw [e]
    congr 1
    omega) (k H locs ls hw hl)
theorem r_i2l {a : Int} (C : CTX p s m args c own X nL) (hd : decode X.1 pc = .ok (.i2l, 1)) (ha : rng a) (k : KK p l e R s m args below meth c cells slots Q G nL (pc + 1, L, vJ (a % 18446744073709551616).toNat :: st, S)) : KK p l e R s m args below meth c cells slots Q G nL (pc, L, .inl a :: st, S) :=
  fun H locs ls hw hl => lv_i2l C.1 C.2.1 hd (i64i2l ha) (k H locs ls hw hl)
theorem r_l2i {u : Nat} (C : CTX p s m args c own X nL) (hd : decode X.1 pc = .ok (.l2i, 1)) (hu : u < 18446744073709551616) (k : KK p l e R s m args below meth c cells slots Q G nL (pc + 1, L, .inl (Int.bmod u 4294967296) :: st, S)) : KK p l e R s m args below meth c cells slots Q G nL (pc, L, vJ u :: st, S) :=
  fun H locs ls hw hl => lv_l2i C.1 C.2.1 hd (i64l2i hu) (k H locs ls hw hl)
theorem r_ldc2 {idx u : Nat} (C : CTX p s m args c own X nL) (hd : decode X.1 pc = .ok (.ldc2_w idx, 3)) (hF : FOK own X.2.1) (hf : X.2.1 idx = some (98, u)) (k : KK p l e R s m args below meth c cells slots Q G nL (pc + 3, L, vJ u :: st, S)) : KK p l e R s m args below meth c cells slots Q G nL (pc, L, st, S) :=
  fun H locs ls hw hl => lv_ldc2 C.1 C.2.1 C.2.2.2.1 (C.2.2.2.2.1 _ ((hF idx 98 u hf).2.2.1 rfl).2) hd (k H locs ls hw hl)
theorem r_ldc {idx u : Nat} (C : CTX p s m args c own X nL) (hd : decode X.1 pc = .ok (.ldc idx, 2)) (hF : FOK own X.2.1) (hf : X.2.1 idx = some (96, u)) (k : KK p l e R s m args below meth c cells slots Q G nL (pc + 2, L, .inl (u : Int) :: st, S)) : KK p l e R s m args below meth c cells slots Q G nL (pc, L, st, S) :=
  fun H locs ls hw hl => lv_ldc C.1 C.2.1 C.2.2.2.1 (C.2.2.2.2.1 _ ((hF idx 96 u hf).2.2.2 rfl)) hd (k H locs ls hw hl)
theorem r_iand2 {a : Int} (C : CTX p s m args c own X nL) (hd : decode X.1 pc = .ok (.iand, 1)) (k : KK p l e R s m args below meth c cells slots Q G nL (pc + 1, L, .inl (a % 2147483648) :: st, S)) : KK p l e R s m args below meth c cells slots Q G nL (pc, L, .inl 2147483647 :: .inl a :: st, S) :=
  fun H locs ls hw hl => lv_iand C.1 C.2.1 hd (by rw [i32and2]; exact k H locs ls hw hl)
theorem r_ladd {u v : Nat} (C : CTX p s m args c own X nL) (hd : decode X.1 pc = .ok (.ladd, 1)) (hu : u < 18446744073709551616) (hv : v < 18446744073709551616) (k : KK p l e R s m args below meth c cells slots Q G nL (pc + 1, L, vJ ((u + v) % 18446744073709551616) :: st, S)) : KK p l e R s m args below meth c cells slots Q G nL (pc, L, vJ v :: vJ u :: st, S) :=
  fun H locs ls hw hl => lv_ladd C.1 C.2.1 hd (by rw [i64add hu hv]; exact k H locs ls hw hl)
theorem r_lmul {u v : Nat} (C : CTX p s m args c own X nL) (hd : decode X.1 pc = .ok (.lmul, 1)) (hu : u < 18446744073709551616) (hv : v < 18446744073709551616) (k : KK p l e R s m args below meth c cells slots Q G nL (pc + 1, L, vJ (u * v % 18446744073709551616) :: st, S)) : KK p l e R s m args below meth c cells slots Q G nL (pc, L, vJ v :: vJ u :: st, S) :=
  fun H locs ls hw hl => lv_lmul C.1 C.2.1 hd (by rw [i64mul hu hv]; exact k H locs ls hw hl)
theorem r_lushr {u : Nat} {a : Int} (C : CTX p s m args c own X nL) (hd : decode X.1 pc = .ok (.lushr, 1)) (hu : u < 18446744073709551616) (h0 : 0 ≤ a) (h1 : a < 64) (k : KK p l e R s m args below meth c cells slots Q G nL (pc + 1, L, vJ (u / 2 ^ a.toNat) :: st, S)) : KK p l e R s m args below meth c cells slots Q G nL (pc, L, .inl a :: vJ u :: st, S) :=
  fun H locs ls hw hl => lv_lushr C.1 C.2.1 hd (i64ushr hu h0 h1) (k H locs ls hw hl)
theorem r_lshl {u : Nat} {a : Int} (C : CTX p s m args c own X nL) (hd : decode X.1 pc = .ok (.lshl, 1)) (hu : u < 18446744073709551616) (h0 : 0 ≤ a) (h1 : a < 64) (k : KK p l e R s m args below meth c cells slots Q G nL (pc + 1, L, vJ (u * 2 ^ a.toNat % 18446744073709551616) :: st, S)) : KK p l e R s m args below meth c cells slots Q G nL (pc, L, .inl a :: vJ u :: st, S) :=
  fun H locs ls hw hl => lv_lshl C.1 C.2.1 hd (i64shl hu h0 h1) (k H locs ls hw hl)
theorem r_lshr {u : Nat} {a : Int} (C : CTX p s m args c own X nL) (hd : decode X.1 pc = .ok (.lshr, 1)) (hu : u < 18446744073709551616) (h0 : 0 ≤ a) (h1 : a < 64) (k : KK p l e R s m args below meth c cells slots Q G nL (pc + 1, L, vJ (sgn u / 2 ^ a.toNat % 18446744073709551616).toNat :: st, S)) : KK p l e R s m args below meth c cells slots Q G nL (pc, L, .inl a :: vJ u :: st, S) :=
  fun H locs ls hw hl => lv_lshr C.1 C.2.1 hd (i64shr hu h0 h1) (k H locs ls hw hl)
theorem r_land {u v : Nat} (C : CTX p s m args c own X nL) (hd : decode X.1 pc = .ok (.land, 1)) (hu : u < 18446744073709551616) (hv : v < 18446744073709551616) (k : KK p l e R s m args below meth c cells slots Q G nL (pc + 1, L, vJ (u &&& v) :: st, S)) : KK p l e R s m args below meth c cells slots Q G nL (pc, L, vJ v :: vJ u :: st, S) :=
  fun H locs ls hw hl => lv_land C.1 C.2.1 hd (by rw [i64and hu hv]; exact k H locs ls hw hl)
theorem r_lor {u v : Nat} (C : CTX p s m args c own X nL) (hd : decode X.1 pc = .ok (.lor, 1)) (hu : u < 18446744073709551616) (hv : v < 18446744073709551616) (k : KK p l e R s m args below meth c cells slots Q G nL (pc + 1, L, vJ (u ||| v) :: st, S)) : KK p l e R s m args below meth c cells slots Q G nL (pc, L, vJ v :: vJ u :: st, S) :=
  fun H locs ls hw hl => lv_lor C.1 C.2.1 hd (by rw [i64or hu hv]; exact k H locs ls hw hl)
theorem r_lcmp {u v : Nat} (C : CTX p s m args c own X nL) (hd : decode X.1 pc = .ok (.lcmp, 1)) (hu : u < 18446744073709551616) (hv : v < 18446744073709551616) (k : KK p l e R s m args below meth c cells slots Q G nL (pc + 1, L, .inl (if u = v then 0 else if sgn u < sgn v then -1 else 1) :: st, S)) : KK p l e R s m args below meth c cells slots Q G nL (pc, L, vJ v :: vJ u :: st, S) :=
  fun H locs ls hw hl => W.lcmp C.1 C.2.1 hd (by
    have e : lg_cmp (Int64.ofNat u) (Int64.ofNat v) = Int32.ofInt (if u = v then 0 else if sgn u < sgn v then -1 else 1) := by
      unfold lg_cmp
      by_cases h : u = v
      · subst h
        rw [if_neg (fun q => by rw [gt_iff_lt, i64lt] at q; omega), if_pos rfl, if_pos rfl]
        rfl
      · rw [if_neg h, if_neg (show ¬ Int64.ofNat u = Int64.ofNat v from fun q => h ((i64eq hu hv).mp q))]
        have hs : sgn u ≠ sgn v := by
          intro q
          rw [← i64I, ← i64I, Int64.toInt_inj, i64eq hu hv] at q
          exact h q
        by_cases h2 : sgn u < sgn v
        · rw [if_neg (fun q => by rw [gt_iff_lt, i64lt] at q; omega), if_pos h2]
          rfl
        · rw [if_pos (by rw [gt_iff_lt, i64lt]; omega), if_neg h2]
          rfl
    rw [e]
    exact k H locs ls hw hl)
theorem r_dup {v : VV} (C : CTX p s m args c own X nL) (hd : decode X.1 pc = .ok (.dup, 1)) (hv : isJ v = false) (k : KK p l e R s m args below meth c cells slots Q G nL (pc + 1, L, v :: v :: st, S)) : KK p l e R s m args below meth c cells slots Q G nL (pc, L, v :: st, S) :=
  fun H locs ls hw hl => lv_dup C.1 C.2.1 hd (by rw [cv_cat, hv]; rfl) (k H locs ls hw hl)
theorem r_pop {v : VV} (C : CTX p s m args c own X nL) (hd : decode X.1 pc = .ok (.pop, 1)) (hv : isJ v = false) (k : KK p l e R s m args below meth c cells slots Q G nL (pc + 1, L, st, S)) : KK p l e R s m args below meth c cells slots Q G nL (pc, L, v :: st, S) :=
  fun H locs ls hw hl => lv_pop C.1 C.2.1 hd (by rw [cv_cat, hv]; rfl) (k H locs ls hw hl)
theorem r_dup2 {v w : VV} (C : CTX p s m args c own X nL) (hd : decode X.1 pc = .ok (.dup2, 1)) (hv : isJ v = false) (hw2 : isJ w = false) (k : KK p l e R s m args below meth c cells slots Q G nL (pc + 1, L, v :: w :: v :: w :: st, S)) : KK p l e R s m args below meth c cells slots Q G nL (pc, L, v :: w :: st, S) :=
  fun H locs ls hw hl => lv_dup2_11 C.1 C.2.1 hd (by rw [cv_cat, hv]; rfl) (by rw [cv_cat, hw2]; rfl) (k H locs ls hw hl)
theorem pcT_eq {pc : Nat} {off : Int} (h : 0 ≤ (pc : Int) + off) : (pc : Int) + off = (pcT pc off : Int) := by
  unfold pcT
  rw [Int.toNat_of_nonneg h]
theorem r_goto {off : Int} (C : CTX p s m args c own X nL) (hd : decode X.1 pc = .ok (.goto off, 3)) (h : 0 ≤ (pc : Int) + off) (k : KK p l e R s m args below meth c cells slots Q G nL (pcT pc off, L, st, S)) : KK p l e R s m args below meth c cells slots Q G nL (pc, L, st, S) :=
  fun H locs ls hw hl => lv_goto C.1 C.2.1 hd (pcT_eq h) (k H locs ls hw hl)
theorem r_if {off : Int} {a : Int} {cn : ClassFile.Cond} (C : CTX p s m args c own X nL) (hd : decode X.1 pc = .ok (.ifCond cn off, 3)) (ha : rng a) (h : 0 ≤ (pc : Int) + off) (k : if cmpB cn a 0 = true then KK p l e R s m args below meth c cells slots Q G nL (pcT pc off, L, st, S) else KK p l e R s m args below meth c cells slots Q G nL (pc + 3, L, st, S)) : KK p l e R s m args below meth c cells slots Q G nL (pc, L, .inl a :: st, S) := by
  have z : (0 : Int32) = Int32.ofInt 0 := rfl
  have r0 : rng 0 := ⟨by omega, by omega⟩
  intro H locs ls hw hl
  cases cn <;> simp only [cmpB, decide_eq_true_eq] at k
  · exact lv_if_eq C.1 C.2.1 hd (pcT_eq h) (fun q => by rw [z, i32eq ha r0] at q; rw [if_pos q] at k; exact k H locs ls hw hl) (fun q => by rw [z, i32eq ha r0] at q; rw [if_neg q] at k; exact k H locs ls hw hl)
  · exact lv_if_ne C.1 C.2.1 hd (pcT_eq h) (fun q => by rw [z, i32eq ha r0] at q; rw [if_pos q] at k; exact k H locs ls hw hl) (fun q => by rw [z, i32eq ha r0] at q; rw [if_neg (fun w => w q)] at k; exact k H locs ls hw hl)
  · exact lv_if_lt C.1 C.2.1 hd (pcT_eq h) (fun q => by rw [z, i32lt ha r0] at q; rw [if_pos q] at k; exact k H locs ls hw hl) (fun q => by rw [z, i32lt ha r0] at q; rw [if_neg q] at k; exact k H locs ls hw hl)
  · exact lv_if_ge C.1 C.2.1 hd (pcT_eq h) (fun q => by rw [z, i32le r0 ha] at q; rw [if_pos q] at k; exact k H locs ls hw hl) (fun q => by rw [z, i32le r0 ha] at q; rw [if_neg q] at k; exact k H locs ls hw hl)
  · exact lv_if_gt C.1 C.2.1 hd (pcT_eq h) (fun q => by rw [z, i32lt r0 ha] at q; rw [if_pos q] at k; exact k H locs ls hw hl) (fun q => by rw [z, i32lt r0 ha] at q; rw [if_neg q] at k; exact k H locs ls hw hl)
  · exact lv_if_le C.1 C.2.1 hd (pcT_eq h) (fun q => by rw [z, i32le ha r0] at q; rw [if_pos q] at k; exact k H locs ls hw hl) (fun q => by rw [z, i32le ha r0] at q; rw [if_neg q] at k; exact k H locs ls hw hl)
theorem r_icmp {off : Int} {a b : Int} {cn : ClassFile.Cond} (C : CTX p s m args c own X nL) (hd : decode X.1 pc = .ok (.if_icmp cn off, 3)) (ha : rng a) (r0 : rng b) (h : 0 ≤ (pc : Int) + off) (k : if cmpB cn a b = true then KK p l e R s m args below meth c cells slots Q G nL (pcT pc off, L, st, S) else KK p l e R s m args below meth c cells slots Q G nL (pc + 3, L, st, S)) : KK p l e R s m args below meth c cells slots Q G nL (pc, L, .inl b :: .inl a :: st, S) := by
  intro H locs ls hw hl
  cases cn <;> simp only [cmpB, decide_eq_true_eq] at k
  · exact lv_icmp_eq C.1 C.2.1 hd (pcT_eq h) (fun q => by rw [i32eq ha r0] at q; rw [if_pos q] at k; exact k H locs ls hw hl) (fun q => by rw [i32eq ha r0] at q; rw [if_neg q] at k; exact k H locs ls hw hl)
  · exact lv_icmp_ne C.1 C.2.1 hd (pcT_eq h) (fun q => by rw [i32eq ha r0] at q; rw [if_pos q] at k; exact k H locs ls hw hl) (fun q => by rw [i32eq ha r0] at q; rw [if_neg (fun w => w q)] at k; exact k H locs ls hw hl)
  · exact lv_icmp_lt C.1 C.2.1 hd (pcT_eq h) (fun q => by rw [i32lt ha r0] at q; rw [if_pos q] at k; exact k H locs ls hw hl) (fun q => by rw [i32lt ha r0] at q; rw [if_neg q] at k; exact k H locs ls hw hl)
  · exact lv_icmp_ge C.1 C.2.1 hd (pcT_eq h) (fun q => by rw [i32le r0 ha] at q; rw [if_pos q] at k; exact k H locs ls hw hl) (fun q => by rw [i32le r0 ha] at q; rw [if_neg q] at k; exact k H locs ls hw hl)
  · exact lv_icmp_gt C.1 C.2.1 hd (pcT_eq h) (fun q => by rw [i32lt r0 ha] at q; rw [if_pos q] at k; exact k H locs ls hw hl) (fun q => by rw [i32lt r0 ha] at q; rw [if_neg q] at k; exact k H locs ls hw hl)
  · exact lv_icmp_le C.1 C.2.1 hd (pcT_eq h) (fun q => by rw [i32le ha r0] at q; rw [if_pos q] at k; exact k H locs ls hw hl) (fun q => by rw [i32le ha r0] at q; rw [if_neg q] at k; exact k H locs ls hw hl)
theorem r_null (C : CTX p s m args c own X nL) (hd : decode X.1 pc = .ok (.aconst_null, 1)) (k : KK p l e R s m args below meth c cells slots Q G nL (pc + 1, L, vN :: st, S)) : KK p l e R s m args below meth c cells slots Q G nL (pc, L, st, S) :=
  fun H locs ls hw hl => lv_null C.1 C.2.1 hd (k H locs ls hw hl)
theorem r_ifnullN {off : Int} (C : CTX p s m args c own X nL) (hd : decode X.1 pc = .ok (.ifnull off, 3)) (h : 0 ≤ (pc : Int) + off) (k : KK p l e R s m args below meth c cells slots Q G nL (pcT pc off, L, st, S)) : KK p l e R s m args below meth c cells slots Q G nL (pc, L, vN :: st, S) :=
  fun H locs ls hw hl => lv_ifnullN C.1 C.2.1 hd (pcT_eq h) (k H locs ls hw hl)
theorem r_ifnullR {off : Int} {i : Nat} (C : CTX p s m args c own X nL) (hd : decode X.1 pc = .ok (.ifnull off, 3)) (k : KK p l e R s m args below meth c cells slots Q G nL (pc + 3, L, st, S)) : KK p l e R s m args below meth c cells slots Q G nL (pc, L, vR i :: st, S) :=
  fun H locs ls hw hl => lv_ifnull C.1 C.2.1 hd (k H locs ls hw hl)
theorem r_ifnonnullR {off : Int} {i : Nat} (C : CTX p s m args c own X nL) (hd : decode X.1 pc = .ok (.ifnonnull off, 3)) (h : 0 ≤ (pc : Int) + off) (k : KK p l e R s m args below meth c cells slots Q G nL (pcT pc off, L, st, S)) : KK p l e R s m args below meth c cells slots Q G nL (pc, L, vR i :: st, S) :=
  fun H locs ls hw hl => lv_ifnonnull C.1 C.2.1 hd (pcT_eq h) (k H locs ls hw hl)
theorem r_ifnonnullN {off : Int} (C : CTX p s m args c own X nL) (hd : decode X.1 pc = .ok (.ifnonnull off, 3)) (k : KK p l e R s m args below meth c cells slots Q G nL (pc + 3, L, st, S)) : KK p l e R s m args below meth c cells slots Q G nL (pc, L, vN :: st, S) :=
  fun H locs ls hw hl => lv_ifnonnullN C.1 C.2.1 hd (k H locs ls hw hl)
theorem r_tabOut {d lo hi : Int} {offs : Array Int} {n : Nat} {a : Int} (C : CTX p s m args c own X nL) (hd : decode X.1 pc = .ok (.tableswitch d lo hi offs, n)) (ha : rng a) (ho : a < lo ∨ hi < a) (h : 0 ≤ (pc : Int) + d) (k : KK p l e R s m args below meth c cells slots Q G nL (pcT pc d, L, st, S)) : KK p l e R s m args below meth c cells slots Q G nL (pc, L, .inl a :: st, S) :=
  fun H locs ls hw hl => lv_tableOut C.1 C.2.1 hd (by rw [i32T ha]; exact ho) (pcT_eq h) (k H locs ls hw hl)
theorem r_tabIn {d lo hi : Int} {offs : Array Int} {n : Nat} {a o : Int} (C : CTX p s m args c own X nL) (hd : decode X.1 pc = .ok (.tableswitch d lo hi offs, n)) (ha : rng a) (hn : ¬ (a < lo ∨ hi < a)) (ho : offs[(a - lo).toNat]? = some o) (h : 0 ≤ (pc : Int) + o) (k : KK p l e R s m args below meth c cells slots Q G nL (pcT pc o, L, st, S)) : KK p l e R s m args below meth c cells slots Q G nL (pc, L, .inl a :: st, S) :=
  fun H locs ls hw hl => lv_tableIn C.1 C.2.1 hd (by rw [i32T ha]; exact fun q => hn (Or.inl q)) (by rw [i32T ha]; exact fun q => hn (Or.inr q)) (by rw [i32T ha]; exact ho) (pcT_eq h) (k H locs ls hw hl)
theorem r_look {d : Int} {ps : Array (Int × Int)} {n : Nat} {a : Int} (C : CTX p s m args c own X nL) (hd : decode X.1 pc = .ok (.lookupswitch d ps, n)) (ha : rng a) (hp : srt2 ps = true) (h : 0 ≤ (pc : Int) + Op.lookupswitch.offset ps.toList d a) (k : KK p l e R s m args below meth c cells slots Q G nL (pcT pc (Op.lookupswitch.offset ps.toList d a), L, st, S)) : KK p l e R s m args below meth c cells slots Q G nL (pc, L, .inl a :: st, S) :=
  fun H locs ls hw hl => lv_lookup C.1 C.2.1 hd hp rfl (by rw [i32T ha]; exact pcT_eq h) (k H locs ls hw hl)
theorem r_getf {idx ci f i : Nat} (C : CTX p s m args c own X nL) (hd : decode X.1 pc = .ok (.getfield idx, 3)) (hF : FOK own X.2.1) (hf : X.2.1 idx = some (ci, f)) (h1 : kd i = ci) (h2 : ci < 10) (h3 : f < nfl ci) (k : KK p l e R s m args below meth c cells slots Q G nL (pc + 3, L, (if fk ci f = 8 then vR (fref i f) else .inl (S i f)) :: st, S)) : KK p l e R s m args below meth c cells slots Q G nL (pc, L, vR i :: st, S) := by
  intro H locs ls hw hl
  have k := k H locs ls hw hl
  obtain ⟨e1, e2⟩ := vwCl_at h2
  have hi : i < 593 := kd_lt (by omega)
  have hat := wl_at G S hi
  rw [ent_obj G S h1 h2] at hat
  have hv : ((List.range (nfl ci)).map (fent G S i))[f]? = some (fent G S i f) := by
    rw [List.getElem?_map, List.getElem?_range h3]
    rfl
  have hg : fent G S i f = cv G (if fk ci f = 8 then vR (fref i f) else .inl (S i f)) := by
    unfold fent
    rw [h1]
    split <;> rfl
  rw [hg] at hv
  rcases (hF idx ci f hf).1 h2 with hL | hL
  · exact va_get C.1 C.2.1 C.2.2.2.2.1 (vwCl_in h2) C.2.2.2.1 hw.1 hw.2.1 i hat e1 f (by rw [e2]; exact h3) (C.2.2.2.2.1 _ hL) (fun _ q => q) hv hd k
  · exact va_getN (host := "LeapStones") C.1 C.2.1 C.2.2.2.2.1 (vwCl_in h2) C.2.2.2.1 hw.1 hw.2.1 i hat e1 f (by rw [e2]; exact h3) (va_Nw.use rfl (C.2.2.2.2.2 _ hL)) (fun _ q => q) hv hd k
theorem WW.put {z : Int} {i f : Nat} {H1 : Heap} {locs1 : List Loc} (h : WW G s S H1 locs1 → True) (hK : va_K G.1 vwCl (tysG G) s) (hE : EX G S s s.heap) (hi : i < 593) {en : va_E} (he : ent G (updM S i f z) i = en) (hP : va_P G.1 vwCl ((wl G S).set i (ad G i, en)) H1) (hS : va_S (fun q => G.2.1 ≤ q) s.heap H1 locs1) : WW G s (updM S i f z) H1 locs1 :=
  ⟨hK, by rw [← wl_set G S hi he]; exact hP, hS, EX_upd hE (by omega)⟩
theorem r_putf {idx ci f i : Nat} {z : Int} (C : CTX p s m args c own X nL) (hd : decode X.1 pc = .ok (.putfield idx, 3)) (hF : FOK own X.2.1) (hf : X.2.1 idx = some (ci, f)) (h1 : kd i = ci) (h2 : ci < 10) (h3 : f < nfl ci) (hz : fitB (fk ci f) z = true) (k : KK p l e R s m args below meth c cells slots Q G nL (pc + 3, L, st, updM S i f z)) : KK p l e R s m args below meth c cells slots Q G nL (pc, L, .inl z :: vR i :: st, S) := by
  intro H locs ls hw hl
  obtain ⟨e1, e2⟩ := vwCl_at h2
  have hi : i < 593 := kd_lt (by omega)
  have hat := wl_at G S hi
  rw [ent_obj G S h1 h2] at hat
  obtain ⟨z1, z2, z3⟩ := fit_ok hz
  obtain ⟨y1, y2⟩ := vwCl_put h2 h3 z3
  have hd2 := vwCl_ty h2 f (by rw [e2]; exact h3)
  rw [y2] at hd2
  have hen : ent G (updM S i f z) i = .inr (ci, ((List.range (nfl ci)).map (fent G S i)).set f (.int (Int32.ofInt z))) := by
    rw [ent_obj G _ h1 h2]
    refine congrArg (fun t => (Sum.inr (ci, t) : va_E)) ?_
    apply List.ext_getElem?
    intro j
    rw [List.getElem?_set, List.getElem?_map, List.getElem?_map, List.length_map, List.length_range]
    by_cases hj : j < nfl ci
    · rw [List.getElem?_range hj]
      by_cases q : f = j
      · subst q
        rw [if_pos rfl, if_pos hj]
        simp only [Option.map_some, fent, h1, updM]
        rw [if_neg (by omega)]
        simp
      · have hu : updM S i f z i j = S i j := by
          unfold updM
          rw [if_neg (fun w => q w.2.symm)]
        rw [if_neg q]
        simp only [Option.map_some, fent, hu]
    · have e9 : (List.range (nfl ci))[j]? = none := List.getElem?_eq_none (by simp; omega)
      rw [e9]
      by_cases q : f = j
      · omega
      · rw [if_neg q]
        rfl
  have fin : ∀ (H1 : Heap) (locs1 : List Loc), va_P G.1 vwCl ((wl G S).set i (ad G i, .inr (ci, ((List.range (nfl ci)).map (fent G S i)).set f (.int (Int32.ofInt z))))) H1 → va_D (fun q => G.2.1 ≤ q) ((wl G S).set i (ad G i, .inr (ci, ((List.range (nfl ci)).map (fent G S i)).set f (.int (Int32.ofInt z))))) → va_S (fun q => G.2.1 ≤ q) s.heap H1 locs1 → W p l e R s m args below meth c H1 locs1 cells slots Q (F0 m (pc + 3) ls (st.map (cv G))) := fun H1 locs1 hP _ hS => k H1 locs1 ls (WW.put (S := S) (fun _ => trivial) hw.1 hw.2.2.2 hi hen hP hS) hl
  rcases (hF idx ci f hf).1 h2 with hL | hL
  · exact va_put C.1 C.2.1 C.2.2.2.2.1 (vwCl_in h2) (vwT ci) (vwCl_ty h2) (vwCl_nm h2) C.2.2.2.1 hw.1 hw.2.1 (wl_D G S) hw.2.2.1 i hat e1 f (by rw [e2]; exact h3) (C.2.2.2.2.1 _ hL) (fun _ q => q) y1 hd2 z1 z2 (by simp; exact h3) hd fin
  · exact va_putN (host := "LeapStones") C.1 C.2.1 C.2.2.2.2.1 (vwCl_in h2) (vwT ci) (vwCl_ty h2) (vwCl_nm h2) C.2.2.2.1 hw.1 hw.2.1 (wl_D G S) hw.2.2.1 i hat e1 f (by rw [e2]; exact h3) (va_Nw.use rfl (C.2.2.2.2.2 _ hL)) (fun _ q => q) y1 hd2 z1 z2 (by simp; exact h3) hd fin
theorem r_gets {idx f : Nat} (C : CTX p s m args c own X nL) (hd : decode X.1 pc = .ok (.getstatic idx, 3)) (hF : FOK own X.2.1) (hf : X.2.1 idx = some (97, f)) (k : KK p l e R s m args below meth c cells slots Q G nL (pc + 3, L, vR 602 :: st, S)) : KK p l e R s m args below meth c cells slots Q G nL (pc, L, st, S) :=
  fun H locs ls hw hl => va_gets C.1 C.2.1 hw.2.2.2.1 hw.2.2.1 C.2.2.2.1 (C.2.2.2.2.1 _ ((hF idx 97 f hf).2.1 rfl)) (fun _ q => q) hd (k H locs ls hw hl)
theorem r_alen {i : Nat} (C : CTX p s m args c own X nL) (hd : decode X.1 pc = .ok (.arraylength, 1)) (h1 : 10 ≤ kd i) (h2 : kd i ≤ 14) (k : KK p l e R s m args below meth c cells slots Q G nL (pc + 1, L, .inl (alen i) :: st, S)) : KK p l e R s m args below meth c cells slots Q G nL (pc, L, vR i :: st, S) := by
  intro H locs ls hw hl
  have k := k H locs ls hw hl
  have hi : i < 593 := kd_lt (by omega)
  have hat := wl_at G S hi
  have ht : (tysG G)[kd i - 10]? = some (G.2.2.1 (kd i), [FieldType.int, .boolean, .char, .object RX5, .object RX6].getD (kd i - 10) .int) := by
    rcases (show kd i = 10 ∨ kd i = 11 ∨ kd i = 12 ∨ kd i = 13 ∨ kd i = 14 by omega) with h | h | h | h | h <;> rw [h] <;> rfl
  by_cases h : kd i < 13
  · rw [ent_prim G S rfl h1 h] at hat
    exact va_alen C.1 C.2.1 hw.1 hw.2.1 i (kd i - 10) hat ht rfl hd k
  · rw [ent_ref G S rfl (by omega)] at hat
    exact va_alen C.1 C.2.1 hw.1 hw.2.1 i (kd i - 10) hat ht rfl hd k
theorem r_alenX {i : Nat} (C : CTX p s m args c own X nL) (hd : decode X.1 pc = .ok (.arraylength, 1)) (h1 : i = 602 ∨ i = 603) (k : KK p l e R s m args below meth c cells slots Q G nL (pc + 1, L, .inl (S 604 (i - 602)) :: st, S)) : KK p l e R s m args below meth c cells slots Q G nL (pc, L, vR i :: st, S) := by
  intro H locs ls hw hl
  have k := k H locs ls hw hl
  obtain ⟨q1, q2, q3⟩ := hw.2.2.2.2 (i - 602) (by omega)
  have e1 : ad G i = G.2.2.2 (i - 602) := by
    unfold ad
    rw [if_neg (by omega), if_neg (by omega)]
  have e2 : Int32.ofNat (S 604 (i - 602)).toNat = Int32.ofInt (S 604 (i - 602)) := by
    show Int32.ofInt (((S 604 (i - 602)).toNat : Nat) : Int) = _
    rw [Int.toNat_of_nonneg q1]
  show W p l e R s m args below meth c H locs cells slots Q (F0 m pc ls (.ref (ad G i) :: st.map (cv G)))
  rw [e1]
  exact va_tlen C.1 C.2.1 q3 hw.2.2.1 e2 hd k
theorem r_iald {i : Nat} {j z : Int} (C : CTX p s m args c own X nL) (hd : decode X.1 pc = .ok (.iaload, 1)) (h : aget 10 S i j = some z) (k : KK p l e R s m args below meth c cells slots Q G nL (pc + 1, L, .inl z :: st, S)) : KK p l e R s m args below meth c cells slots Q G nL (pc, L, .inl j :: vR i :: st, S) := by
  intro H locs ls hw hl
  have k := k H locs ls hw hl
  unfold aget at h
  split at h
  next h1 =>
    split at h
    next h2 =>
      have hal := alen_le i
      have hat := wl_at G S (kd_lt (i := i) (by omega))
      rw [ent_prim G S h1 (by omega) (by omega)] at hat
      cases h
      refine va_iald C.1 C.2.1 hw.1 hw.2.1 i 0 hat rfl (i32in h2.1 h2.2 (by omega)) hd ?_
      rw [i32cl h2.1 (by omega)]
      exact k
    next => cases h
  next h1 =>
    split at h
    next h2 =>
      obtain ⟨-, h3, h4, h5⟩ := h2
      obtain ⟨q1, q2, q3⟩ := hw.2.2.2.2 (i - 602) (by omega)
      have q1 : 0 ≤ S 604 (i - 602) := q1
      have q2 : S 604 (i - 602) ≤ 2147483647 := q2
      have hj : j < ((S 604 (i - 602)).toNat : Nat) := by omega
      have e1 : ad G i = G.2.2.2 (i - 602) := by
        unfold ad
        rw [if_neg (by omega), if_neg (by omega)]
      cases h
      show W p l e R s m args below meth c H locs cells slots Q (F0 m pc ls (.int (Int32.ofInt j) :: .ref (ad G i) :: st.map (cv G)))
      rw [e1]
      refine va_ti (v := .int (Int32.ofInt (S i j.toNat))) C.1 C.2.1 q3 hw.2.2.1 (i32in h4 hj (by omega)) ?_ hd k
      rw [i32cl h4 (by omega), show 602 + (i - 602) = i by omega]
    next =>
      split at h
      next h2 =>
        obtain ⟨-, ⟨h3, h6⟩, h4, h5⟩ := h2
        subst h3
        cases h
        have hat := wl_at5 G S h6
        refine va_iald C.1 C.2.1 hw.1 hw.2.1 593 0 hat rfl (i32in h4 h5 (by omega)) hd ?_
        rw [i32cl h4 (by omega)]
        exact k
      next => cases h
theorem r_bald {i : Nat} {j z : Int} (C : CTX p s m args c own X nL) (hd : decode X.1 pc = .ok (.baload, 1)) (h : aget 11 S i j = some z) (k : KK p l e R s m args below meth c cells slots Q G nL (pc + 1, L, .inl z :: st, S)) : KK p l e R s m args below meth c cells slots Q G nL (pc, L, .inl j :: vR i :: st, S) := by
  intro H locs ls hw hl
  have k := k H locs ls hw hl
  unfold aget at h
  split at h
  next h1 =>
    split at h
    next h2 =>
      have hal := alen_le i
      have hat := wl_at G S (kd_lt (i := i) (by omega))
      rw [ent_prim G S h1 (by omega) (by omega)] at hat
      cases h
      refine va_zald C.1 C.2.1 hw.1 hw.2.1 i 1 hat rfl (i32in h2.1 h2.2 (by omega)) hd ?_
      rw [i32cl h2.1 (by omega)]
      exact k
    next => cases h
  next h1 =>
    split at h
    next h2 => exact absurd h2.1 (by decide)
    next => cases h
theorem r_cald {i : Nat} {j z : Int} (C : CTX p s m args c own X nL) (hd : decode X.1 pc = .ok (.caload, 1)) (h : aget 12 S i j = some z) (k : KK p l e R s m args below meth c cells slots Q G nL (pc + 1, L, .inl z :: st, S)) : KK p l e R s m args below meth c cells slots Q G nL (pc, L, .inl j :: vR i :: st, S) := by
  intro H locs ls hw hl
  have k := k H locs ls hw hl
  unfold aget at h
  split at h
  next h1 =>
    split at h
    next h2 =>
      have hal := alen_le i
      have hat := wl_at G S (kd_lt (i := i) (by omega))
      rw [ent_prim G S h1 (by omega) (by omega)] at hat
      cases h
      refine va_cald C.1 C.2.1 hw.1 hw.2.1 i 2 hat rfl (i32in h2.1 h2.2 (by omega)) hd ?_
      rw [i32cl h2.1 (by omega)]
      exact k
    next => cases h
  next h1 =>
    split at h
    next h2 => exact absurd h2.1 (by decide)
    next => cases h
theorem r_aald {i : Nat} {j : Int} (C : CTX p s m args c own X nL) (hd : decode X.1 pc = .ok (.aaload, 1)) (h1 : kd i = 13 ∨ kd i = 14) (h2 : 0 ≤ j) (h3 : j < alen i) (k : KK p l e R s m args below meth c cells slots Q G nL (pc + 1, L, vR (fref i j.toNat) :: st, S)) : KK p l e R s m args below meth c cells slots Q G nL (pc, L, .inl j :: vR i :: st, S) := by
  intro H locs ls hw hl
  have k := k H locs ls hw hl
  have hal := alen_le i
  have hat := wl_at G S (kd_lt (i := i) (by omega))
  rw [ent_ref G S rfl (by omega)] at hat
  rcases h1 with h1 | h1
  · rw [h1] at hat
    refine va_aldq C.1 C.2.1 hw.1 hw.2.1 i 3 hat rfl (i32in h2 h3 (by omega)) hd ?_
    rw [i32cl h2 (by omega)]
    exact k
  · rw [h1] at hat
    refine va_aldq C.1 C.2.1 hw.1 hw.2.1 i 4 hat rfl (i32in h2 h3 (by omega)) hd ?_
    rw [i32cl h2 (by omega)]
    exact k
theorem ent_upd {i a b : Nat} {z : Int} (h : kd i = a) (h1 : 10 ≤ a) (h2 : a < 13) : ent G (updM S i b z) i = .inl (G.2.2.1 a, (alen i, .inl (upd (fun j => Int32.ofInt (S i j)) b (Int32.ofInt z)))) := by
  rw [ent_prim G _ h h1 h2]
  congr 4
  funext j
  unfold updM upd
  by_cases q : j = b
  · rw [if_pos ⟨rfl, q⟩, if_pos q]
  · rw [if_neg (fun w => q w.2), if_neg q]
theorem r_iast {i : Nat} {j z : Int} (C : CTX p s m args c own X nL) (hd : decode X.1 pc = .ok (.iastore, 1)) (h1 : kd i = 10) (h2 : 0 ≤ j) (h3 : j < alen i) (k : KK p l e R s m args below meth c cells slots Q G nL (pc + 1, L, st, updM S i j.toNat z)) : KK p l e R s m args below meth c cells slots Q G nL (pc, L, .inl z :: .inl j :: vR i :: st, S) := by
  intro H locs ls hw hl
  have hal := alen_le i
  have hi : i < 593 := kd_lt (by omega)
  have hat := wl_at G S hi
  rw [ent_prim G S h1 (by omega) (by omega)] at hat
  refine va_iast C.1 C.2.1 hw.1 hw.2.1 (wl_D G S) hw.2.2.1 i 0 hat rfl (i32in h2 h3 (by omega)) hd fun H1 locs1 hP _ hS => ?_
  rw [i32cl h2 (by omega)] at hP
  exact k H1 locs1 ls (WW.put (S := S) (fun _ => trivial) hw.1 hw.2.2.2 hi (ent_upd h1 (by omega) (by omega)) hP hS) hl
theorem r_iast5 {j z : Int} (C : CTX p s m args c own X nL) (hd : decode X.1 pc = .ok (.iastore, 1)) (h1 : S 604 3 = 3) (h2 : 0 ≤ j) (h3 : j < 3) (k : KK p l e R s m args below meth c cells slots Q G nL (pc + 1, L, st, updM S 606 j.toNat z)) : KK p l e R s m args below meth c cells slots Q G nL (pc, L, .inl z :: .inl j :: vR 606 :: st, S) := by
  intro H locs ls hw hl
  have hat := wl_at5 G S h1
  refine va_iast C.1 C.2.1 hw.1 hw.2.1 (wl_D G S) hw.2.2.1 593 0 hat rfl (i32in h2 h3 (by omega)) hd fun H1 locs1 hP _ hS => ?_
  rw [i32cl h2 (by omega)] at hP
  have e : (Sum.inl (G.2.2.1 10, (3, .inl (upd (fun j => Int32.ofInt (S 606 j)) j.toNat (Int32.ofInt z)))) : va_E) = en5 G (updM S 606 j.toNat z) := by
    unfold en5
    refine congrArg (fun t => (Sum.inl (G.2.2.1 10, (3, .inl t)) : va_E)) ?_
    funext x
    unfold updM upd
    by_cases q : x = j.toNat
    · rw [if_pos q, if_pos ⟨rfl, q⟩]
    · rw [if_neg q, if_neg (fun w => q w.2)]
  have hP2 : va_P G.1 vwCl (wl G (updM S 606 j.toNat z)) H1 := by
    rw [← wl_set5 G S h1, ← e]
    exact hP
  exact k H1 locs1 ls ⟨hw.1, hP2, hS, EX_upd hw.2.2.2 (Or.inr rfl)⟩ hl
theorem r_bast {i : Nat} {j z : Int} (C : CTX p s m args c own X nL) (hd : decode X.1 pc = .ok (.bastore, 1)) (h1 : kd i = 11) (h2 : 0 ≤ j) (h3 : j < alen i) (hz : fitB 1 z = true) (k : KK p l e R s m args below meth c cells slots Q G nL (pc + 1, L, st, updM S i j.toNat z)) : KK p l e R s m args below meth c cells slots Q G nL (pc, L, .inl z :: .inl j :: vR i :: st, S) := by
  intro H locs ls hw hl
  have hal := alen_le i
  have hi : i < 593 := kd_lt (by omega)
  have hat := wl_at G S hi
  rw [ent_prim G S h1 (by omega) (by omega)] at hat
  refine va_zast C.1 C.2.1 hw.1 hw.2.1 (wl_D G S) hw.2.2.1 i 1 hat rfl (i32in h2 h3 (by omega)) hd fun H1 locs1 hP _ hS => ?_
  have hz1 : vp_nar .boolean (Int32.ofInt z) = Int32.ofInt z := by
    unfold vp_nar
    have := (fit_ok hz).1
    simp only [List.getD_cons_succ, List.getD_cons_zero] at this
    rw [this]
  rw [i32cl h2 (by omega), hz1] at hP
  exact k H1 locs1 ls (WW.put (S := S) (fun _ => trivial) hw.1 hw.2.2.2 hi (ent_upd h1 (by omega) (by omega)) hP hS) hl
theorem r_cast {i : Nat} {j z : Int} (C : CTX p s m args c own X nL) (hd : decode X.1 pc = .ok (.castore, 1)) (h1 : kd i = 12) (h2 : 0 ≤ j) (h3 : j < alen i) (hz : fitB 2 z = true) (k : KK p l e R s m args below meth c cells slots Q G nL (pc + 1, L, st, updM S i j.toNat z)) : KK p l e R s m args below meth c cells slots Q G nL (pc, L, .inl z :: .inl j :: vR i :: st, S) := by
  intro H locs ls hw hl
  have hal := alen_le i
  have hi : i < 593 := kd_lt (by omega)
  have hat := wl_at G S hi
  rw [ent_prim G S h1 (by omega) (by omega)] at hat
  refine va_cast C.1 C.2.1 hw.1 hw.2.1 (wl_D G S) hw.2.2.1 i 2 hat rfl (i32in h2 h3 (by omega)) hd fun H1 locs1 hP _ hS => ?_
  have hz1 : vp_nar .char (Int32.ofInt z) = Int32.ofInt z := by
    unfold vp_nar
    have := (fit_ok hz).1
    simp only [List.getD_cons_succ, List.getD_cons_zero] at this
    rw [this]
  rw [i32cl h2 (by omega), hz1] at hP
  exact k H1 locs1 ls (WW.put (S := S) (fun _ => trivial) hw.1 hw.2.2.2 hi (ent_upd h1 (by omega) (by omega)) hP hS) hl
end ROWS

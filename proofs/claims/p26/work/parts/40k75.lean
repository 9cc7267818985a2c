/-! the constructors: their meaning is the machine's -/
def aKind : ArrayType → Option Nat
  | .int => some 10
  | .boolean => some 11
  | .char => some 12
  | _ => none
def vok (k : Nat) (v : VV) : Bool := match v with
  | .inl _ => !(k == 8)
  | .inr (.inl (some _)) => k == 8
  | _ => false
def finF (ci k : Nat) : Bool := ((vwCl.getD ci (RX0, TX0, 12)).2.1 k).2.2.2
def lenC : Instr → Nat → Bool
  | .bipush _, n => n == 2
  | .newarray _, n => n == 2
  | .sipush _, n => n == 3
  | .new _, n => n == 3
  | .anewarray _, n => n == 3
  | .putfield _, n => n == 3
  | .getfield _, n => n == 3
  | .invokespecial _, n => n == 3
  | .goto _, n => n == 3
  | .if_icmp _ _, n => n == 3
  | .iinc _ _, n => n == 3
  | _, n => n == 1
def exc (X : XC) (M : Nat × Nat) (pc : Nat) (L : List (Option VV)) (st : List VV) (E : List CD) (cells slots : Nat) : Instr → CFC ⊕ Option (List CD)
  | .iconst n => .inl (pc + 1, L, .inl n :: st, E, cells, slots)
  | .bipush n => if -128 ≤ n ∧ n ≤ 127 then .inl (pc + 2, L, .inl n :: st, E, cells, slots) else .inr none
  | .sipush n => if -32768 ≤ n ∧ n ≤ 32767 then .inl (pc + 3, L, .inl n :: st, E, cells, slots) else .inr none
  | .iload_n k => match L[k.val]? with
    | some (some (.inl z)) => .inl (pc + 1, L, .inl z :: st, E, cells, slots)
    | _ => .inr none
  | .aload_n k => match L[k.val]? with
    | some (some (.inr (.inl r))) => .inl (pc + 1, L, .inr (.inl r) :: st, E, cells, slots)
    | _ => .inr none
  | .istore_n k => match st with
    | .inl z :: st => if k.val < L.length ∧ noJ L k.val = true then .inl (pc + 1, L.set k.val (some (.inl z)), st, E, cells, slots) else .inr none
    | _ => .inr none
  | .astore_n k => match st with
    | .inr (.inl r) :: st => if k.val < L.length ∧ noJ L k.val = true then .inl (pc + 1, L.set k.val (some (.inr (.inl r))), st, E, cells, slots) else .inr none
    | _ => .inr none
  | .iinc i n => match L[i]? with
    | some (some (.inl z)) => if i < L.length ∧ noJ L i = true then .inl (pc + 3, L.set i (some (.inl (z + n))), st, E, cells, slots) else .inr none
    | _ => .inr none
  | .dup => match st with
    | v :: st => if isJ v = false then .inl (pc + 1, L, v :: v :: st, E, cells, slots) else .inr none
    | _ => .inr none
  | .goto off => if 0 ≤ (pc : Int) + off then .inl (pcT pc off, L, st, E, cells, slots) else .inr none
  | .if_icmp cn off => match st with
    | .inl b :: .inl a :: st => if (rng a ∧ rng b) ∧ 0 ≤ (pc : Int) + off then (if cmpB cn a b = true then .inl (pcT pc off, L, st, E, cells, slots) else .inl (pc + 3, L, st, E, cells, slots)) else .inr none
    | _ => .inr none
  | .new idx => match X.2.1 idx with
    | some (1, ci, _) => if (ci < 10 ∧ E.length < 593) ∧ cells + 1 ≤ M.1 ∧ slots + nfl ci ≤ M.2 then .inl (pc + 3, L, vR E.length :: st, E ++ [(ci, 0, [])], cells + 1, slots + nfl ci) else .inr none
    | _ => .inr none
  | .newarray aty => match aKind aty, st with
    | some k, .inl n :: st => if ((0 ≤ n ∧ n ≤ 30000) ∧ E.length < 593) ∧ cells + 1 ≤ M.1 ∧ slots + n.toNat ≤ M.2 then .inl (pc + 2, L, vR E.length :: st, E ++ [(k, n.toNat, [])], cells + 1, slots + n.toNat) else .inr none
    | _, _ => .inr none
  | .anewarray idx => match X.2.1 (idx + 1000), st with
    | some (2, a, _), .inl n :: st => if ((a = 13 ∨ a = 14) ∧ (0 ≤ n ∧ n ≤ 30000) ∧ E.length < 593) ∧ cells + 1 ≤ M.1 ∧ slots + n.toNat ≤ M.2 then .inl (pc + 3, L, vR E.length :: st, E ++ [(a, n.toNat, [])], cells + 1, slots + n.toNat) else .inr none
    | _, _ => .inr none
  | .putfield idx => match X.2.1 idx, st with
    | some (0, ci, k), v :: .inr (.inl (some i)) :: st => match E[i]? with
      | some (ci', n, l0) => if (ci' = ci ∧ ci < 10 ∧ k < nfl ci ∧ i < 593) ∧ finF ci k = true ∧ X.2.2.2 = true ∧ vok (fk ci k) v = true then .inl (pc + 3, L, st, E.set i (ci, n, (k, v) :: l0), cells, slots) else .inr none
      | none => .inr none
    | _, _ => .inr none
  | .getfield idx => match X.2.1 idx, st with
    | some (0, ci, k), .inr (.inl (some i)) :: st => match E[i]? with
      | some (ci', _, l0) => if ci' = ci ∧ ci < 10 ∧ k < nfl ci ∧ i < 593 then .inl (pc + 3, L, cdv ci l0 k :: st, E, cells, slots) else .inr none
      | none => .inr none
    | _, _ => .inr none
  | .iastore => match st with
    | .inl z :: .inl j :: .inr (.inl (some i)) :: st => match E[i]? with
      | some (k, n, l0) => if (k = 10 ∧ i < 593) ∧ (0 ≤ j ∧ j < n) ∧ n ≤ 30000 then .inl (pc + 1, L, st, E.set i (10, n, (j.toNat, vI z) :: l0), cells, slots) else .inr none
      | none => .inr none
    | _ => .inr none
  | .aastore => match st with
    | .inr (.inl (some v)) :: .inl j :: .inr (.inl (some i)) :: st => match E[i]?, E[v]? with
      | some (a, n, l0), some (ci, _, _) => if (((a = 13 ∧ ci = 5) ∨ (a = 14 ∧ ci = 6)) ∧ i < 593 ∧ v < 593) ∧ (0 ≤ j ∧ j < n) ∧ n ≤ 30000 then .inl (pc + 1, L, st, E.set i (a, n, (j.toNat, vR v) :: l0), cells, slots) else .inr none
      | _, _ => .inr none
    | _ => .inr none
  | .invokespecial idx => match X.2.2.1 idx with
    | some (n, mc, ms, f) => match st.drop n with
      | .inr (.inl (some b)) :: rest => if (n ≤ st.length ∧ rW rest = true ∧ b < 593) ∧ cells + mc ≤ M.1 ∧ slots + ms ≤ M.2 then (match f (vR b :: (st.take n).reverse) E with
        | some E' => .inl (pc + 3, L, rest, E', cells + mc, slots + ms)
        | none => .inr none) else .inr none
      | _ => .inr none
    | none => match X.2.1 idx, st with
      | some (3, _, _), .inr (.inl (some i)) :: st => if rW st = true ∧ i < 593 then .inl (pc + 3, L, st, E, cells, slots) else .inr none
      | _, _ => .inr none
  | .return_ => match st with
    | [] => if cells ≤ M.1 ∧ slots ≤ M.2 then .inr (some E) else .inr none
    | _ => .inr none
  | _ => .inr none
def stpC (X : XC) (M : Nat × Nat) (cf : CFC) : CFC ⊕ Option (List CD) := match decode X.1 cf.1 with
  | .ok (i, n) => if lenC i n = true then exc X M cf.1 cf.2.1 cf.2.2.1 cf.2.2.2.1 cf.2.2.2.2.1 cf.2.2.2.2.2 i else .inr none
  | _ => .inr none
def evC (X : XC) (M : Nat × Nat) : Nat → CFC → Option (List CD)
  | 0, _ => none
  | n + 1, cf => match stpC X M cf with
    | .inl cf' => evC X M n cf'
    | .inr r => r
def stepsC (X : XC) (M : Nat × Nat) : Nat → CFC → Option CFC
  | 0, cf => some cf
  | n + 1, cf => match stpC X M cf with
    | .inl cf' => stepsC X M n cf'
    | .inr _ => none
section CONS4
variable {p : Program} {l : Launch} {e : Env} {R : Room} {s : State} {m : MethodId} {args : Array Value} {below : List Frame} {meth : Method} {c : Code} {Q : State → Prop} {G : GG} {SX : MM} {nL : Nat} {own : String} {X : XC}
def CALLS (own : String) (X : XC) (nL : Nat) (R : Room) : Prop := ∀ idx n mc ms f, X.2.2.1 idx = some (n, mc, ms, f) → Call1C own X nL R idx n mc ms f
set_option maxHeartbeats 4000000 in
theorem exc_sound (C : CTXC p s m args meth c own X nL G) (hLK : LOK own X.2.1) (hCL : CALLS own X nL R) (hR : 1 ≤ R.frames ∧ 20 ≤ R.locals) {pc : Nat} {L : List (Option VV)} {st : List VV} {E : List CD} {cells slots : Nat} {i : Instr} {n : Nat} (hd : decode X.1 pc = .ok (i, n)) (hn : lenC i n = true) {cf' : CFC} (h : exc X (R.cells, R.slots) pc L st E cells slots i = .inl cf') (k : KC p l e R s m args below meth c Q G SX nL cf') : KC p l e R s m args below meth c Q G SX nL (pc, L, st, E, cells, slots) := by
  cases i with
  | iconst a =>
    obtain rfl : n = 1 := by simpa [lenC] using hn
    cases h
    exact fun H locs ls hw hl => lv_iconst C.1 C.2.1 hd rfl (k H locs ls hw hl)
  | bipush a =>
    obtain rfl : n = 2 := by simpa [lenC] using hn
    simp only [exc] at h
    split at h
    next h1 =>
      cases h
      exact fun H locs ls hw hl => lv_bipush C.1 C.2.1 hd (by rw [← Int32.toInt_inj, Int8.toInt_toInt32, i32T ⟨by omega, by omega⟩, Int8.toInt_ofInt]; exact Int.bmod_eq_of_le (by simp [Int8.size]; omega) (by simp [Int8.size]; omega)) (k H locs ls hw hl)
    next => cases h
  | sipush a =>
    obtain rfl : n = 3 := by simpa [lenC] using hn
    simp only [exc] at h
    split at h
    next h1 =>
      cases h
      exact fun H locs ls hw hl => lv_sipush C.1 C.2.1 hd (by rw [← Int32.toInt_inj, Int16.toInt_toInt32, i32T ⟨by omega, by omega⟩, Int16.toInt_ofInt]; exact Int.bmod_eq_of_le (by simp [Int16.size]; omega) (by simp [Int16.size]; omega)) (k H locs ls hw hl)
    next => cases h
  | iload_n j =>
    obtain rfl : n = 1 := by simpa [lenC] using hn
    simp only [exc] at h
    split at h
    next z hz =>
      cases h
      exact fun H locs ls hw hl => lv_iload_n C.1 C.2.1 hd rfl (LV.get (v := .inl z) hl hz) (k H locs ls hw hl)
    next => cases h
  | aload_n j =>
    obtain rfl : n = 1 := by simpa [lenC] using hn
    simp only [exc] at h
    split at h
    next r hz =>
      cases h
      intro H locs ls hw hl
      have g := LV.get (v := .inr (.inl r)) hl hz
      have k := k H locs ls hw hl
      cases r with
      | none => exact lv_aload_nN C.1 C.2.1 hd rfl g k
      | some r => exact lv_aload_n C.1 C.2.1 hd rfl g k
    next => cases h
  | istore_n j =>
    obtain rfl : n = 1 := by simpa [lenC] using hn
    simp only [exc] at h
    split at h
    next z st' =>
      split at h
      next h1 =>
        cases h
        exact fun H locs _ hw hl => lv_istore_n C.1 C.2.1 hd rfl hl.1 (Nat.lt_of_lt_of_le h1.1 hl.2) rfl fun ls' h' => k H locs ls' hw (LV.set1 (v := .inl z) h1.2 hl.2 h')
      next => cases h
    next => cases h
  | astore_n j =>
    obtain rfl : n = 1 := by simpa [lenC] using hn
    simp only [exc] at h
    split at h
    next r st' =>
      split at h
      next h1 =>
        cases h
        intro H locs ls hw hl
        cases r with
        | none => exact lv_astore_nN C.1 C.2.1 hd rfl hl.1 (Nat.lt_of_lt_of_le h1.1 hl.2) rfl fun ls' h' => k H locs ls' hw (LV.set1 (v := vN) h1.2 hl.2 h')
        | some r => exact lv_astore_n C.1 C.2.1 hd rfl hl.1 (Nat.lt_of_lt_of_le h1.1 hl.2) rfl fun ls' h' => k H locs ls' hw (LV.set1 (v := vR r) h1.2 hl.2 h')
      next => cases h
    next => cases h
  | iinc j a =>
    obtain rfl : n = 3 := by simpa [lenC] using hn
    simp only [exc] at h
    split at h
    next z hz =>
      split at h
      next h1 =>
        cases h
        intro H locs ls hw hl
        obtain ⟨q, hj⟩ := List.getElem?_of_mem (mem_asL (G := G) (q := (j, Value.int (Int32.ofInt z))).mpr ⟨.inl z, hz, rfl⟩)
        exact lv_iinc C.1 C.2.1 hd hl.1 hj (i32add z a) (Nat.lt_of_lt_of_le h1.1 hl.2) rfl fun ls' h' => k H locs ls' hw (LV.set1 (v := .inl (z + a)) h1.2 hl.2 h')
      next => cases h
    next => cases h
  | dup =>
    obtain rfl : n = 1 := by simpa [lenC] using hn
    simp only [exc] at h
    split at h
    next v st' =>
      split at h
      next h1 =>
        cases h
        exact fun H locs ls hw hl => lv_dup C.1 C.2.1 hd (by rw [cv_cat, h1]; rfl) (k H locs ls hw hl)
      next => cases h
    next => cases h
  | goto off =>
    obtain rfl : n = 3 := by simpa [lenC] using hn
    simp only [exc] at h
    split at h
    next h1 =>
      cases h
      exact fun H locs ls hw hl => lv_goto C.1 C.2.1 hd (pcT_eq h1) (k H locs ls hw hl)
    next => cases h
  | if_icmp cn off =>
    obtain rfl : n = 3 := by simpa [lenC] using hn
    simp only [exc] at h
    split at h
    next b a st' =>
      split at h
      next h1 =>
        obtain ⟨⟨ha, r0⟩, hp⟩ := h1
        have k2 : if cmpB cn a b = true then KC p l e R s m args below meth c Q G SX nL (pcT pc off, L, st', E, cells, slots) else KC p l e R s m args below meth c Q G SX nL (pc + 3, L, st', E, cells, slots) := by
          split at h
          next q => cases h; rw [if_pos q]; exact k
          next q => cases h; rw [if_neg q]; exact k
        intro H locs ls hw hl
        cases cn <;> simp only [cmpB, decide_eq_true_eq] at k2
        · exact lv_icmp_eq C.1 C.2.1 hd (pcT_eq hp) (fun q => by rw [i32eq ha r0] at q; rw [if_pos q] at k2; exact k2 H locs ls hw hl) (fun q => by rw [i32eq ha r0] at q; rw [if_neg q] at k2; exact k2 H locs ls hw hl)
        · exact lv_icmp_ne C.1 C.2.1 hd (pcT_eq hp) (fun q => by rw [i32eq ha r0] at q; rw [if_pos q] at k2; exact k2 H locs ls hw hl) (fun q => by rw [i32eq ha r0] at q; rw [if_neg (fun w => w q)] at k2; exact k2 H locs ls hw hl)
        · exact lv_icmp_lt C.1 C.2.1 hd (pcT_eq hp) (fun q => by rw [i32lt ha r0] at q; rw [if_pos q] at k2; exact k2 H locs ls hw hl) (fun q => by rw [i32lt ha r0] at q; rw [if_neg q] at k2; exact k2 H locs ls hw hl)
        · exact lv_icmp_ge C.1 C.2.1 hd (pcT_eq hp) (fun q => by rw [i32le r0 ha] at q; rw [if_pos q] at k2; exact k2 H locs ls hw hl) (fun q => by rw [i32le r0 ha] at q; rw [if_neg q] at k2; exact k2 H locs ls hw hl)
        · exact lv_icmp_gt C.1 C.2.1 hd (pcT_eq hp) (fun q => by rw [i32lt r0 ha] at q; rw [if_pos q] at k2; exact k2 H locs ls hw hl) (fun q => by rw [i32lt r0 ha] at q; rw [if_neg q] at k2; exact k2 H locs ls hw hl)
        · exact lv_icmp_le C.1 C.2.1 hd (pcT_eq hp) (fun q => by rw [i32le ha r0] at q; rw [if_pos q] at k2; exact k2 H locs ls hw hl) (fun q => by rw [i32le ha r0] at q; rw [if_neg q] at k2; exact k2 H locs ls hw hl)
      next => cases h
    next => cases h
  | new idx =>
    obtain rfl : n = 3 := by simpa [lenC] using hn
    simp only [exc] at h
    split at h
    next ci b hk =>
      split at h
      next h1 =>
        cases h
        exact c_new C hLK hd hk h1.1.1 h1.1.2 h1.2.1 h1.2.2 k
      next => cases h
    next => cases h
  | newarray aty =>
    obtain rfl : n = 2 := by simpa [lenC] using hn
    simp only [exc] at h
    split at h
    next q a st' hq =>
      split at h
      next h1 =>
        cases h
        refine c_newa C hd ?_ h1.1.1 h1.1.2 h1.2.1 h1.2.2 k
        cases aty with
        | int => cases hq; exact Or.inl ⟨rfl, rfl⟩
        | boolean => cases hq; exact Or.inr (Or.inl ⟨rfl, rfl⟩)
        | char => cases hq; exact Or.inr (Or.inr ⟨rfl, rfl⟩)
        | _ => cases hq
      next => cases h
    next => cases h
  | anewarray idx =>
    obtain rfl : n = 3 := by simpa [lenC] using hn
    simp only [exc] at h
    split at h
    next a b z st' hk =>
      split at h
      next h1 =>
        cases h
        exact c_anew C hLK hd hk h1.1.1 h1.1.2.1 h1.1.2.2 h1.2.1 h1.2.2 k
      next => cases h
    next => cases h
  | putfield idx =>
    obtain rfl : n = 3 := by simpa [lenC] using hn
    simp only [exc] at h
    split at h
    next ci q v i st' hk =>
      split at h
      next ci' n0 l0 hi =>
        split at h
        next h1 =>
          obtain ⟨⟨g1, g2, g3, g4⟩, g5, g6, g7⟩ := h1
          subst g1
          cases h
          refine c_putf C hLK g6 hd hk g2 g3 g5 hi g4 ?_ k
          rcases v with z | (_ | j) | u
          · refine Or.inr ⟨?_, z, rfl⟩
            simpa [vok] using g7
          · cases g7
          · refine Or.inl ⟨?_, j, rfl⟩
            simpa [vok] using g7
          · cases g7
        next => cases h
      next => cases h
    next => cases h
  | getfield idx =>
    obtain rfl : n = 3 := by simpa [lenC] using hn
    simp only [exc] at h
    split at h
    next ci q i st' hk =>
      split at h
      next ci' n0 l0 hi =>
        split at h
        next h1 =>
          obtain ⟨g1, g2, g3, g4⟩ := h1
          subst g1
          cases h
          exact c_getf C hLK hd hk g2 g3 hi g4 k
        next => cases h
      next => cases h
    next => cases h
  | iastore =>
    obtain rfl : n = 1 := by simpa [lenC] using hn
    simp only [exc] at h
    split at h
    next z j i st' =>
      split at h
      next q n0 l0 hi =>
        split at h
        next h1 =>
          obtain ⟨⟨g1, g2⟩, g3, g4⟩ := h1
          subst g1
          cases h
          exact c_iast C hd hi g2 g3 g4 k
        next => cases h
      next => cases h
    next => cases h
  | aastore =>
    obtain rfl : n = 1 := by simpa [lenC] using hn
    simp only [exc] at h
    split at h
    next v j i st' =>
      split at h
      next a n0 l0 ci nv lv hi hv =>
        split at h
        next h1 =>
          obtain ⟨⟨g1, g3, g4⟩, g5, g6⟩ := h1
          cases h
          rcases g1 with ⟨q1, q2⟩ | ⟨q1, q2⟩
          · subst q1
            subst q2
            exact c_aast C hd (Or.inl rfl) hi g3 (by rw [if_pos rfl]; exact hv) g4 g5 g6 k
          · subst q1
            subst q2
            exact c_aast C hd (Or.inr rfl) hi g3 (by rw [if_neg (by decide)]; exact hv) g4 g5 g6 k
        next => cases h
      next => cases h
    next => cases h
  | invokespecial idx =>
    obtain rfl : n = 3 := by simpa [lenC] using hn
    simp only [exc] at h
    split at h
    next n0 mc ms f hq =>
      split at h
      next b rest hr =>
        split at h
        next h1 =>
          obtain ⟨⟨g1, g2, g3⟩, g4, g5⟩ := h1
          split at h
          next E' hf =>
            cases h
            have hst : st = (st.take n0).reverse.reverse ++ vR b :: rest := by
              rw [List.reverse_reverse, ← hr, List.take_append_drop]
            rw [hst]
            exact hCL idx n0 mc ms f hq p l e s m args below meth c Q G SX C pc L (st.take n0).reverse b rest E E' cells slots hd (by rw [List.length_reverse, List.length_take]; omega) g2 g3 hf g4 g5 k
          next => cases h
        next => cases h
      next => cases h
    next hq =>
      split at h
      next a b i st' hk =>
        split at h
        next h1 =>
          cases h
          exact c_obj C hLK hd hk h1.1 h1.2 hR k
        next => cases h
      next => cases h
  | return_ =>
    simp only [exc] at h
    split at h
    · split at h <;> cases h
    · cases h
  | _ => simp only [exc] at h; cases h
theorem stpC_sound (C : CTXC p s m args meth c own X nL G) (hLK : LOK own X.2.1) (hCL : CALLS own X nL R) (hR : 1 ≤ R.frames ∧ 20 ≤ R.locals) {cf cf' : CFC} (h : stpC X (R.cells, R.slots) cf = .inl cf') (k : KC p l e R s m args below meth c Q G SX nL cf') : KC p l e R s m args below meth c Q G SX nL cf := by
  obtain ⟨pc, L, st, E, cells, slots⟩ := cf
  unfold stpC at h
  split at h
  next i n hd =>
    split at h
    next hn => exact exc_sound C hLK hCL hR hd hn h k
    next => cases h
  next => cases h
theorem stepsC_sound (C : CTXC p s m args meth c own X nL G) (hLK : LOK own X.2.1) (hCL : CALLS own X nL R) (hR : 1 ≤ R.frames ∧ 20 ≤ R.locals) : ∀ (n : Nat) (cf cf' : CFC), stepsC X (R.cells, R.slots) n cf = some cf' → KC p l e R s m args below meth c Q G SX nL cf' → KC p l e R s m args below meth c Q G SX nL cf := by
  intro n
  induction n with
  | zero => intro cf cf' h k; cases h; exact k
  | succ n ih =>
    intro cf cf' h k
    rw [stepsC] at h
    split at h
    next cf1 h1 => exact stpC_sound C hLK hCL hR h1 (ih cf1 cf' h k)
    next => cases h
theorem evC_sound (C : CTXC p s m args meth c own X nL G) (hLK : LOK own X.2.1) (hCL : CALLS own X nL R) (hR : 1 ≤ R.frames ∧ 20 ≤ R.locals) {E' : List CD} (hret : ∀ (pc : Nat) (L : List (Option VV)) (cells slots : Nat), decode X.1 pc = .ok (.return_, 1) → cells ≤ R.cells → slots ≤ R.slots → KC p l e R s m args below meth c Q G SX nL (pc, L, [], E', cells, slots)) : ∀ (n : Nat) (cf : CFC), evC X (R.cells, R.slots) n cf = some E' → KC p l e R s m args below meth c Q G SX nL cf := by
  intro n
  induction n with
  | zero => intro cf h; cases h
  | succ n ih =>
    intro cf h
    rw [evC] at h
    split at h
    next cf1 h1 => exact stpC_sound C hLK hCL hR h1 (ih cf1 h)
    next r h1 =>
      subst h
      obtain ⟨pc, L, st, E, cells, slots⟩ := cf
      unfold stpC at h1
      split at h1
      next i n hd =>
        split at h1
        next hn =>
          cases i with
          | return_ =>
            obtain rfl : n = 1 := by simpa [lenC] using hn
            simp only [exc] at h1
            split at h1
            next =>
              split at h1
              next h2 =>
                cases h1
                exact hret pc L cells slots hd h2.1 h2.2
              next => cases h1
            next => cases h1
          | _ =>
            exfalso
            simp only [exc] at h1
            repeat' split at h1
            all_goals cases h1
        next => cases h1
      next => cases h1
end CONS4

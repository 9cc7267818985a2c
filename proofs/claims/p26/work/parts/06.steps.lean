/-! a step of the meaning is steps of the machine -/
theorem op2_inv {pc : Nat} {L : List (Option VV)} {st : List VV} {S : MM} {f : Int → Int → Option Int} {c' : CF} (h : op2 pc L st S f = .inl c') : ∃ a b z st', st = .inl b :: .inl a :: st' ∧ f a b = some z ∧ c' = (pc + 1, L, .inl z :: st', S) := by
  unfold op2 at h
  split at h
  next b a st' =>
    split at h
    next z hz =>
      cases h
      exact ⟨a, b, z, st', rfl, hz, rfl⟩
    next => cases h
  next => cases h
theorem opS_inv {pc : Nat} {L : List (Option VV)} {st : List VV} {S : MM} {f : Nat → Nat → Nat} {c' : CF} (h : opS pc L st S f = .inl c') : ∃ (u : Nat) (a : Int) (st' : List VV), st = .inl a :: vJ u :: st' ∧ u < 18446744073709551616 ∧ 0 ≤ a ∧ a < 64 ∧ c' = (pc + 1, L, vJ (f u a.toNat) :: st', S) := by
  unfold opS at h
  split at h
  next a u st' =>
    split at h
    next hz =>
      cases h
      exact ⟨u, a, st', rfl, hz.1, hz.2.1, hz.2.2, rfl⟩
    next => cases h
  next => cases h
theorem opJ_inv {pc : Nat} {L : List (Option VV)} {st : List VV} {S : MM} {f : Nat → Nat → Option VV} {c' : CF} (h : opJ pc L st S f = .inl c') : ∃ (u v : Nat) (z : VV) (st' : List VV), st = vJ v :: vJ u :: st' ∧ u < 18446744073709551616 ∧ v < 18446744073709551616 ∧ f u v = some z ∧ c' = (pc + 1, L, z :: st', S) := by
  unfold opJ at h
  split at h
  next v u st' =>
    split at h
    next hz =>
      split at h
      next z hf =>
        cases h
        exact ⟨u, v, z, st', rfl, hz.1, hz.2, hf, rfl⟩
      next => cases h
    next => cases h
  next => cases h
theorem ldX_inv {i pc : Nat} {L : List (Option VV)} {st : List VV} {S : MM} {ok : VV → Bool} {c' : CF} (h : ldX i pc L st S ok = .inl c') : ∃ v, L[i]? = some (some v) ∧ ok v = true ∧ c' = (pc, L, v :: st, S) := by
  unfold ldX at h
  split at h
  next v hv =>
    split at h
    next ho =>
      cases h
      exact ⟨v, hv, ho, rfl⟩
    next => cases h
  next => cases h
theorem stX_inv {i pc : Nat} {L : List (Option VV)} {st : List VV} {S : MM} {ok : VV → Bool} {c' : CF} (h : stX i pc L st S ok = .inl c') : ∃ v st', st = v :: st' ∧ ok v = true ∧ i < L.length ∧ noJ L i = true ∧ c' = (pc, L.set i (some v), st', S) := by
  unfold stX at h
  split at h
  next v st' =>
    split at h
    next ho =>
      cases h
      exact ⟨v, st', rfl, ho.1, ho.2.1, ho.2.2, rfl⟩
    next => cases h
  next => cases h
theorem stJ_inv {i pc : Nat} {L : List (Option VV)} {st : List VV} {S : MM} {c' : CF} (h : stJ i pc L st S = .inl c') : ∃ u st', st = vJ u :: st' ∧ i + 1 < L.length ∧ noJ L i = true ∧ c' = (pc, (L.set i (some (vJ u))).set (i + 1) none, st', S) := by
  unfold stJ at h
  split at h
  next v st' =>
    split at h
    next ho =>
      cases h
      rcases v with z | r | u
      · exact absurd ho.1 (by simp [isJ])
      · exact absurd ho.1 (by simp [isJ])
      · exact ⟨u, st', rfl, ho.2.1, ho.2.2, rfl⟩
    next => cases h
  next => cases h
theorem isI_inv {v : VV} (h : isI v = true) : ∃ z, v = .inl z := by
  rcases v with z | r | u
  · exact ⟨z, rfl⟩
  · cases h
  · cases h
theorem isA_inv {v : VV} (h : isA v = true) : ∃ r, v = .inr (.inl r) := by
  rcases v with z | r | u
  · cases h
  · exact ⟨r, rfl⟩
  · cases h
theorem isJ_inv {v : VV} (h : isJ v = true) : ∃ u, v = vJ u := by
  rcases v with z | r | u
  · cases h
  · cases h
  · exact ⟨u, rfl⟩
theorem jmp_inv {pc : Nat} {off : Int} {L : List (Option VV)} {st : List VV} {S : MM} {c' : CF} (h : jmp pc off L st S = .inl c') : 0 ≤ (pc : Int) + off ∧ c' = (pcT pc off, L, st, S) := by
  unfold jmp at h
  split at h
  next ho =>
    cases h
    exact ⟨ho, rfl⟩
  next => cases h
theorem ald_inv {k pc : Nat} {L : List (Option VV)} {st : List VV} {S : MM} {c' : CF} (h : ald k pc L st S = .inl c') : ∃ j i z st', st = .inl j :: vR i :: st' ∧ aget k S i j = some z ∧ c' = (pc + 1, L, .inl z :: st', S) := by
  unfold ald at h
  split at h
  next j i st' =>
    split at h
    next z hz =>
      cases h
      exact ⟨j, i, z, st', rfl, hz, rfl⟩
    next => cases h
  next => cases h
theorem ast_inv {k pc : Nat} {L : List (Option VV)} {st : List VV} {S : MM} {c' : CF} (h : ast k pc L st S = .inl c') : ∃ z j i st', st = .inl z :: .inl j :: vR i :: st' ∧ ((kd i = k ∧ 0 ≤ j ∧ j < alen i ∧ fitB (k - 10) z = true ∧ c' = (pc + 1, L, st', updM S i j.toNat z)) ∨ (k = 10 ∧ i = 606 ∧ S 604 3 = 3 ∧ 0 ≤ j ∧ j < 3 ∧ c' = (pc + 1, L, st', updM S 606 j.toNat z))) := by
  unfold ast at h
  split at h
  next z j i st' =>
    split at h
    next ho =>
      cases h
      exact ⟨z, j, i, st', rfl, Or.inl ⟨ho.1, ho.2.1.1, ho.2.1.2, ho.2.2, rfl⟩⟩
    next =>
      split at h
      next ho =>
        cases h
        exact ⟨z, j, i, st', rfl, Or.inr ⟨ho.1, ho.2.1.1, ho.2.1.2, ho.2.2.1, ho.2.2.2, rfl⟩⟩
      next => cases h
  next => cases h
section SND
variable {p : Program} {l : Launch} {e : Env} {R : Room} {s : State} {m : MethodId} {args : Array Value} {below : List Frame} {meth : Method} {c : Code} {cells slots : Nat} {Q : State → Prop} {G : GG} {nL : Nat} {own : String} {X : XX}
variable {pc : Nat} {L : List (Option VV)} {st : List VV} {S : MM}
/-- what a call must be -/
def CALL (p : Program) (l : Launch) (e : Env) (R : Room) (s : State) (m : MethodId) (args : Array Value) (below : List Frame) (meth : Method) (c : Code) (cells slots : Nat) (Q : State → Prop) (G : GG) (nL : Nat) (X : XX) (ins : Instr) (virt : Bool) (q : Nat × Nat × FN) : Prop :=
  ∀ (pc : Nat) (L : List (Option VV)) (as rest : List VV) (S : MM) (r : Option VV) (S' : MM), decode X.1 pc = .ok (ins, 3) → as.length = q.2.1 → rW rest = true → recvB virt q.1 as = true → q.2.2 as S = some (r, S') → KK p l e R s m args below meth c cells slots Q G nL (pc + 3, L, r.toList ++ rest, S') → KK p l e R s m args below meth c cells slots Q G nL (pc, L, as.reverse ++ rest, S)
theorem callX_inv {q : Option (Nat × Nat × FN)} {virt : Bool} {pc : Nat} {L : List (Option VV)} {st : List VV} {S : MM} {c' : CF} (h : callX q virt pc L st S = .inl c') : ∃ ci n f r S', q = some (ci, n, f) ∧ n ≤ st.length ∧ rW (st.drop n) = true ∧ recvB virt ci (st.take n).reverse = true ∧ f (st.take n).reverse S = some (r, S') ∧ c' = (pc + 3, L, r.toList ++ st.drop n, S') := by
  unfold callX at h
  split at h
  next => cases h
  next ci n f =>
    split at h
    next ho =>
      split at h
      next r S' hf =>
        cases h
        exact ⟨ci, n, f, r, S', rfl, ho.1.1, ho.1.2, ho.2, hf, rfl⟩
      next => cases h
    next => cases h
theorem r_call {ins : Instr} {virt : Bool} {q : Option (Nat × Nat × FN)} {c' : CF} (hC : ∀ q', q = some q' → CALL p l e R s m args below meth c cells slots Q G nL X ins virt q') (hd : decode X.1 pc = .ok (ins, 3)) (h : callX q virt pc L st S = .inl c') (k : KK p l e R s m args below meth c cells slots Q G nL c') : KK p l e R s m args below meth c cells slots Q G nL (pc, L, st, S) := by
  obtain ⟨ci, n, f, r, S', hq, h1, h2, h3, h4, rfl⟩ := callX_inv h
  have := hC _ hq pc L (st.take n).reverse (st.drop n) S r S' hd (by simp; omega) h2 h3 h4 k
  rw [List.reverse_reverse, List.take_append_drop] at this
  exact this
set_option maxHeartbeats 4000000 in
theorem exi_sound (C : CTX p s m args c own X nL) (hF : FOK own X.2.1) (hV : ∀ idx q, X.2.2.1 0 idx = some q → CALL p l e R s m args below meth c cells slots Q G nL X (.invokevirtual idx) true q) (hS : ∀ idx q, X.2.2.1 1 idx = some q → CALL p l e R s m args below meth c cells slots Q G nL X (.invokestatic idx) false q)
    {i : Instr} {n : Nat} (hd : decode X.1 pc = .ok (i, n)) (hn : lenI i n = true) {c' : CF} (h : exi X pc L st S i = .inl c') (k : KK p l e R s m args below meth c cells slots Q G nL c') : KK p l e R s m args below meth c cells slots Q G nL (pc, L, st, S) := by
  cases i with
  | iconst a =>
    obtain rfl : n = 1 := by simpa [lenI] using hn
    cases h
    exact r_iconst C hd k
  | bipush a =>
    obtain rfl : n = 2 := by simpa [lenI] using hn
    simp only [exi] at h
    split at h
    next ho =>
      cases h
      exact r_bipush C hd ho k
    next => cases h
  | sipush a =>
    obtain rfl : n = 3 := by simpa [lenI] using hn
    simp only [exi] at h
    split at h
    next ho =>
      cases h
      exact r_sipush C hd ho k
    next => cases h
  | lconst a =>
    obtain rfl : n = 1 := by simpa [lenI] using hn
    cases h
    exact r_lconst C hd k
  | iload_n a =>
    obtain rfl : n = 1 := by simpa [lenI] using hn
    obtain ⟨v, h1, h2, rfl⟩ := ldX_inv h
    obtain ⟨z, rfl⟩ := isI_inv h2
    exact r_iload_n C hd h1 k
  | iload a =>
    obtain rfl : n = 2 := by simpa [lenI] using hn
    obtain ⟨v, h1, h2, rfl⟩ := ldX_inv h
    obtain ⟨z, rfl⟩ := isI_inv h2
    exact r_iload C hd h1 k
  | aload_n a =>
    obtain rfl : n = 1 := by simpa [lenI] using hn
    obtain ⟨v, h1, h2, rfl⟩ := ldX_inv h
    obtain ⟨z, rfl⟩ := isA_inv h2
    exact r_aload_n C hd h1 k
  | aload a =>
    obtain rfl : n = 2 := by simpa [lenI] using hn
    obtain ⟨v, h1, h2, rfl⟩ := ldX_inv h
    obtain ⟨z, rfl⟩ := isA_inv h2
    exact r_aload C hd h1 k
  | lload_n a =>
    obtain rfl : n = 1 := by simpa [lenI] using hn
    obtain ⟨v, h1, h2, rfl⟩ := ldX_inv h
    obtain ⟨z, rfl⟩ := isJ_inv h2
    exact r_lload_n C hd h1 k
  | lload a =>
    obtain rfl : n = 2 := by simpa [lenI] using hn
    obtain ⟨v, h1, h2, rfl⟩ := ldX_inv h
    obtain ⟨z, rfl⟩ := isJ_inv h2
    exact r_lload C hd h1 k
  | istore_n a =>
    obtain rfl : n = 1 := by simpa [lenI] using hn
    obtain ⟨v, st', rfl, h2, h3, h4, rfl⟩ := stX_inv h
    obtain ⟨z, rfl⟩ := isI_inv h2
    exact r_istore_n C hd h3 h4 k
  | istore a =>
    obtain rfl : n = 2 := by simpa [lenI] using hn
    obtain ⟨v, st', rfl, h2, h3, h4, rfl⟩ := stX_inv h
    obtain ⟨z, rfl⟩ := isI_inv h2
    exact r_istore C hd h3 h4 k
  | astore_n a =>
    obtain rfl : n = 1 := by simpa [lenI] using hn
    obtain ⟨v, st', rfl, h2, h3, h4, rfl⟩ := stX_inv h
    obtain ⟨z, rfl⟩ := isA_inv h2
    exact r_astore_n C hd h3 h4 k
  | astore a =>
    obtain rfl : n = 2 := by simpa [lenI] using hn
    obtain ⟨v, st', rfl, h2, h3, h4, rfl⟩ := stX_inv h
    obtain ⟨z, rfl⟩ := isA_inv h2
    exact r_astore C hd h3 h4 k
  | lstore_n a =>
    obtain rfl : n = 1 := by simpa [lenI] using hn
    obtain ⟨u, st', rfl, h3, h4, rfl⟩ := stJ_inv h
    exact r_lstore_n C hd h3 h4 k
  | lstore a =>
    obtain rfl : n = 2 := by simpa [lenI] using hn
    obtain ⟨u, st', rfl, h3, h4, rfl⟩ := stJ_inv h
    exact r_lstore C hd h3 h4 k
  | iinc a b =>
    obtain rfl : n = 3 := by simpa [lenI] using hn
    simp only [exi] at h
    split at h
    next z hz =>
      split at h
      next ho =>
        cases h
        exact r_iinc C hd hz ho.1 ho.2 k
      next => cases h
    next => cases h
  | iadd =>
    obtain rfl : n = 1 := by simpa [lenI] using hn
    simp only [exi] at h
    obtain ⟨a, b, z, st', rfl, hz, rfl⟩ := op2_inv h
    cases hz
    exact r_iadd C hd k
  | isub =>
    obtain rfl : n = 1 := by simpa [lenI] using hn
    simp only [exi] at h
    obtain ⟨a, b, z, st', rfl, hz, rfl⟩ := op2_inv h
    cases hz
    exact r_isub C hd k
  | imul =>
    obtain rfl : n = 1 := by simpa [lenI] using hn
    simp only [exi] at h
    obtain ⟨a, b, z, st', rfl, hz, rfl⟩ := op2_inv h
    cases hz
    exact r_imul C hd k
  | idiv =>
    obtain rfl : n = 1 := by simpa [lenI] using hn
    simp only [exi] at h
    obtain ⟨a, b, z, st', rfl, hz, rfl⟩ := op2_inv h
    split at hz
    next ho =>
      cases hz
      exact r_idiv C hd ho.1 ho.2.1 ho.2.2 k
    next => cases hz
  | irem =>
    obtain rfl : n = 1 := by simpa [lenI] using hn
    simp only [exi] at h
    obtain ⟨a, b, z, st', rfl, hz, rfl⟩ := op2_inv h
    split at hz
    next ho =>
      cases hz
      exact r_irem C hd ho.1 ho.2.1 ho.2.2 k
    next => cases hz
  | iand =>
    obtain rfl : n = 1 := by simpa [lenI] using hn
    simp only [exi] at h
    obtain ⟨a, b, z, st', rfl, hz, rfl⟩ := op2_inv h
    split at hz
    next ho =>
      cases hz
      subst ho
      exact r_iand C hd k
    next =>
      split at hz
      next ho =>
        cases hz
        subst ho
        exact r_iand2 C hd k
      next => cases hz
  | ishr =>
    obtain rfl : n = 1 := by simpa [lenI] using hn
    simp only [exi] at h
    obtain ⟨a, b, z, st', rfl, hz, rfl⟩ := op2_inv h
    split at hz
    next ho =>
      cases hz
      exact r_ishr C hd ho.1 ho.2.1 ho.2.2 k
    next => cases hz
  | i2c =>
    obtain rfl : n = 1 := by simpa [lenI] using hn
    simp only [exi] at h
    split at h
    next a st' =>
      cases h
      exact r_i2c C hd k
    next => cases h
  | i2l =>
    obtain rfl : n = 1 := by simpa [lenI] using hn
    simp only [exi] at h
    split at h
    next a st' =>
      split at h
      next ho =>
        cases h
        exact r_i2l C hd ho k
      next => cases h
    next => cases h
  | l2i =>
    obtain rfl : n = 1 := by simpa [lenI] using hn
    simp only [exi] at h
    split at h
    next a st' =>
      split at h
      next ho =>
        cases h
        exact r_l2i C hd ho k
      next => cases h
    next => cases h
  | ldc2_w a =>
    obtain rfl : n = 3 := by simpa [lenI] using hn
    simp only [exi] at h
    split at h
    next u hu =>
      cases h
      exact r_ldc2 C hd hF hu k
    next => cases h
  | ldc a =>
    obtain rfl : n = 2 := by simpa [lenI] using hn
    simp only [exi] at h
    split at h
    next u hu =>
      cases h
      exact r_ldc C hd hF hu k
    next => cases h
  | ladd =>
    obtain rfl : n = 1 := by simpa [lenI] using hn
    simp only [exi] at h
    obtain ⟨u, v, z, st', rfl, h1, h2, h3, rfl⟩ := opJ_inv h
    cases h3
    exact r_ladd C hd h1 h2 k
  | lmul =>
    obtain rfl : n = 1 := by simpa [lenI] using hn
    simp only [exi] at h
    obtain ⟨u, v, z, st', rfl, h1, h2, h3, rfl⟩ := opJ_inv h
    cases h3
    exact r_lmul C hd h1 h2 k
  | lushr =>
    obtain rfl : n = 1 := by simpa [lenI] using hn
    simp only [exi] at h
    obtain ⟨u, a, st', rfl, h1, h2, h3, rfl⟩ := opS_inv h
    exact r_lushr C hd h1 h2 h3 k
  | lshl =>
    obtain rfl : n = 1 := by simpa [lenI] using hn
    simp only [exi] at h
    obtain ⟨u, a, st', rfl, h1, h2, h3, rfl⟩ := opS_inv h
    exact r_lshl C hd h1 h2 h3 k
  | lshr =>
    obtain rfl : n = 1 := by simpa [lenI] using hn
    simp only [exi] at h
    obtain ⟨u, a, st', rfl, h1, h2, h3, rfl⟩ := opS_inv h
    exact r_lshr C hd h1 h2 h3 k
  | land =>
    obtain rfl : n = 1 := by simpa [lenI] using hn
    simp only [exi] at h
    obtain ⟨u, v, z, st', rfl, h1, h2, h3, rfl⟩ := opJ_inv h
    cases h3
    exact r_land C hd h1 h2 k
  | lor =>
    obtain rfl : n = 1 := by simpa [lenI] using hn
    simp only [exi] at h
    obtain ⟨u, v, z, st', rfl, h1, h2, h3, rfl⟩ := opJ_inv h
    cases h3
    exact r_lor C hd h1 h2 k
  | lcmp =>
    obtain rfl : n = 1 := by simpa [lenI] using hn
    simp only [exi] at h
    obtain ⟨u, v, z, st', rfl, h1, h2, h3, rfl⟩ := opJ_inv h
    cases h3
    exact r_lcmp C hd h1 h2 k
  | dup =>
    obtain rfl : n = 1 := by simpa [lenI] using hn
    simp only [exi] at h
    split at h
    next v st' =>
      split at h
      next ho =>
        cases h
        exact r_dup C hd ho k
      next => cases h
    next => cases h
  | pop =>
    obtain rfl : n = 1 := by simpa [lenI] using hn
    simp only [exi] at h
    split at h
    next v st' =>
      split at h
      next ho =>
        cases h
        exact r_pop C hd ho k
      next => cases h
    next => cases h
  | dup2 =>
    obtain rfl : n = 1 := by simpa [lenI] using hn
    simp only [exi] at h
    split at h
    next v w st' =>
      split at h
      next ho =>
        cases h
        exact r_dup2 C hd ho.1 ho.2 k
      next => cases h
    next => cases h
  | ifCond cn off =>
    obtain rfl : n = 3 := by simpa [lenI] using hn
    simp only [exi, br1] at h
    split at h
    next a st' =>
      split at h
      next ho =>
        refine r_if C hd ho.1 ho.2 ?_
        split at h
        next hc =>
          cases h
          rw [if_pos hc]
          exact k
        next hc =>
          cases h
          rw [if_neg hc]
          exact k
      next => cases h
    next => cases h
  | if_icmp cn off =>
    obtain rfl : n = 3 := by simpa [lenI] using hn
    simp only [exi, br2] at h
    split at h
    next b a st' =>
      split at h
      next ho =>
        refine r_icmp C hd ho.1.1 ho.1.2 ho.2 ?_
        split at h
        next hc =>
          cases h
          rw [if_pos hc]
          exact k
        next hc =>
          cases h
          rw [if_neg hc]
          exact k
      next => cases h
    next => cases h
  | ifnull off =>
    obtain rfl : n = 3 := by simpa [lenI] using hn
    simp only [exi] at h
    split at h
    next st' =>
      obtain ⟨h1, rfl⟩ := jmp_inv h
      exact r_ifnullN C hd h1 k
    next i st' =>
      cases h
      exact r_ifnullR C hd k
    next => cases h
  | ifnonnull off =>
    obtain rfl : n = 3 := by simpa [lenI] using hn
    simp only [exi] at h
    split at h
    next st' =>
      cases h
      exact r_ifnonnullN C hd k
    next i st' =>
      obtain ⟨h1, rfl⟩ := jmp_inv h
      exact r_ifnonnullR C hd h1 k
    next => cases h
  | aconst_null =>
    obtain rfl : n = 1 := by simpa [lenI] using hn
    cases h
    exact r_null C hd k
  | goto off =>
    obtain rfl : n = 3 := by simpa [lenI] using hn
    obtain ⟨h1, rfl⟩ := jmp_inv h
    exact r_goto C hd h1 k
  | tableswitch d lo hi offs =>
    simp only [exi] at h
    split at h
    next a st' =>
      split at h
      next ha =>
        split at h
        next ho =>
          obtain ⟨h1, rfl⟩ := jmp_inv h
          exact r_tabOut C hd ha ho h1 k
        next ho =>
          split at h
          next o hof =>
            obtain ⟨h1, rfl⟩ := jmp_inv h
            exact r_tabIn C hd ha ho hof h1 k
          next => cases h
      next => cases h
    next => cases h
  | lookupswitch d ps =>
    simp only [exi] at h
    split at h
    next a st' =>
      split at h
      next ho =>
        obtain ⟨h1, rfl⟩ := jmp_inv h
        exact r_look C hd ho.1 ho.2 h1 k
      next => cases h
    next => cases h
  | getfield a =>
    obtain rfl : n = 3 := by simpa [lenI] using hn
    simp only [exi] at h
    split at h
    next ci f i st' hf =>
      split at h
      next ho =>
        cases h
        exact r_getf C hd hF hf ho.1 ho.2.1 ho.2.2 k
      next => cases h
    next => cases h
  | putfield a =>
    obtain rfl : n = 3 := by simpa [lenI] using hn
    simp only [exi] at h
    split at h
    next ci f z i st' hf =>
      split at h
      next ho =>
        cases h
        exact r_putf C hd hF hf ho.1.1 ho.1.2.1 ho.1.2.2 ho.2 k
      next => cases h
    next => cases h
  | getstatic a =>
    obtain rfl : n = 3 := by simpa [lenI] using hn
    simp only [exi] at h
    split at h
    next u hu =>
      cases h
      exact r_gets C hd hF hu k
    next => cases h
  | arraylength =>
    obtain rfl : n = 1 := by simpa [lenI] using hn
    simp only [exi] at h
    split at h
    next i st' =>
      split at h
      next ho =>
        cases h
        exact r_alen C hd ho.1 ho.2 k
      next =>
        split at h
        next ho =>
          cases h
          exact r_alenX C hd ho k
        next => cases h
    next => cases h
  | iaload =>
    obtain rfl : n = 1 := by simpa [lenI] using hn
    simp only [exi] at h
    obtain ⟨j, i, z, st', rfl, h1, rfl⟩ := ald_inv h
    exact r_iald C hd h1 k
  | baload =>
    obtain rfl : n = 1 := by simpa [lenI] using hn
    simp only [exi] at h
    obtain ⟨j, i, z, st', rfl, h1, rfl⟩ := ald_inv h
    exact r_bald C hd h1 k
  | caload =>
    obtain rfl : n = 1 := by simpa [lenI] using hn
    simp only [exi] at h
    obtain ⟨j, i, z, st', rfl, h1, rfl⟩ := ald_inv h
    exact r_cald C hd h1 k
  | aaload =>
    obtain rfl : n = 1 := by simpa [lenI] using hn
    simp only [exi] at h
    split at h
    next j i st' =>
      split at h
      next ho =>
        cases h
        exact r_aald C hd ho.1 ho.2.1 ho.2.2 k
      next => cases h
    next => cases h
  | iastore =>
    obtain rfl : n = 1 := by simpa [lenI] using hn
    simp only [exi] at h
    obtain ⟨z, j, i, st', rfl, ⟨h1, h2, h3, h4, rfl⟩ | ⟨-, h1, h2, h3, h4, rfl⟩⟩ := ast_inv h
    · exact r_iast C hd h1 h2 h3 k
    · subst h1
      exact r_iast5 C hd h2 h3 h4 k
  | bastore =>
    obtain rfl : n = 1 := by simpa [lenI] using hn
    simp only [exi] at h
    obtain ⟨z, j, i, st', rfl, ⟨h1, h2, h3, h4, rfl⟩ | ⟨h0, -⟩⟩ := ast_inv h
    · exact r_bast C hd h1 h2 h3 h4 k
    · exact absurd h0 (by decide)
  | castore =>
    obtain rfl : n = 1 := by simpa [lenI] using hn
    simp only [exi] at h
    obtain ⟨z, j, i, st', rfl, ⟨h1, h2, h3, h4, rfl⟩ | ⟨h0, -⟩⟩ := ast_inv h
    · exact r_cast C hd h1 h2 h3 h4 k
    · exact absurd h0 (by decide)
  | invokevirtual a =>
    obtain rfl : n = 3 := by simpa [lenI] using hn
    exact r_call (hV a) hd h k
  | invokestatic a =>
    obtain rfl : n = 3 := by simpa [lenI] using hn
    exact r_call (hS a) hd h k
  | ireturn =>
    simp only [exi] at h
    split at h
    · split at h <;> cases h
    · cases h
  | areturn =>
    simp only [exi] at h
    split at h
    · split at h <;> cases h
    · cases h
  | return_ =>
    simp only [exi] at h
    split at h
    · split at h <;> cases h
    · cases h
  | lreturn =>
    simp only [exi] at h
    split at h
    · split at h <;> cases h
    · cases h
  | _ => cases h
/-- how the meaning ends -/
def retI (X : XX) (pc : Nat) (st : List VV) (v : Option VV) : Prop :=
  (decode X.1 pc = .ok (.ireturn, 1) ∧ ∃ z, st = [.inl z] ∧ v = some (.inl z) ∧ (1 ≤ X.2.2.2 ∧ X.2.2.2 ≤ 3) ∧ fitB (X.2.2.2 - 1) z = true) ∨ (decode X.1 pc = .ok (.areturn, 1) ∧ X.2.2.2 = 4 ∧ ∃ r, st = [.inr (.inl r)] ∧ v = some (.inr (.inl r))) ∨ (decode X.1 pc = .ok (.return_, 1) ∧ X.2.2.2 = 0 ∧ st = [] ∧ v = none) ∨ (decode X.1 pc = .ok (.lreturn, 1) ∧ X.2.2.2 = 5 ∧ ∃ u, st = [vJ u] ∧ v = some (vJ u))
theorem exi_end {i : Instr} {n : Nat} (hd : decode X.1 pc = .ok (i, n)) (hn : lenI i n = true) {r : RR} (h : exi X pc L st S i = .inr (some r)) : retI X pc st r.1 ∧ r.2 = S := by
  cases i with
  | ireturn =>
    obtain rfl : n = 1 := by simpa [lenI] using hn
    simp only [exi] at h
    split at h
    next z =>
      split at h
      next ho =>
        cases h
        exact ⟨Or.inl ⟨hd, z, rfl, rfl, ho.1, ho.2⟩, rfl⟩
      next => cases h
    next => cases h
  | areturn =>
    obtain rfl : n = 1 := by simpa [lenI] using hn
    simp only [exi] at h
    split at h
    next z =>
      split at h
      next ho =>
        cases h
        exact ⟨Or.inr (Or.inl ⟨hd, ho, z, rfl, rfl⟩), rfl⟩
      next => cases h
    next => cases h
  | return_ =>
    obtain rfl : n = 1 := by simpa [lenI] using hn
    simp only [exi] at h
    split at h
    next =>
      split at h
      next ho =>
        cases h
        exact ⟨Or.inr (Or.inr (Or.inl ⟨hd, ho, rfl, rfl⟩)), rfl⟩
      next => cases h
    next => cases h
  | lreturn =>
    obtain rfl : n = 1 := by simpa [lenI] using hn
    simp only [exi] at h
    split at h
    next z =>
      split at h
      next ho =>
        cases h
        exact ⟨Or.inr (Or.inr (Or.inr ⟨hd, ho, z, rfl, rfl⟩)), rfl⟩
      next => cases h
    next => cases h
  | _ =>
    exfalso
    simp only [exi, ldX, stX, stJ, op2, opS, opJ, jmp, br1, br2, ald, ast, callX] at h
    repeat' split at h
    all_goals cases h
theorem ev_sound (C : CTX p s m args c own X nL) (hF : FOK own X.2.1) (hV : ∀ idx q, X.2.2.1 0 idx = some q → CALL p l e R s m args below meth c cells slots Q G nL X (.invokevirtual idx) true q) (hS : ∀ idx q, X.2.2.1 1 idx = some q → CALL p l e R s m args below meth c cells slots Q G nL X (.invokestatic idx) false q)
    {r : RR} (hR : ∀ (pc : Nat) (L : List (Option VV)) (st : List VV), retI X pc st r.1 → KK p l e R s m args below meth c cells slots Q G nL (pc, L, st, r.2)) : ∀ (n : Nat) (cf : CF), ev X n cf = some r → KK p l e R s m args below meth c cells slots Q G nL cf := by
  intro n
  induction n with
  | zero => intro cf h; cases h
  | succ n ih =>
    intro cf h
    obtain ⟨pc, L, st, S⟩ := cf
    rw [ev] at h
    split at h
    next c' hc =>
      unfold stp at hc
      split at hc
      next i k hd =>
        split at hc
        next hn => exact exi_sound C hF hV hS hd hn hc (ih c' h)
        next => cases hc
      next => cases hc
    next r' hc =>
      subst h
      unfold stp at hc
      split at hc
      next i k hd =>
        split at hc
        next hn =>
          obtain ⟨h1, h2⟩ := exi_end hd hn hc
          have h3 := hR pc L st h1
          rw [h2] at h3
          exact h3
        next => cases hc
      next => cases hc
end SND

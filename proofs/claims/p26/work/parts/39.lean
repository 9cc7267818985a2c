/-! methods that make cells: a ghost place of the memory (row 604, place 4) counts them -/
noncomputable def kp (f : FN) : FN := fun as S => match f as S with
  | some q => @ite _ (q.2 604 = S 604) (Classical.propDecidable _) (some q) none
  | none => none
theorem kp_inv {f : FN} {as : List VV} {S : MM} {q : RR} (h : kp f as S = some q) : f as S = some q ∧ q.2 604 = S 604 := by
  unfold kp at h
  split at h
  next q' hq =>
    by_cases h4 : q'.2 604 = S 604
    · rw [if_pos h4] at h
      cases h
      exact ⟨hq, h4⟩
    · rw [if_neg h4] at h
      cases h
  next => cases h
theorem kp_of {f : FN} {as : List VV} {S : MM} {q : RR} (h : f as S = some q) (h4 : q.2 604 = S 604) : kp f as S = some q := by
  unfold kp
  rw [h]
  exact if_pos h4
theorem kp_id {f : FN} {as : List VV} {S : MM} {r : Option VV} (h : f as S = some (r, S)) : kp f as S = some (r, S) := kp_of h rfl
theorem con_kp {y : MethodName} {bytes : ByteArray} {maxL : Nat} {ret : Option FieldType} {rm : Room} {f : FN} (h : Con y bytes maxL ret rm f) : Con y bytes maxL ret rm (kp f) := fun l G as S r hf => h l G as S r (kp_inv hf).1
def dl (S S' : MM) : Nat := (S' 604 4 - S 604 4).toNat
def rmG (fr lo d : Nat) : Room := { frames := fr, cells := d, slots := 3 * d, locals := lo }
def Mono (f : FN) : Prop := ∀ (as : List VV) (S : MM) (r : RR), f as S = some r → S 604 4 ≤ r.2 604 4
theorem mono_kp (f : FN) : Mono (kp f) := fun as S r h => by rw [(kp_inv h).2]; exact Int.le_refl _
def ConG (y : MethodName) (bytes : ByteArray) (maxL : Nat) (ret : Option FieldType) (fr lo : Nat) (f : FN) : Prop :=
  ∀ (l : Launch) (G : GG) (as : List VV) (S : MM) (r : RR), f as S = some r → Met l y (.code y bytes maxL ret :: lw_g) (rmG fr lo (dl S r.2)) (va_Pc (as.map (cv G)) (WU G S)) (QG G r) (dl S r.2) (3 * dl S r.2) (fun q => G.2.1 ≤ q)
theorem kd604 : kd 604 = 99 := by decide +kernel
section COST
variable {p : Program} {l : Launch} {e : Env} {R : Room} {s : State} {m : MethodId} {args : Array Value} {below : List Frame} {meth : Method} {c : Code} {cells slots : Nat} {Q : State → Prop} {G : GG} {nL : Nat} {own : String} {X : XX}
variable {pc : Nat} {L : List (Option VV)} {st : List VV} {S : MM}
def KB (p : Program) (l : Launch) (e : Env) (R : Room) (s : State) (m : MethodId) (args : Array Value) (below : List Frame) (meth : Method) (c : Code) (k0 s0 : Nat) (g0 : Int) (Q : State → Prop) (G : GG) (nL : Nat) (cf : CF) : Prop :=
  KK p l e R s m args below meth c (k0 + (cf.2.2.2 604 4 - g0).toNat) (s0 + 3 * (cf.2.2.2 604 4 - g0).toNat) Q G nL cf
def CALLg (p : Program) (l : Launch) (e : Env) (R : Room) (s : State) (m : MethodId) (args : Array Value) (below : List Frame) (meth : Method) (c : Code) (k0 s0 : Nat) (g0 bnd : Int) (Q : State → Prop) (G : GG) (nL : Nat) (X : XX) (ins : Instr) (virt : Bool) (q : Nat × Nat × FN) : Prop :=
  ∀ (pc : Nat) (L : List (Option VV)) (as rest : List VV) (S : MM) (r : Option VV) (S' : MM), decode X.1 pc = .ok (ins, 3) → as.length = q.2.1 → rW rest = true → recvB virt q.1 as = true → q.2.2 as S = some (r, S') →
    g0 ≤ S 604 4 → S' 604 4 ≤ bnd → KB p l e R s m args below meth c k0 s0 g0 Q G nL (pc + 3, L, r.toList ++ rest, S') → KB p l e R s m args below meth c k0 s0 g0 Q G nL (pc, L, as.reverse ++ rest, S)
def Call1g (own : String) (X : XX) (nL : Nat) (R : Room) (k0 s0 : Nat) (g0 bnd : Int) (q : CE) : Prop :=
  ∀ (p : Program) (l : Launch) (e : Env) (s : State) (m : MethodId) (args : Array Value) (below : List Frame) (meth : Method) (c : Code) (Q : State → Prop) (G : GG), CTX p s m args c own X nL → G.2.1 ≤ s.heap.size →
    CALLg p l e R s m args below meth c k0 s0 g0 bnd Q G nL X (if q.1 = 0 then .invokevirtual q.2.1 else .invokestatic q.2.1) (q.1 == 0) q.2.2
theorem mcF_allg {k0 s0 : Nat} {g0 bnd : Int} {ql : List CE} (hX : X.2.2.1 = mcF ql) (h : ∀ q ∈ ql, Call1g own X nL R k0 s0 g0 bnd q) (C : CTX p s m args c own X nL) (hb : G.2.1 ≤ s.heap.size) :
    (∀ idx q, X.2.2.1 0 idx = some q → CALLg p l e R s m args below meth c k0 s0 g0 bnd Q G nL X (.invokevirtual idx) true q) ∧ (∀ idx q, X.2.2.1 1 idx = some q → CALLg p l e R s m args below meth c k0 s0 g0 bnd Q G nL X (.invokestatic idx) false q) := by
  constructor
  · intro idx q hq
    rw [hX] at hq
    unfold mcF at hq
    cases hf : ql.find? (fun q => q.1 == 0 && q.2.1 == idx) with
    | none => rw [hf] at hq; cases hq
    | some z =>
      rw [hf] at hq
      cases hq
      have h1 := List.find?_some hf
      simp only [Bool.and_eq_true, beq_iff_eq] at h1
      have h2 := h z (List.mem_of_find?_eq_some hf) p l e s m args below meth c Q G C hb
      rw [h1.1, if_pos rfl, h1.2] at h2
      exact h2
  · intro idx q hq
    rw [hX] at hq
    unfold mcF at hq
    cases hf : ql.find? (fun q => q.1 == 1 && q.2.1 == idx) with
    | none => rw [hf] at hq; cases hq
    | some z =>
      rw [hf] at hq
      cases hq
      have h1 := List.find?_some hf
      simp only [Bool.and_eq_true, beq_iff_eq] at h1
      have h2 := h z (List.mem_of_find?_eq_some hf) p l e s m args below meth c Q G C hb
      rw [h1.1, if_neg (by decide), h1.2] at h2
      exact h2
theorem call_norm {k0 s0 : Nat} {g0 bnd : Int} {k idx ci n : Nat} {f : FN} (h : ∀ cells slots : Nat, cells ≤ R.cells → slots ≤ R.slots → Call1 own X nL R cells slots (k, idx, ci, n, kp f)) (hb : k0 + (bnd - g0).toNat ≤ R.cells ∧ s0 + 3 * (bnd - g0).toNat ≤ R.slots) : Call1g own X nL R k0 s0 g0 bnd (k, idx, ci, n, kp f) := by
  intro p l e s m args below meth c Q G C hbs pc L as rest S r S' hdec hlen hrest hrec hf hg hb2 kk
  have h4 : S' 604 = S 604 := (kp_inv hf).2
  have e1 : k0 + (S 604 4 - g0).toNat ≤ R.cells := by rw [h4] at hb2; omega
  have e2 : s0 + 3 * (S 604 4 - g0).toNat ≤ R.slots := by rw [h4] at hb2; omega
  unfold KB at kk ⊢
  have kk : KK p l e R s m args below meth c (k0 + (S 604 4 - g0).toNat) (s0 + 3 * (S 604 4 - g0).toNat) Q G nL (pc + 3, L, r.toList ++ rest, S') := by
    have kk := kk
    dsimp only at kk
    rw [h4] at kk
    exact kk
  exact h _ _ e1 e2 p l e s m args below meth c Q G C hbs pc L as rest S r S' hdec hlen hrest hrec hf kk
theorem call_cost {y : MethodName} {bytes : ByteArray} {maxL idx n fr lo : Nat} {ret : Option FieldType} {f : FN} {k0 s0 : Nat} {g0 bnd : Int} (hm : Mono f) (hC : ConG y bytes maxL ret fr lo f) (hc : Cond.code y bytes maxL ret ∈ lw_g) (hw : ∀ w ∈ [Cond.methodLink own idx y, .static y, .initialized y.cls], w ∈ lw_g)
    (hd : y.cls ≠ "java/lang/invoke/MethodHandle" ∧ y.cls ≠ "java/lang/invoke/VarHandle" ∧ (parseMethodDescriptor y.desc).map (fun d => d.parameters.length) = some n) (hR : fr + 1 ≤ R.frames ∧ 8 + (maxL + 11) + lo ≤ R.locals) (hb : k0 + (bnd - g0).toNat ≤ R.cells ∧ s0 + 3 * (bnd - g0).toNat ≤ R.slots) :
    Call1g own X nL R k0 s0 g0 bnd (1, idx, 0, n, f) := by
  intro p l e s m args below meth c Q G C hbs pc L as rest S r S' hdec hlen hrest hrec hf hg hb2 k H locs ls hww hl
  have hM := hC l G as S (r, S') hf
  have hmono : S 604 4 ≤ S' 604 4 := hm _ _ _ hf
  have k := fun H1 locs1 h => k H1 locs1 ls h hl
  have hdec : decode X.1 pc = .ok (.invokestatic idx, 3) := hdec
  have hst : (as.reverse ++ rest).map (cv G) = (as.map (cv G)).reverse ++ rest.map (cv G) := by
    simp only [List.map_append, List.map_reverse]
  rw [hst]
  have hlen : as.length = n := hlen
  have hcw := va_cwS (s := s) (args := args) (R := R) (mc := dl S S') (ms := 3 * dl S S') (rm := rmG fr lo (dl S S')) n C.2.2.2.2.1 (good_app (a := [.methodLink own idx y, .static y, .initialized y.cls]) hw (good_g hc)) rfl rfl rfl ⟨hd.1, hd.2.1, hd.2.2⟩ hR
  have ec : k0 + (S 604 4 - g0).toNat + dl S S' = k0 + (S' 604 4 - g0).toNat := by unfold dl; omega
  have es : s0 + 3 * (S 604 4 - g0).toNat + 3 * dl S S' = s0 + 3 * (S' 604 4 - g0).toNat := by unfold dl; omega
  refine va_callM (r := (r, S')) (va_runS (As := as.map (cv G)) (rest := rest.map (cv G)) ⟨C.1, C.2.1, C.2.2.1, C.2.2.2.1, C.2.2.2.2.1⟩ hM hcw ⟨blindG, fun U hU hW => ⟨rfl, hww.toWU C.2.2.2.2.2 hbs hU hW⟩⟩ rfl (by rw [List.length_map]; exact hlen) hl.1.1 rfl (lv_room (rest_le hrest)) hdec ⟨?_, ?_⟩) hww hbs ?_
  · show k0 + (S 604 4 - g0).toNat + dl S S' ≤ R.cells
    omega
  · show s0 + 3 * (S 604 4 - g0).toNat + 3 * dl S S' ≤ R.slots
    omega
  intro H1 locs1 hw1
  show W p l e R s m args below meth c H1 locs1 (k0 + (S 604 4 - g0).toNat + dl S S') (s0 + 3 * (S 604 4 - g0).toNat + 3 * dl S S') Q _
  rw [opt_list, ec, es]
  exact k H1 locs1 hw1
theorem exi_604 {i : Instr} {c' : CF} (hv : ∀ a, i ≠ .invokevirtual a) (hs : ∀ a, i ≠ .invokestatic a) (h : exi X pc L st S i = .inl c') : c'.2.2.2 604 = S 604 := by
  cases i with
  | putfield a =>
    simp only [exi] at h
    split at h
    next ci k z i st' hf =>
      split at h
      next ho =>
        cases h
        refine updM_row ?_
        rintro rfl
        have := kd604
        omega
      next => cases h
    next => cases h
  | iastore =>
    simp only [exi] at h
    obtain ⟨z, j, i, st', rfl, ⟨h1, h2, h3, h4, rfl⟩ | ⟨-, h1, h2, h3, h4, rfl⟩⟩ := ast_inv h
    · refine updM_row ?_
      rintro rfl
      have := kd604
      omega
    · exact updM_row (S := S) (a := 604) (i := 606) (k := j.toNat) (z := z) (by decide)
  | bastore =>
    simp only [exi] at h
    obtain ⟨z, j, i, st', rfl, ⟨h1, h2, h3, h4, rfl⟩ | ⟨h0, -⟩⟩ := ast_inv h
    · refine updM_row ?_
      rintro rfl
      have := kd604
      omega
    · exact absurd h0 (by decide)
  | castore =>
    simp only [exi] at h
    obtain ⟨z, j, i, st', rfl, ⟨h1, h2, h3, h4, rfl⟩ | ⟨h0, -⟩⟩ := ast_inv h
    · refine updM_row ?_
      rintro rfl
      have := kd604
      omega
    · exact absurd h0 (by decide)
  | invokevirtual a => exact absurd rfl (hv a)
  | invokestatic a => exact absurd rfl (hs a)
  | _ =>
    simp only [exi, ldX, stX, stJ, op2, opS, opJ, jmp, br1, br2, ald] at h
    repeat' split at h
    all_goals first | (cases h; rfl) | cases h
theorem exi_plain {i : Instr} (hv : ∀ a, i ≠ .invokevirtual a) (hs : ∀ a, i ≠ .invokestatic a) : exi (X.1, X.2.1, (fun _ _ => none), X.2.2.2) pc L st S i = exi X pc L st S i := by
  cases i with
  | invokevirtual a => exact absurd rfl (hv a)
  | invokestatic a => exact absurd rfl (hs a)
  | _ => rfl
theorem callX_g {k0 s0 : Nat} {g0 bnd : Int} {ins : Instr} {virt : Bool} {q : Option (Nat × Nat × FN)} {c' : CF} (hC : ∀ q', q = some q' → CALLg p l e R s m args below meth c k0 s0 g0 bnd Q G nL X ins virt q') (hd : decode X.1 pc = .ok (ins, 3)) (h : callX q virt pc L st S = .inl c') : g0 ≤ S 604 4 → c'.2.2.2 604 4 ≤ bnd → KB p l e R s m args below meth c k0 s0 g0 Q G nL c' → KB p l e R s m args below meth c k0 s0 g0 Q G nL (pc, L, st, S) := by
  obtain ⟨ci, n, f, r, S', hq, h1, h2, h3, h4, rfl⟩ := callX_inv h
  have := hC _ hq pc L (st.take n).reverse (st.drop n) S r S' hd (by simp; omega) h2 h3 h4
  rw [List.reverse_reverse, List.take_append_drop] at this
  exact this
theorem callX_mono {virt : Bool} {q : Option (Nat × Nat × FN)} {c' : CF} (hm : ∀ q', q = some q' → Mono q'.2.2) (h : callX q virt pc L st S = .inl c') : S 604 4 ≤ c'.2.2.2 604 4 := by
  obtain ⟨ci, n, f, r, S', hq, h1, h2, h3, h4, rfl⟩ := callX_inv h
  exact hm _ hq _ _ _ h4
theorem stp_mono (hm : ∀ (k idx : Nat) (q : Nat × Nat × FN), X.2.2.1 k idx = some q → Mono q.2.2) {i : Instr} {c' : CF} (h : exi X pc L st S i = .inl c') : S 604 4 ≤ c'.2.2.2 604 4 := by
  by_cases hv : ∃ a, i = .invokevirtual a
  · obtain ⟨a, rfl⟩ := hv
    exact callX_mono (hm 0 a) h
  by_cases hs : ∃ a, i = .invokestatic a
  · obtain ⟨a, rfl⟩ := hs
    exact callX_mono (hm 1 a) h
  rw [exi_604 (fun a q => hv ⟨a, q⟩) (fun a q => hs ⟨a, q⟩) h]
  exact Int.le_refl _
theorem ev_mono (hm : ∀ (k idx : Nat) (q : Nat × Nat × FN), X.2.2.1 k idx = some q → Mono q.2.2) {r : RR} : ∀ (n : Nat) (cf : CF), ev X n cf = some r → cf.2.2.2 604 4 ≤ r.2 604 4 := by
  intro n
  induction n with
  | zero => intro cf h; cases h
  | succ n ih =>
    intro cf h
    obtain ⟨pc, L, st, S⟩ := cf
    rw [ev] at h
    split at h
    next c' hc =>
      have i1 := ih c' h
      unfold stp at hc
      split at hc
      next i k hd =>
        split at hc
        next hn => exact Int.le_trans (stp_mono hm hc) i1
        next => cases hc
      next => cases hc
    next r' hc =>
      subst h
      unfold stp at hc
      split at hc
      next i k hd =>
        split at hc
        next hn =>
          obtain ⟨h1, h2⟩ := exi_end hd hn hc
          rw [h2]
          exact Int.le_refl _
        next => cases hc
      next => cases hc
theorem ev_soundG {k0 s0 : Nat} {g0 bnd : Int} (C : CTX p s m args c own X nL) (hF : FOK own X.2.1) (hm : ∀ (k idx : Nat) (q : Nat × Nat × FN), X.2.2.1 k idx = some q → Mono q.2.2) (hV : ∀ idx q, X.2.2.1 0 idx = some q → CALLg p l e R s m args below meth c k0 s0 g0 bnd Q G nL X (.invokevirtual idx) true q) (hS : ∀ idx q, X.2.2.1 1 idx = some q → CALLg p l e R s m args below meth c k0 s0 g0 bnd Q G nL X (.invokestatic idx) false q)
    {r : RR} (hbnd : r.2 604 4 ≤ bnd) (hR : ∀ (pc : Nat) (L : List (Option VV)) (st : List VV), retI X pc st r.1 → KB p l e R s m args below meth c k0 s0 g0 Q G nL (pc, L, st, r.2)) : ∀ (n : Nat) (cf : CF), ev X n cf = some r → g0 ≤ cf.2.2.2 604 4 → KB p l e R s m args below meth c k0 s0 g0 Q G nL cf := by
  intro n
  induction n with
  | zero => intro cf h; cases h
  | succ n ih =>
    intro cf h hg
    obtain ⟨pc, L, st, S⟩ := cf
    have hg : g0 ≤ S 604 4 := hg
    rw [ev] at h
    split at h
    next c' hc =>
      have i1 := ev_mono hm n c' h
      have i2 := ih c' h
      unfold stp at hc
      split at hc
      next i k hd =>
        split at hc
        next hn =>
          have q1 := stp_mono hm hc
          by_cases hv : ∃ a, i = .invokevirtual a
          · obtain ⟨a, rfl⟩ := hv
            obtain rfl : k = 3 := by simpa [lenI] using hn
            exact callX_g (hV a) hd hc hg (Int.le_trans i1 hbnd) (i2 (Int.le_trans hg q1))
          by_cases hs : ∃ a, i = .invokestatic a
          · obtain ⟨a, rfl⟩ := hs
            obtain rfl : k = 3 := by simpa [lenI] using hn
            exact callX_g (hS a) hd hc hg (Int.le_trans i1 hbnd) (i2 (Int.le_trans hg q1))
          have hv' : ∀ a, i ≠ .invokevirtual a := fun a q => hv ⟨a, q⟩
          have hs' : ∀ a, i ≠ .invokestatic a := fun a q => hs ⟨a, q⟩
          have e4 := exi_604 hv' hs' hc
          have i2 := i2 (by rw [e4]; exact hg)
          unfold KB at i2 ⊢
          rw [e4] at i2
          have C' : CTX p s m args c own (X.1, X.2.1, (fun _ _ => none), X.2.2.2) nL := C
          exact exi_sound (X := (X.1, X.2.1, (fun _ _ => none), X.2.2.2)) C' hF (fun _ _ h => by cases h) (fun _ _ h => by cases h) hd hn (by rw [exi_plain hv' hs']; exact hc) i2
        next => cases hc
      next => cases hc
    next r' hc =>
      subst h
      unfold stp at hc
      split at hc
      next i k hd =>
        split at hc
        next hn =>
          obtain ⟨h1, h2⟩ := exi_end hd hn hc
          have h3 := hR pc L st h1
          rw [h2] at h3
          exact h3
        next => cases hc
      next => cases hc
theorem mcF_mono {ql : List CE} (hX : X.2.2.1 = mcF ql) (h : ∀ q ∈ ql, Mono q.2.2.2.2) : ∀ (k idx : Nat) (q : Nat × Nat × FN), X.2.2.1 k idx = some q → Mono q.2.2 := by
  intro k idx q hq
  rw [hX] at hq
  unfold mcF at hq
  cases hf : ql.find? (fun q => q.1 == k && q.2.1 == idx) with
  | none => rw [hf] at hq; cases hq
  | some z =>
    rw [hf] at hq
    cases hq
    exact h z (List.mem_of_find?_eq_some hf)
theorem fnX_mono {maxL : Nat} {ql : List CE} (hX : X.2.2.1 = mcF ql) (h : ∀ q ∈ ql, Mono q.2.2.2.2) : Mono (fnX X maxL) := by
  intro as S r hf
  unfold fnX at hf
  split at hf
  next hlen =>
    obtain ⟨n, hn⟩ := (rn_iff _ _ _).mp hf
    exact ev_mono (mcF_mono hX h) n _ hn
  next => cases hf
theorem conG_of {y : MethodName} {maxL fr lo : Nat} {ql : List CE} (hy : plainName y.cls = true) (hown : y.cls = own) (hF : FOK own X.2.1) (hX : X.2.2.1 = mcF ql) (hm : ∀ q ∈ ql, Mono q.2.2.2.2) (hq : ∀ (d : Nat) (g0 bnd : Int), (bnd - g0).toNat ≤ d → ∀ q ∈ ql, Call1g own X maxL (rmG fr lo d) 0 0 g0 bnd q) (hrk : X.2.2.2 = 2) : ConG y X.1 maxL (some .boolean) fr lo (fnX X maxL) := by
  intro l G as S r hf
  have hmf := fnX_mono hX hm as S r hf
  unfold fnX at hf
  split at hf
  next hlen =>
    obtain ⟨n, hn⟩ := (rn_iff _ _ _).mp hf
    have hq := hq (dl S r.2) (S 604 4) (r.2 604 4) (Nat.le_refl _)
    refine Met.ofW (cc := X.1) (maxL := maxL) (ret := some .boolean) hy rfl ?_
    intro p e s m args below meth c s₁ B hml hv
    obtain ⟨rfl, hK, hP, hE, hN, hb⟩ := hv
    have hts := atoms_spec (ws := Cond.code y X.1 maxL (some .boolean) :: lw_g) B.pre
    have ho : s.vm.findClass own = some m.cls := by rw [← hown]; exact findClass_of_methodNamed B.named
    have C : CTX p s m (as.map (cv G)).toArray c own X maxL := ⟨B.exec, B.bytes, hml, ho, fun w hw => hts w (List.mem_cons_of_mem _ hw), hN⟩
    have hlocks := B.notSynchronized
    have hr := B.returns
    obtain ⟨hV, hSt⟩ := mcF_allg (p := p) (l := l) (e := e) (below := below) (meth := meth) (Q := MQ below (QG G r) (as.map (cv G)).toArray s (dl S r.2) (3 * dl S r.2) (fun q => G.2.1 ≤ q)) (G := G) hX hq C hb
    rw [lg_entry_eq]
    have key := ev_soundG C hF (mcF_mono hX hm) hV hSt (r := r) (Int.le_refl _) ?_ n (0, lay as ++ List.replicate (maxL - (lay as).length) none, [], S) hn (Int.le_refl _)
    · have key := key s.heap [] _ ⟨hK, hP, va_S.rf, hE⟩ (LV_entry hlen)
      dsimp only at key
      rw [Int.sub_self] at key
      exact key
    intro pc L st hret H locs ls hw hl
    have hfin : ∀ t : State, t.heap = H → s.WarmedH t.vm → QG G r (as.map (cv G)).toArray s (.returned (r.1.map (cv G))) t := fun t ht hW => ⟨rfl, hw.toWU hN hb ht hW, hw.2.2.1.F ht⟩
    have hfr : ∀ q ∈ locs, (fun q => G.2.1 ≤ q) q.base := hw.2.2.1.2.2
    have ec : (0 : Nat) + (r.2 604 4 - S 604 4).toNat = dl S r.2 := by unfold dl; omega
    have es : (0 : Nat) + 3 * (r.2 604 4 - S 604 4).toNat = 3 * dl S r.2 := by unfold dl; omega
    dsimp only
    rw [ec, es]
    rcases hret with ⟨hd, z, e1, e2, h1, h2⟩ | ⟨hd, h1, z, e1, e2⟩ | ⟨hd, h1, e1, e2⟩ | ⟨hd, h1, z, e1, e2⟩
    · rw [e2] at hfin
      rw [e1]
      rw [hrk] at h2
      have := (fit_ok h2).1
      exact W.zret (ty := .boolean) C.1 C.2.1 hr this hfin hfr hd
    · omega
    · omega
    · omega
  next => cases hf
end COST

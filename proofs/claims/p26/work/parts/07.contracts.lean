/-! contracts out of the meaning -/
def WU (G : GG) (S : MM) (U : State) : Prop := va_K G.1 vwCl (tysG G) U ∧ va_P G.1 vwCl (wl G S) U.heap ∧ EX G S U U.heap ∧ NW U ∧ G.2.1 ≤ U.heap.size
def QG (G : GG) (r : RR) : Array Value → State → Outcome → State → Prop := fun _ st oc t => oc = .returned (r.1.map (cv G)) ∧ WU G r.2 t ∧ va_F (fun q => G.2.1 ≤ q) st t
def Con (y : MethodName) (bytes : ByteArray) (maxL : Nat) (ret : Option FieldType) (rm : Room) (f : FN) : Prop :=
  ∀ (l : Launch) (G : GG) (as : List VV) (S : MM) (r : RR), f as S = some r → Met l y (.code y bytes maxL ret :: lw_g) rm (va_Pc (as.map (cv G)) (WU G S)) (QG G r) 0 0 (fun q => G.2.1 ≤ q)
def lay (as : List VV) : List (Option VV) := as.flatMap (fun v => if isJ v = true then [some v, none] else [some v])
noncomputable def fnX (X : XX) (nL : Nat) : FN := fun as S => if (lay as).length ≤ nL then rn X (0, lay as ++ List.replicate (nL - (lay as).length) none, [], S) else none
theorem NW_warm {s U : State} (hW : s.WarmedH U.vm) (h : NW s) : NW U := by
  have key : ∀ w ∈ nws, va_Nw w s → va_Nw w U := by
    intro w hw
    simp only [nws, List.mem_cons, List.mem_nil_iff, or_false] at hw
    rcases hw with rfl | rfl | rfl | rfl | rfl | rfl | rfl | rfl | rfl | rfl | rfl | rfl | rfl | rfl | rfl | rfl | rfl | rfl | rfl | rfl | rfl | rfl | rfl | rfl | rfl | rfl | rfl | rfl | rfl <;> first | exact va_Nw.warmM hW | exact va_Nw.warmF hW
  exact fun w hw => key w hw (h w hw)
theorem NW_same {s U : State} (hW : s.vm = U.vm) (h : NW s) : NW U := by
  intro w hw
  have ho : ∀ w ∈ nws, w.onTables = true := by decide +kernel
  exact va_Nw.same (ho w hw) hW (h w hw)
theorem EX_moved {G : GG} {S : MM} {u U : State} {H : Heap} (hvm : u.vm.Alike U.vm) (h : EX G S u H) : EX G S U H :=
  ⟨h.1.moved hvm, fun i hi => ⟨(h.2 i hi).1, (h.2 i hi).2.1, (h.2 i hi).2.2.moved hvm⟩⟩
theorem EX_kept {G : GG} {S : MM} {U : State} {H H1 : Heap} (h : EX G S U H) (hq : ∀ a : Nat, a < H.size → ¬ G.2.1 ≤ a → H1[a]? = H[a]?) : EX G S U H1 :=
  ⟨h.1.kept hq, fun i hi => ⟨(h.2 i hi).1, (h.2 i hi).2.1, (h.2 i hi).2.2.kept hq⟩⟩
section CON
variable {p : Program} {l : Launch} {e : Env} {R : Room} {s : State} {m : MethodId} {args : Array Value} {below : List Frame} {meth : Method} {c : Code} {cells slots : Nat} {Q : State → Prop} {G : GG} {nL : Nat} {own : String} {X : XX}
variable {pc : Nat} {L : List (Option VV)} {st : List VV} {S : MM}
theorem WW.toWU {H : Heap} {locs : List Loc} (h : WW G s S H locs) (hN : NW s) (hb : G.2.1 ≤ s.heap.size) {U : State} (hU : U.heap = H) (hW : s.WarmedH U.vm) : WU G S U := by
  refine ⟨va_K.moved hW.alike h.1, by rw [hU]; exact h.2.1, ?_, NW_warm hW hN, by rw [hU]; exact Nat.le_trans hb h.2.2.1.1⟩
  rw [hU]
  exact EX_kept (EX_moved hW.alike h.2.2.2) h.2.2.1.2.1
theorem va_callG {H : Heap} {locs : List Loc} {ls : Array Slot} {rest st0 : List Value} {a : Array Value} {r : RR} (hr : va_Run p l e R s m args below meth c H locs cells slots 0 0 (F0 m pc ls st0) rest (QG G r a) (fun q => G.2.1 ≤ q)) (hw : WW G s S H locs) (hb : G.2.1 ≤ s.heap.size)
    (kk : ∀ (H1 : Heap) (locs1 : List Loc), WW G s r.2 H1 locs1 → W p l e R s m args below meth c H1 locs1 cells slots Q (F0 m (pc + 3) ls ((r.1.map (cv G)).toList ++ rest))) : W p l e R s m args below meth c H locs cells slots Q (F0 m pc ls st0) := by
  intro T hT X
  obtain ⟨v, st₀, t, T', L, h0, X', hL, e1, e2, ⟨hv, ⟨hK, hP, hE, hN, hbt⟩, hz, hk⟩, st⟩ := hr T hT X
  cases hv
  rw [h0] at hz hk
  have hS := hw.2.2.1
  have hS' : va_S (fun q => G.2.1 ≤ q) s.heap T'.heap (locs ++ L) := ⟨Nat.le_trans hS.1 (by rw [e1]; exact hz), fun q h1 h2 => by rw [e1, hk q (Nat.lt_of_lt_of_le h1 hS.1) h2]; exact hS.2.1 q h1 h2, fun q hq => by
      rcases List.mem_append.mp hq with h | h
      · exact hS.2.2 q h
      · exact hL q h⟩
  have hal : s.vm.Alike t.vm := by rw [← e2]; exact X'.warmed.alike
  have hE' : EX G r.2 s s.heap := by
    refine EX_kept (EX_moved hal.symm hE) (fun a ha hn => ?_)
    have ha2 : a < s.heap.size := by omega
    rw [← hS'.2.1 a ha2 hn, e1]
  obtain ⟨t2, a1, b1⟩ := kk T'.heap (locs ++ L) ⟨va_K.moved hal.symm hK, by rw [e1]; exact hP, hS', hE'⟩ T' rfl X'
  exact ⟨t2, st t2 a1, b1⟩
theorem va_callM {mc ms : Nat} {H : Heap} {locs : List Loc} {ls : Array Slot} {rest st0 : List Value} {a : Array Value} {r : RR} (hr : va_Run p l e R s m args below meth c H locs cells slots mc ms (F0 m pc ls st0) rest (QG G r a) (fun q => G.2.1 ≤ q)) (hw : WW G s S H locs) (hb : G.2.1 ≤ s.heap.size)
    (kk : ∀ (H1 : Heap) (locs1 : List Loc), WW G s r.2 H1 locs1 → W p l e R s m args below meth c H1 locs1 (cells + mc) (slots + ms) Q (F0 m (pc + 3) ls ((r.1.map (cv G)).toList ++ rest))) : W p l e R s m args below meth c H locs cells slots Q (F0 m pc ls st0) := by
  intro T hT X
  obtain ⟨v, st₀, t, T', L, h0, X', hL, e1, e2, ⟨hv, ⟨hK, hP, hE, hN, hbt⟩, hz, hk⟩, st⟩ := hr T hT X
  cases hv
  rw [h0] at hz hk
  have hS := hw.2.2.1
  have hS' : va_S (fun q => G.2.1 ≤ q) s.heap T'.heap (locs ++ L) := ⟨Nat.le_trans hS.1 (by rw [e1]; exact hz), fun q h1 h2 => by rw [e1, hk q (Nat.lt_of_lt_of_le h1 hS.1) h2]; exact hS.2.1 q h1 h2, fun q hq => by
      rcases List.mem_append.mp hq with h | h
      · exact hS.2.2 q h
      · exact hL q h⟩
  have hal : s.vm.Alike t.vm := by rw [← e2]; exact X'.warmed.alike
  have hE' : EX G r.2 s s.heap := by
    refine EX_kept (EX_moved hal.symm hE) (fun a ha hn => ?_)
    have ha2 : a < s.heap.size := by omega
    rw [← hS'.2.1 a ha2 hn, e1]
  obtain ⟨t2, a1, b1⟩ := kk T'.heap (locs ++ L) ⟨va_K.moved hal.symm hK, by rw [e1]; exact hP, hS', hE'⟩ T' rfl X'
  exact ⟨t2, st t2 a1, b1⟩
theorem blindG {as : List VV} : FrameBlind (va_Pc (as.map (cv G)) (WU G S)) := by
  intro a U g mk q
  obtain ⟨q0, qK, qP, qE, qN, qb⟩ := q
  exact ⟨q0, va_K.moved (u := U) (U := U.calling g mk a) (Vm.Alike.refl U.vm) qK, qP, EX_moved (u := U) (U := U.calling g mk a) (Vm.Alike.refl U.vm) qE, NW_same (s := U) (U := U.calling g mk a) rfl qN, qb⟩
theorem rest_le {rest : List VV} (h : rW rest = true) : ((rest.map (cv G)).map fun v => v.category).sum ≤ 8 := by
  have key : ∀ r : List VV, ((r.map (cv G)).map fun v => v.category).sum ≤ 2 * r.length := by
    intro r
    induction r with
    | nil => exact Nat.le_refl _
    | cons v r ih =>
      have := cv_cat G v
      simp only [List.map_cons, List.sum_cons, List.length_cons]
      have h1 : (cv G v).category ≤ 2 := by
        rw [this]
        split <;> omega
      omega
  have key2 : ∀ r : List VV, r.all (fun v => !isJ v) = true → ((r.map (cv G)).map fun v => v.category).sum ≤ r.length := by
    intro r
    induction r with
    | nil => intro _; exact Nat.le_refl _
    | cons v r ih =>
      intro hr
      simp only [List.all_cons, Bool.and_eq_true] at hr
      have := cv_cat G v
      have h0 : isJ v = false := by simpa using hr.1
      rw [h0] at this
      have h2 := ih hr.2
      have h3 : (cv G v).category = 1 := this
      simp only [List.map_cons, List.sum_cons, List.length_cons]
      omega
  unfold rW at h
  simp only [Bool.or_eq_true, Bool.and_eq_true, Nat.ble_eq] at h
  rcases h with h | ⟨h1, h2⟩
  · have := key rest
    omega
  · have := key2 rest h2
    omega
theorem opt_list {r : Option VV} {rest : List VV} : (r.map (cv G)).toList ++ rest.map (cv G) = (r.toList ++ rest).map (cv G) := by
  cases r <;> rfl
theorem good_g {y : MethodName} {bytes : ByteArray} {maxL : Nat} {ret : Option FieldType} (hc : Cond.code y bytes maxL ret ∈ lw_g) : GoodIn lw_g (.code y bytes maxL ret :: lw_g) := by
  intro w hw
  have hm : w ∈ lw_g := by
    rcases List.mem_cons.mp hw with rfl | h
    · exact hc
    · exact h
  exact ⟨hm, good_of_word (List.mem_filter.mp hm).2⟩
theorem good_app {a ws : List Cond} (ha : ∀ w ∈ a, w ∈ lw_g) (h : GoodIn lw_g ws) : GoodIn lw_g (a ++ ws) := by
  intro w hw
  rcases List.mem_append.mp hw with q | q
  · exact ⟨ha w q, good_of_word (List.mem_filter.mp (ha w q)).2⟩
  · exact h w q
/-- a call's entry of a method's list: kind (0 virtual, 1 static), pool index, receiver's class, number of arguments with the receiver, meaning -/
abbrev CE : Type := Nat × Nat × Nat × Nat × FN
def mcF (l : List CE) : Nat → Nat → Option (Nat × Nat × FN) := fun k idx => (l.find? (fun q => q.1 == k && q.2.1 == idx)).map (fun q => q.2.2)
def Call1 (own : String) (X : XX) (nL : Nat) (R : Room) (cells slots : Nat) (q : CE) : Prop :=
  ∀ (p : Program) (l : Launch) (e : Env) (s : State) (m : MethodId) (args : Array Value) (below : List Frame) (meth : Method) (c : Code) (Q : State → Prop) (G : GG), CTX p s m args c own X nL → G.2.1 ≤ s.heap.size →
    CALL p l e R s m args below meth c cells slots Q G nL X (if q.1 = 0 then .invokevirtual q.2.1 else .invokestatic q.2.1) (q.1 == 0) q.2.2
theorem mcF_all {own : String} {X : XX} {nL : Nat} {R : Room} {cells slots : Nat} {ql : List CE} (hX : X.2.2.1 = mcF ql) (h : ∀ q ∈ ql, Call1 own X nL R cells slots q) (C : CTX p s m args c own X nL) (hb : G.2.1 ≤ s.heap.size) :
    (∀ idx q, X.2.2.1 0 idx = some q → CALL p l e R s m args below meth c cells slots Q G nL X (.invokevirtual idx) true q) ∧ (∀ idx q, X.2.2.1 1 idx = some q → CALL p l e R s m args below meth c cells slots Q G nL X (.invokestatic idx) false q) := by
  constructor
  · intro idx q hq
    rw [hX] at hq
    unfold mcF at hq
    cases hf : ql.find? (fun q => q.1 == 0 && q.2.1 == idx) with
    | none => rw [hf] at hq; cases hq
    | some z =>
      rw [hf] at hq
      cases hq
      have h1 := List.find?_some hf
      simp only [Bool.and_eq_true, beq_iff_eq] at h1
      have h2 := h z (List.mem_of_find?_eq_some hf) p l e s m args below meth c Q G C hb
      rw [h1.1, if_pos rfl, h1.2] at h2
      exact h2
  · intro idx q hq
    rw [hX] at hq
    unfold mcF at hq
    cases hf : ql.find? (fun q => q.1 == 1 && q.2.1 == idx) with
    | none => rw [hf] at hq; cases hq
    | some z =>
      rw [hf] at hq
      cases hq
      have h1 := List.find?_some hf
      simp only [Bool.and_eq_true, beq_iff_eq] at h1
      have h2 := h z (List.mem_of_find?_eq_some hf) p l e s m args below meth c Q G C hb
      rw [h1.1, if_neg (by decide), h1.2] at h2
      exact h2
theorem call_V {y : MethodName} {bytes : ByteArray} {maxL idx ci n : Nat} {ret : Option FieldType} {rm : Room} {f : FN} (hC : Con y bytes maxL ret rm f) (hc : Cond.code y bytes maxL ret ∈ lw_g) (hw : ∀ w ∈ [Cond.methodLink own idx y, .instanceMethod y, .selects y.cls y y, .initialized y.cls], w ∈ lw_g) (hci : ci < 10) (hcl : (vwCl.getD ci (RX0, TX0, 12)).1 = y.cls)
    (hd : y.cls ≠ "java/lang/invoke/MethodHandle" ∧ y.cls ≠ "java/lang/invoke/VarHandle" ∧ (parseMethodDescriptor y.desc).map (fun d => d.parameters.length) = some n) (hrm : rm.cells = 0 ∧ rm.slots = 0) (hR : rm.frames + 1 ≤ R.frames ∧ 8 + (maxL + 11) + rm.locals ≤ R.locals) (hcs : cells ≤ R.cells ∧ slots ≤ R.slots) :
    Call1 own X nL R cells slots (0, idx, ci, n + 1, f) := by
  intro p l e s m args below meth c Q G C hb pc L as rest S r S' hdec hlen hrest hrec hf k H locs ls hww hl
  have k := fun H1 locs1 h => k H1 locs1 ls h hl
  have hdec : decode X.1 pc = .ok (.invokevirtual idx, 3) := hdec
  rcases as with _ | ⟨a0, as⟩
  · cases hlen
  obtain ⟨i, rfl, hi⟩ : ∃ i, a0 = vR i ∧ kd i = ci := by
    rcases a0 with z | (_ | i) | u
    · cases hrec
    · cases hrec
    · exact ⟨i, rfl, by simpa [recvB] using hrec⟩
    · cases hrec
  obtain ⟨e1, -⟩ := vwCl_at hci
  have hat := wl_at G S (kd_lt (i := i) (by omega))
  rw [ent_obj G S hi hci] at hat
  have hst : ((vR i :: as).reverse ++ rest).map (cv G) = (as.map (cv G)).reverse ++ .ref (ad G i) :: rest.map (cv G) := by
    simp only [List.reverse_cons, List.map_append, List.map_reverse, List.append_assoc, List.map_cons, List.map_nil, List.cons_append, List.nil_append]
    rfl
  rw [hst]
  have hlen : as.length = n := by simpa using hlen
  have hM := hC l G (vR i :: as) S (r, S') hf
  have hcw := cwV (s := s) (args := args) (R := R) (mc := 0) (ms := 0) n C.2.2.2.2.1 (good_app (a := [.methodLink own idx y, .instanceMethod y, .selects y.cls y y, .initialized y.cls]) hw (good_g hc)) rfl hrm.1 hrm.2 ⟨rfl, hd.1, hd.2.1, hd.2.2⟩ hR
  have hrecv := va_recv hww.1 hww.2.1 e1 hat
  rw [hcl] at hrecv
  refine va_callG (r := (r, S')) (va_runV (As := as.map (cv G)) (rest := rest.map (cv G)) ⟨C.1, C.2.1, C.2.2.1, C.2.2.2.1, C.2.2.2.2.1⟩ hM hcw ⟨blindG, hrecv, fun U hU hW => ⟨rfl, hww.toWU C.2.2.2.2.2 hb hU hW⟩⟩ rfl (by rw [List.length_map]; exact hlen) hl.1.1 rfl (lv_room (rest_le hrest)) hdec ⟨by omega, by omega⟩) hww hb ?_
  intro H1 locs1 hw1
  rw [opt_list]
  exact k H1 locs1 hw1
theorem call_S {y : MethodName} {bytes : ByteArray} {maxL idx n : Nat} {ret : Option FieldType} {rm : Room} {f : FN} (hC : Con y bytes maxL ret rm f) (hc : Cond.code y bytes maxL ret ∈ lw_g) (hw : ∀ w ∈ [Cond.methodLink own idx y, .static y, .initialized y.cls], w ∈ lw_g)
    (hd : y.cls ≠ "java/lang/invoke/MethodHandle" ∧ y.cls ≠ "java/lang/invoke/VarHandle" ∧ (parseMethodDescriptor y.desc).map (fun d => d.parameters.length) = some n) (hrm : rm.cells = 0 ∧ rm.slots = 0) (hR : rm.frames + 1 ≤ R.frames ∧ 8 + (maxL + 11) + rm.locals ≤ R.locals) (hcs : cells ≤ R.cells ∧ slots ≤ R.slots) :
    Call1 own X nL R cells slots (1, idx, 0, n, f) := by
  intro p l e s m args below meth c Q G C hb pc L as rest S r S' hdec hlen hrest hrec hf k H locs ls hww hl
  have k := fun H1 locs1 h => k H1 locs1 ls h hl
  have hdec : decode X.1 pc = .ok (.invokestatic idx, 3) := hdec
  have hst : (as.reverse ++ rest).map (cv G) = (as.map (cv G)).reverse ++ rest.map (cv G) := by
    simp only [List.map_append, List.map_reverse]
  rw [hst]
  have hlen : as.length = n := hlen
  have hM := hC l G as S (r, S') hf
  have hcw := va_cwS (s := s) (args := args) (R := R) (mc := 0) (ms := 0) n C.2.2.2.2.1 (good_app (a := [.methodLink own idx y, .static y, .initialized y.cls]) hw (good_g hc)) rfl hrm.1 hrm.2 ⟨hd.1, hd.2.1, hd.2.2⟩ hR
  refine va_callG (r := (r, S')) (va_runS (As := as.map (cv G)) (rest := rest.map (cv G)) ⟨C.1, C.2.1, C.2.2.1, C.2.2.2.1, C.2.2.2.2.1⟩ hM hcw ⟨blindG, fun U hU hW => ⟨rfl, hww.toWU C.2.2.2.2.2 hb hU hW⟩⟩ rfl (by rw [List.length_map]; exact hlen) hl.1.1 rfl (lv_room (rest_le hrest)) hdec ⟨by omega, by omega⟩) hww hb ?_
  intro H1 locs1 hw1
  rw [opt_list]
  exact k H1 locs1 hw1
theorem call_N {y : MethodName} {bytes : ByteArray} {maxL idx n : Nat} {ret : Option FieldType} {rm : Room} {f : FN} (hC : Con y bytes maxL ret rm f) (hc : Cond.code y bytes maxL ret ∈ lw_g) (hw : ∀ w ∈ [Cond.static y, .initialized y.cls], w ∈ lw_g) (hn : Cond.methodLinkNest own idx y "LeapStones" ∈ nws)
    (hd : y.cls ≠ "java/lang/invoke/MethodHandle" ∧ y.cls ≠ "java/lang/invoke/VarHandle" ∧ (parseMethodDescriptor y.desc).map (fun d => d.parameters.length) = some n) (hrm : rm.cells = 0 ∧ rm.slots = 0) (hR : rm.frames + 1 ≤ R.frames ∧ 8 + (maxL + 11) + rm.locals ≤ R.locals) (hcs : cells ≤ R.cells ∧ slots ≤ R.slots) :
    Call1 own X nL R cells slots (1, idx, 0, n, f) := by
  intro p l e s m args below meth c Q G C hb pc L as rest S r S' hdec hlen hrest hrec hf k H locs ls hww hl
  have k := fun H1 locs1 h => k H1 locs1 ls h hl
  have hdec : decode X.1 pc = .ok (.invokestatic idx, 3) := hdec
  have hst : (as.reverse ++ rest).map (cv G) = (as.map (cv G)).reverse ++ rest.map (cv G) := by
    simp only [List.map_append, List.map_reverse]
  rw [hst]
  have hlen : as.length = n := hlen
  have hM := hC l G as S (r, S') hf
  have hcw := va_cnB (s := s) (args := args) (R := R) (mc := 0) (ms := 0) n C.2.2.2.2.1 (good_g hc) rfl hrm.1 hrm.2 (C.2.2.2.2.2 _ hn) (C.2.2.2.2.1 _ (hw (.initialized y.cls) (by simp))) ⟨hd.1, hd.2.1, hd.2.2⟩ hR
  refine va_callG (r := (r, S')) (va_runSN (As := as.map (cv G)) (rest := rest.map (cv G)) ⟨C.1, C.2.1, C.2.2.1, C.2.2.2.1, C.2.2.2.2.1⟩ hM ⟨hcw, C.2.2.2.2.1 _ (hw (.static y) (by simp)), trivial⟩ ⟨blindG, fun U hU hW => ⟨rfl, hww.toWU C.2.2.2.2.2 hb hU hW⟩⟩ rfl (by rw [List.length_map]; exact hlen) hl.1.1 rfl (lv_room (rest_le hrest)) hdec ⟨by omega, by omega⟩) hww hb ?_
  intro H1 locs1 hw1
  rw [opt_list]
  exact k H1 locs1 hw1
/-! the library's own -/
def f_max : FN := fun as S => match as with
  | [.inl a, .inl b] => if rng a ∧ rng b then some (some (.inl (if a < b then b else a)), S) else none
  | _ => none
def f_min : FN := fun as S => match as with
  | [.inl a, .inl b] => if rng a ∧ rng b then some (some (.inl (if b < a then b else a)), S) else none
  | _ => none
theorem call_max {idx : Nat} (hw : ∀ w ∈ [Cond.methodLink own idx Lib.Math.max.name, .static Lib.Math.max.name, .initialized "java/lang/Math", .code Lib.Math.max.name Lib.Math.max.code 2 (some .int)], w ∈ lw_g) (hR : 1 ≤ R.frames ∧ 21 ≤ R.locals) (hcs : cells ≤ R.cells ∧ slots ≤ R.slots) : Call1 own X nL R cells slots (1, idx, 0, 2, f_max) := by
  intro p l e s m args below meth c Q G C hb pc L as rest S r S' hdec hlen hrest hrec hf k H locs ls hww hl
  have hdec : decode X.1 pc = .ok (.invokestatic idx, 3) := hdec
  replace hf : f_max as S = some (r, S') := hf
  unfold f_max at hf
  split at hf
  next a b =>
    split at hf
    next ho =>
      cases hf
      have hr := rest_le (G := G) hrest
      have k := k H locs ls hww hl
      have ok : ∀ w ∈ [Cond.methodLink own idx Lib.Math.max.name, .static Lib.Math.max.name, .initialized "java/lang/Math", .code Lib.Math.max.name Lib.Math.max.code 2 (some .int)], w.before args s = true := fun w h => C.2.2.2.2.1 w (hw w h)
      show W p l e R s m args below meth c H locs cells slots Q (F0 m pc ls (.int (Int32.ofInt b) :: .int (Int32.ofInt a) :: rest.map (cv G)))
      refine va_mmax C.1 C.2.1 (by rw [C.2.2.1]; exact hl.1.1.symm) C.2.2.2.1 (ok _ (by simp)) (ok _ (by simp)) (ok _ (by simp)) (ok _ (by simp)) hR.1 (by omega) hcs.1 hcs.2 hdec ?_
      have e : (if Int32.ofInt a < Int32.ofInt b then Int32.ofInt b else Int32.ofInt a) = Int32.ofInt (if a < b then b else a) := by
        by_cases q : a < b
        · rw [if_pos q, if_pos ((i32lt ho.1 ho.2).mpr q)]
        · rw [if_neg q, if_neg (fun w => q ((i32lt ho.1 ho.2).mp w))]
      rw [e]
      exact k
    next => cases hf
  next => cases hf
theorem call_min {idx : Nat} (hw : ∀ w ∈ [Cond.methodLink own idx Lib.Math.min.name, .static Lib.Math.min.name, .initialized "java/lang/Math", .code Lib.Math.min.name Lib.Math.min.code 2 (some .int)], w ∈ lw_g) (hR : 1 ≤ R.frames ∧ 21 ≤ R.locals) (hcs : cells ≤ R.cells ∧ slots ≤ R.slots) : Call1 own X nL R cells slots (1, idx, 0, 2, f_min) := by
  intro p l e s m args below meth c Q G C hb pc L as rest S r S' hdec hlen hrest hrec hf k H locs ls hww hl
  have hdec : decode X.1 pc = .ok (.invokestatic idx, 3) := hdec
  replace hf : f_min as S = some (r, S') := hf
  unfold f_min at hf
  split at hf
  next a b =>
    split at hf
    next ho =>
      cases hf
      have hr := rest_le (G := G) hrest
      have k := k H locs ls hww hl
      have ok : ∀ w ∈ [Cond.methodLink own idx Lib.Math.min.name, .static Lib.Math.min.name, .initialized "java/lang/Math", .code Lib.Math.min.name Lib.Math.min.code 2 (some .int)], w.before args s = true := fun w h => C.2.2.2.2.1 w (hw w h)
      show W p l e R s m args below meth c H locs cells slots Q (F0 m pc ls (.int (Int32.ofInt b) :: .int (Int32.ofInt a) :: rest.map (cv G)))
      refine va_mmin C.1 C.2.1 (by rw [C.2.2.1]; exact hl.1.1.symm) C.2.2.2.1 (ok _ (by simp)) (ok _ (by simp)) (ok _ (by simp)) (ok _ (by simp)) hR.1 (by omega) hcs.1 hcs.2 hdec ?_
      have e : (if Int32.ofInt b < Int32.ofInt a then Int32.ofInt b else Int32.ofInt a) = Int32.ofInt (if b < a then b else a) := by
        by_cases q : b < a
        · rw [if_pos q, if_pos ((i32lt ho.2 ho.1).mpr q)]
        · rw [if_neg q, if_neg (fun w => q ((i32lt ho.2 ho.1).mp w))]
      rw [e]
      exact k
    next => cases hf
  next => cases hf
/-- a row copied: memory with n elements of row i, from a on, at b on in row j -/
def cpyM (S : MM) (i a j b n : Nat) : MM := fun x y => if x = j ∧ b ≤ y ∧ y < b + n then S i (a + (y - b)) else S x y
def f_acopy : FN := fun as S => match as with
  | [.inr (.inl (some i)), .inl a, .inr (.inl (some j)), .inl b, .inl n] => if (kd i = 10 ∧ kd j = 10) ∧ (0 ≤ a ∧ 0 ≤ b ∧ 0 ≤ n) ∧ a + n ≤ alen i ∧ b + n ≤ alen j then some (none, cpyM S i a.toNat j b.toNat n.toNat) else none
  | _ => none
theorem EX_rows {S S' : MM} {U : State} {H : Heap} (h : EX G S U H) (he : ∀ a, 602 ≤ a → S' a = S a) : EX G S' U H := by
  refine ⟨h.1, fun a ha => ?_⟩
  have h2 := h.2 a ha
  rw [he 604 (by omega)]
  refine ⟨h2.1, h2.2.1, ?_⟩
  rw [he (602 + a) (by omega)]
  exact h2.2.2
theorem call_acopy {idx : Nat} (hw : ∀ w ∈ [Cond.methodLink own idx arraycopyName, .native arraycopyName, .static arraycopyName, .initialized "java/lang/System"], w ∈ lw_g) (hR : 1 ≤ R.frames ∧ 8 + (nativeFrameWords "java/lang/System" "arraycopy" 5 + 11) ≤ R.locals) (hcs : cells ≤ R.cells ∧ slots ≤ R.slots) : Call1 own X nL R cells slots (1, idx, 0, 5, f_acopy) := by
  intro p l e s m args below meth c Q G C hb pc L as rest S r S' hdec hlen hrest hrec hf k H locs ls hww hl
  have hdec : decode X.1 pc = .ok (.invokestatic idx, 3) := hdec
  replace hf : f_acopy as S = some (r, S') := hf
  unfold f_acopy at hf
  split at hf
  next i a j b n =>
    split at hf
    next ho =>
      obtain ⟨⟨hi, hj⟩, ⟨ha0, hb0, hn0⟩, h4, h5⟩ := ho
      cases hf
      have hr := rest_le (G := G) hrest
      have ok : ∀ w ∈ [Cond.methodLink own idx arraycopyName, .native arraycopyName, .static arraycopyName, .initialized "java/lang/System"], w.before args s = true := fun w h => C.2.2.2.2.1 w (hw w h)
      have hal := alen_le i
      have hal2 := alen_le j
      have hi6 : i < 593 := kd_lt (by omega)
      have hj6 : j < 593 := kd_lt (by omega)
      have hat := wl_at G S hi6
      rw [ent_prim G S hi (by omega) (by omega)] at hat
      have hat2 := wl_at G S hj6
      rw [ent_prim G S hj (by omega) (by omega)] at hat2
      have ea := i32cl ha0 (by omega)
      have eb := i32cl hb0 (by omega)
      have en := i32cl hn0 (by omega)
      have neg : ∀ z : Int, 0 ≤ z → z ≤ 28950 → ¬ Int32.ofInt z < 0 := by
        intro z h0 h1 q
        rw [show (0 : Int32) = Int32.ofInt 0 from rfl, i32lt ⟨by omega, by omega⟩ ⟨by omega, by omega⟩] at q
        omega
      show W p l e R s m args below meth c H locs cells slots Q (F0 m pc ls (.int (Int32.ofInt n) :: .int (Int32.ofInt b) :: .ref (ad G j) :: .int (Int32.ofInt a) :: .ref (ad G i) :: rest.map (cv G)))
      refine va_copyi C.1 C.2.1 (by rw [C.2.2.1]; exact hl.1.1.symm) C.2.2.2.1 (ok _ (by simp)) (ok _ (by simp)) (ok _ (by simp)) (ok _ (by simp)) hww.1 hww.2.1 (wl_D G S) hww.2.2.1 i j 0 0 hat hat2 rfl rfl rfl (neg a ha0 (by omega)) (neg b hb0 (by omega)) (neg n hn0 (by omega)) (by rw [ea, en]; omega) (by rw [eb, en]; omega) (fun _ _ => rfl) hR.1 (by omega) hdec (fun H1 locs1 hP _ hS => ?_)
      rw [ea, eb, en] at hP
      have hne : ∀ x, x ≠ j → cpyM S i a.toNat j b.toNat n.toNat x = S x := by
        intro x hx
        funext y
        unfold cpyM
        rw [if_neg (fun w => hx w.1)]
      have hent : ent G (cpyM S i a.toNat j b.toNat n.toNat) j = .inl (G.2.2.1 10, (alen j, .inl (va_cpy (fun y => Int32.ofInt (S i y)) (fun y => Int32.ofInt (S j y)) a.toNat b.toNat n.toNat))) := by
        rw [ent_prim G _ hj (by omega) (by omega)]
        refine congrArg (fun t => (Sum.inl (G.2.2.1 10, (alen j, .inl t)) : va_E)) ?_
        funext y
        unfold cpyM va_cpy
        by_cases q : b.toNat ≤ y ∧ y < b.toNat + n.toNat
        · rw [if_pos ⟨rfl, q⟩, if_pos q]
        · rw [if_neg (fun w => q w.2), if_neg q]
      exact k H1 locs1 ls ⟨hww.1, by rw [← wl_setA G S _ hj6 hne hent]; exact hP, hS, EX_rows hww.2.2.2 (fun x hx => hne x (by omega))⟩ hl
    next => cases hf
  next => cases hf
theorem lay_args (as : List VV) : ∀ (k : Nat) (i : Nat) (v : VV), (lay as)[i]? = some (some v) → (k + i, cv G v) ∈ lv_args k (as.map (cv G)) := by
  induction as with
  | nil => intro k i v h; simp [lay] at h
  | cons a as ih =>
    intro k i v h
    have e : lay (a :: as) = (if isJ a = true then [some a, none] else [some a]) ++ lay as := by simp [lay]
    rw [e] at h
    simp only [List.map_cons, lv_args]
    by_cases hj : isJ a = true
    · rw [if_pos hj] at h
      have hc : (cv G a).category = 2 := by rw [cv_cat, if_pos hj]
      rw [if_pos hc]
      rcases i with _ | _ | i
      · cases h
        exact List.mem_cons_self
      · cases h
      · have := ih (k + 2) i v h
        rw [show k + 2 + i = k + (i + 1 + 1) by omega] at this
        exact List.mem_cons_of_mem _ this
    · rw [if_neg hj] at h
      have hc : ¬ (cv G a).category = 2 := by rw [cv_cat, if_neg hj]; decide
      rw [if_neg hc]
      rcases i with _ | i
      · cases h
        exact List.mem_cons_self
      · have := ih (k + 1) i v h
        rw [show k + 1 + i = k + (i + 1) by omega] at this
        exact List.mem_cons_of_mem _ this
theorem lay_len (as : List VV) : (lg_sl (as.map (cv G))).length = (lay as).length := by
  induction as with
  | nil => rfl
  | cons a as ih =>
    have e : lay (a :: as) = (if isJ a = true then [some a, none] else [some a]) ++ lay as := by simp [lay]
    have e2 : lg_sl ((a :: as).map (cv G)) = (if (cv G a).category = 2 then [Slot.val (cv G a), .second] else [.val (cv G a)]) ++ lg_sl (as.map (cv G)) := by simp [lg_sl]
    rw [e, e2, List.length_append, List.length_append, ih]
    by_cases hj : isJ a = true
    · have hc : (cv G a).category = 2 := by rw [cv_cat, if_pos hj]
      rw [if_pos hj, if_pos hc]
      rfl
    · have hc : ¬ (cv G a).category = 2 := by rw [cv_cat, if_neg hj]; decide
      rw [if_neg hj, if_neg hc]
      rfl
theorem LV_entry {as : List VV} {n : Nat} (h : (lay as).length ≤ n) : LV G ((lg_sl (as.map (cv G)) ++ List.replicate (n - (lg_sl (as.map (cv G))).length) Slot.unset).toArray) n (lay as ++ List.replicate (n - (lay as).length) none) := by
  have h1 := lv_entry (as.map (cv G)) (n := n) (by rw [lay_len]; exact h)
  refine ⟨⟨h1.1, h1.2.1, fun q hq => ?_⟩, by simp; omega⟩
  obtain ⟨v, e1, e2⟩ := mem_asL.mp hq
  by_cases q1 : q.1 < (lay as).length
  · rw [List.getElem?_append_left q1] at e1
    have := h1.2.2 (q.1, cv G v) (by simpa using lay_args (G := G) as 0 q.1 v e1)
    rw [e2]
    exact this
  · rw [List.getElem?_append_right (by omega)] at e1
    have h5 := List.eq_of_mem_replicate (List.mem_of_getElem? e1)
    cases h5
/-- the kinds of return -/
def rkOK (ret : Option FieldType) (rk : Nat) : Prop := (rk = 0 ∧ ret = none) ∨ (rk = 1 ∧ ret = some .int) ∨ (rk = 2 ∧ ret = some .boolean) ∨ (rk = 3 ∧ ret = some .char) ∨ (rk = 4 ∧ ∃ C, ret = some (.object C)) ∨ (rk = 5 ∧ ret = some .long)
theorem con_of {y : MethodName} {maxL : Nat} {ret : Option FieldType} {rm : Room} {ql : List CE} (hy : plainName y.cls = true) (hown : y.cls = own) (hF : FOK own X.2.1) (hX : X.2.2.1 = mcF ql) (hq : ∀ q ∈ ql, Call1 own X maxL rm 0 0 q) (hrk : rkOK ret X.2.2.2) : Con y X.1 maxL ret rm (fnX X maxL) := by
  intro l G as S r hf
  unfold fnX at hf
  split at hf
  next hlen =>
    obtain ⟨n, hn⟩ := (rn_iff _ _ _).mp hf
    refine Met.ofW (cc := X.1) (maxL := maxL) (ret := ret) hy rfl ?_
    intro p e s m args below meth c s₁ B hml hv
    obtain ⟨rfl, hK, hP, hE, hN, hb⟩ := hv
    have hts := atoms_spec (ws := Cond.code y X.1 maxL ret :: lw_g) B.pre
    have ho : s.vm.findClass own = some m.cls := by rw [← hown]; exact findClass_of_methodNamed B.named
    have C : CTX p s m (as.map (cv G)).toArray c own X maxL := ⟨B.exec, B.bytes, hml, ho, fun w hw => hts w (List.mem_cons_of_mem _ hw), hN⟩
    have hlocks := B.notSynchronized
    have hr := B.returns
    obtain ⟨hV, hSt⟩ := mcF_all (p := p) (l := l) (e := e) (below := below) (meth := meth) (Q := MQ below (QG G r) (as.map (cv G)).toArray s 0 0 (fun q => G.2.1 ≤ q)) (G := G) hX hq C hb
    rw [lg_entry_eq]
    refine ev_sound C hF hV hSt (r := r) ?_ n (0, lay as ++ List.replicate (maxL - (lay as).length) none, [], S) hn s.heap [] _ ⟨hK, hP, va_S.rf, hE⟩ (LV_entry hlen)
    intro pc L st hret H locs ls hw hl
    have hfin : ∀ t : State, t.heap = H → s.WarmedH t.vm → QG G r (as.map (cv G)).toArray s (.returned (r.1.map (cv G))) t := fun t ht hW => ⟨rfl, hw.toWU hN hb ht hW, hw.2.2.1.F ht⟩
    have hfr : ∀ q ∈ locs, (fun q => G.2.1 ≤ q) q.base := hw.2.2.1.2.2
    rcases hret with ⟨hd, z, e1, e2, h1, h2⟩ | ⟨hd, h1, z, e1, e2⟩ | ⟨hd, h1, e1, e2⟩ | ⟨hd, h1, z, e1, e2⟩
    · rw [e2] at hfin
      rw [e1]
      rcases hrk with ⟨q1, q2⟩ | ⟨q1, q2⟩ | ⟨q1, q2⟩ | ⟨q1, q2⟩ | ⟨q1, q2⟩ | ⟨q1, q2⟩
      · omega
      · exact W.iret C.1 C.2.1 (by rw [hr, q2]) hfin hfr hd
      · rw [q1] at h2
        have := (fit_ok h2).1
        exact W.zret (ty := .boolean) C.1 C.2.1 (by rw [hr, q2]) this hfin hfr hd
      · rw [q1] at h2
        have := (fit_ok h2).1
        exact W.zret (ty := .char) C.1 C.2.1 (by rw [hr, q2]) this hfin hfr hd
      · omega
      · omega
    · rw [e2] at hfin
      rw [e1]
      rcases hrk with ⟨q1, q2⟩ | ⟨q1, q2⟩ | ⟨q1, q2⟩ | ⟨q1, q2⟩ | ⟨q1, C0, q2⟩ | ⟨q1, q2⟩
      · omega
      · omega
      · omega
      · omega
      · refine W.aret C.1 C.2.1 (by rw [hr, q2]) (Or.inl ⟨C0, rfl⟩) ?_ hfin hfr hd
        cases z with
        | none => exact Or.inl rfl
        | some i => exact Or.inr ⟨_, rfl⟩
      · omega
    · rw [e2] at hfin
      rw [e1]
      rcases hrk with ⟨q1, q2⟩ | ⟨q1, q2⟩ | ⟨q1, q2⟩ | ⟨q1, q2⟩ | ⟨q1, C0, q2⟩ | ⟨q1, q2⟩
      · exact W.vret C.1 C.2.1 (by rw [hr, q2]) hfin hfr hd
      · omega
      · omega
      · omega
      · omega
      · omega
    · rw [e2] at hfin
      rw [e1]
      rcases hrk with ⟨q1, q2⟩ | ⟨q1, q2⟩ | ⟨q1, q2⟩ | ⟨q1, q2⟩ | ⟨q1, C0, q2⟩ | ⟨q1, q2⟩
      · omega
      · omega
      · omega
      · omega
      · omega
      · exact W.lret C.1 C.2.1 (by rw [hr, q2]) hfin hfr hd
  next => cases hf
end CON

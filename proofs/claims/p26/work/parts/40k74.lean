/-! the constructors: the other rows, calls, the meaning -/
def WC (G : GG) (SX : MM) (E : List CD) (U : State) : Prop := va_K G.1 vwCl (tysG G) U ∧ va_P G.1 vwCl (wsE G E) U.heap ∧ EX G SX U U.heap ∧ NW U ∧ AOs U ∧ U.heap.size = G.2.1 + E.length ∧ G.2.1 ≤ U.heap.size
def QGC (G : GG) (SX : MM) (E : List CD) : Array Value → State → Outcome → State → Prop := fun _ st oc t => oc = .returned none ∧ WC G SX E t ∧ va_F (fun q => G.2.1 ≤ q) st t
def ConC (y : MethodName) (bytes : ByteArray) (maxL : Nat) (rm : Room) (f : FC) : Prop :=
  ∀ (l : Launch) (G : GG) (SX : MM) (as : List VV) (E E' : List CD), f as E = some E' → Met l y (.code y bytes maxL none :: lw_g) rm (va_Pc (as.map (cv G)) (WC G SX E)) (QGC G SX E') rm.cells rm.slots (fun q => G.2.1 ≤ q)
section CONS3
variable {p : Program} {l : Launch} {e : Env} {R : Room} {s : State} {m : MethodId} {args : Array Value} {below : List Frame} {meth : Method} {c : Code} {cells slots : Nat} {Q : State → Prop} {G : GG} {SX : MM} {nL : Nat} {own : String} {X : XC}
variable {pc : Nat} {L : List (Option VV)} {st : List VV} {E : List CD}
theorem AOs.moved {u U : State} (hvm : u.vm.Alike U.vm) (h : AOs u) : AOs U := ⟨va_AO.moved hvm h.1, va_AO.moved hvm h.2⟩
theorem GW.toWC {H : Heap} {locs : List Loc} (h : GW G SX s E H locs) (hN : NW s) (hA : AOs s) (hb : G.2.1 ≤ s.heap.size) {U : State} (hU : U.heap = H) (hW : s.WarmedH U.vm) : WC G SX E U := by
  refine ⟨va_K.moved hW.alike h.1, by rw [hU]; exact h.2.1, ?_, NW_warm hW hN, hA.moved hW.alike, by rw [hU]; exact h.2.2.2.2, by rw [hU]; exact Nat.le_trans hb h.2.2.1.1⟩
  rw [hU]
  exact EX_kept (EX_moved hW.alike h.2.2.2.1) h.2.2.1.2.1
theorem blindC {as : List Value} : FrameBlind (va_Pc as (WC G SX E)) := by
  intro a U g mk q
  obtain ⟨q0, qK, qP, qE, qN, qA, qz, qb⟩ := q
  exact ⟨q0, va_K.moved (u := U) (U := U.calling g mk a) (Vm.Alike.refl U.vm) qK, qP, EX_moved (u := U) (U := U.calling g mk a) (Vm.Alike.refl U.vm) qE, NW_same (s := U) (U := U.calling g mk a) rfl qN, AOs.moved (u := U) (U := U.calling g mk a) (Vm.Alike.refl U.vm) qA, qz, qb⟩
theorem va_callC {H : Heap} {locs : List Loc} {ls : Array Slot} {rest st0 : List Value} {a : Array Value} {E' : List CD} {mc ms : Nat} (hr : va_Run p l e R s m args below meth c H locs cells slots mc ms (F0 m pc ls st0) rest (QGC G SX E' a) (fun q => G.2.1 ≤ q)) (hw : GW G SX s E H locs) (hb : G.2.1 ≤ s.heap.size)
    (kk : ∀ (H1 : Heap) (locs1 : List Loc), GW G SX s E' H1 locs1 → W p l e R s m args below meth c H1 locs1 (cells + mc) (slots + ms) Q (F0 m (pc + 3) ls rest)) : W p l e R s m args below meth c H locs cells slots Q (F0 m pc ls st0) := by
  intro T hT X
  obtain ⟨v, st₀, t, T', L, h0, X', hL, e1, e2, ⟨hv, ⟨hK, hP, hE, hN, hA, hz2, hbt⟩, hz, hk⟩, st⟩ := hr T hT X
  cases hv
  rw [h0] at hz hk
  have hS := hw.2.2.1
  have hS' : va_S (fun q => G.2.1 ≤ q) s.heap T'.heap (locs ++ L) := ⟨Nat.le_trans hS.1 (by rw [e1]; exact hz), fun q h1 h2 => by rw [e1, hk q (Nat.lt_of_lt_of_le h1 hS.1) h2]; exact hS.2.1 q h1 h2, fun q hq => by
      rcases List.mem_append.mp hq with h | h
      · exact hS.2.2 q h
      · exact hL q h⟩
  have hal : s.vm.Alike t.vm := by rw [← e2]; exact X'.warmed.alike
  have hE' : EX G SX s s.heap := by
    refine EX_kept (EX_moved hal.symm hE) (fun a ha hn => ?_)
    have ha2 : a < s.heap.size := by omega
    rw [← hS'.2.1 a ha2 hn, e1]
  obtain ⟨t2, a1, b1⟩ := kk T'.heap (locs ++ L) ⟨va_K.moved hal.symm hK, by rw [e1]; exact hP, hS', hE', by rw [e1]; exact hz2⟩ T' rfl X'
  exact ⟨t2, st t2 a1, b1⟩
/-- a call of a constructor: place, arguments, cells, slots, meaning -/
def Call1C (own : String) (X : XC) (nL : Nat) (R : Room) (idx n mc ms : Nat) (f : FC) : Prop :=
  ∀ (p : Program) (l : Launch) (e : Env) (s : State) (m : MethodId) (args : Array Value) (below : List Frame) (meth : Method) (c : Code) (Q : State → Prop) (G : GG) (SX : MM), CTXC p s m args meth c own X nL G →
    ∀ (pc : Nat) (L : List (Option VV)) (as : List VV) (b : Nat) (rest : List VV) (E E' : List CD) (cells slots : Nat), decode X.1 pc = .ok (.invokespecial idx, 3) → as.length = n → rW rest = true → b < 593 → f (vR b :: as) E = some E' → cells + mc ≤ R.cells → slots + ms ≤ R.slots → KC p l e R s m args below meth c Q G SX nL (pc + 3, L, rest, E', cells + mc, slots + ms) → KC p l e R s m args below meth c Q G SX nL (pc, L, as.reverse ++ vR b :: rest, E, cells, slots)
theorem callC_I {y : MethodName} {bytes : ByteArray} {maxL idx n mc ms : Nat} {rm : Room} {f : FC} (hC : ConC y bytes maxL rm f) (hc : Cond.code y bytes maxL none ∈ lw_g) (hw : ∀ w ∈ [Cond.methodLink own idx y, .instanceMethod y, .initialized y.cls], w ∈ lw_g) (hy1 : y.name = "<init>")
    (hd : y.cls ≠ "java/lang/invoke/MethodHandle" ∧ y.cls ≠ "java/lang/invoke/VarHandle" ∧ (parseMethodDescriptor y.desc).map (fun d => d.parameters.length) = some n) (hrm : rm.cells = mc ∧ rm.slots = ms) (hR : rm.frames + 1 ≤ R.frames ∧ 8 + (maxL + 11) + rm.locals ≤ R.locals) : Call1C own X nL R idx n mc ms f := by
  intro p l e s m args below meth c Q G SX C pc L as b rest E E' cells slots hdec hlen hrest hb6 hf h1 h2 k H locs ls hww hl
  have k := fun H1 locs1 h => k H1 locs1 ls h hl
  have hww : GW G SX s E H locs := hww
  obtain ⟨C1, C2, C3, C4, C5, C6, C7, C8, C9⟩ := C
  have hst : (as.reverse ++ vR b :: rest).map (cv G) = (as.map (cv G)).reverse ++ .ref (G.2.1 + b) :: rest.map (cv G) := by
    rw [List.map_append, List.map_reverse, List.map_cons, cvR hb6]
  show W p l e R s m args below meth c H locs cells slots Q (F0 m pc ls ((as.reverse ++ vR b :: rest).map (cv G)))
  rw [hst]
  have hM := hC l G SX (vR b :: as) E E' hf
  have hargs : (vR b :: as).map (cv G) = .ref (G.2.1 + b) :: as.map (cv G) := by rw [List.map_cons, cvR hb6]
  rw [hargs, hrm.1, hrm.2] at hM
  have hcw := cwI (s := s) (args := args) (R := R) (own := own) (index := idx) n C5 (good_g hc) rfl hrm.1 hrm.2 (C5 _ (hw (.initialized y.cls) (by simp))) (C5 _ (hw (.methodLink own idx y) (by simp))) (C5 _ (hw (.instanceMethod y) (by simp))) hy1 hd hR
  exact va_callC (E' := E') (va_runI (As := as.map (cv G)) (rest := rest.map (cv G)) ⟨C1, C2, C3, C4, C5⟩ hM hcw ⟨blindC, fun U hU hW => ⟨rfl, hww.toWC C6 C7 C9 hU hW⟩⟩ rfl (by rw [List.length_map]; exact hlen) hl.1.1 rfl (lv_room (rest_le hrest)) hdec ⟨h1, h2⟩) hww C9 k
theorem callC_N {y : MethodName} {bytes : ByteArray} {maxL idx n mc ms : Nat} {rm : Room} {f : FC} (hC : ConC y bytes maxL rm f) (hc : Cond.code y bytes maxL none ∈ lw_g) (hw : ∀ w ∈ [Cond.instanceMethod y, .initialized y.cls], w ∈ lw_g) (hn : Cond.methodLinkNest own idx y "LeapStones" ∈ nws) (hy1 : y.name = "<init>")
    (hd : y.cls ≠ "java/lang/invoke/MethodHandle" ∧ y.cls ≠ "java/lang/invoke/VarHandle" ∧ (parseMethodDescriptor y.desc).map (fun d => d.parameters.length) = some n) (hrm : rm.cells = mc ∧ rm.slots = ms) (hR : rm.frames + 1 ≤ R.frames ∧ 8 + (maxL + 11) + rm.locals ≤ R.locals) : Call1C own X nL R idx n mc ms f := by
  intro p l e s m args below meth c Q G SX C pc L as b rest E E' cells slots hdec hlen hrest hb6 hf h1 h2 k H locs ls hww hl
  have k := fun H1 locs1 h => k H1 locs1 ls h hl
  have hww : GW G SX s E H locs := hww
  obtain ⟨C1, C2, C3, C4, C5, C6, C7, C8, C9⟩ := C
  have hst : (as.reverse ++ vR b :: rest).map (cv G) = (as.map (cv G)).reverse ++ .ref (G.2.1 + b) :: rest.map (cv G) := by
    rw [List.map_append, List.map_reverse, List.map_cons, cvR hb6]
  show W p l e R s m args below meth c H locs cells slots Q (F0 m pc ls ((as.reverse ++ vR b :: rest).map (cv G)))
  rw [hst]
  have hM := hC l G SX (vR b :: as) E E' hf
  have hargs : (vR b :: as).map (cv G) = .ref (G.2.1 + b) :: as.map (cv G) := by rw [List.map_cons, cvR hb6]
  rw [hargs, hrm.1, hrm.2] at hM
  have hcw := va_cnB (s := s) (args := args) (R := R) (own := own) (index := idx) n C5 (good_g hc) rfl hrm.1 hrm.2 (C6 _ hn) (C5 _ (hw (.initialized y.cls) (by simp))) hd hR
  exact va_callC (E' := E') (va_runIN (As := as.map (cv G)) (rest := rest.map (cv G)) ⟨C1, C2, C3, C4, C5⟩ hM ⟨hcw, hy1, C5 _ (hw (.instanceMethod y) (by simp))⟩ ⟨blindC, fun U hU hW => ⟨rfl, hww.toWC C6 C7 C9 hU hW⟩⟩ rfl (by rw [List.length_map]; exact hlen) hl.1.1 rfl (lv_room (rest_le hrest)) hdec ⟨h1, h2⟩) hww C9 k
theorem c_obj {idx a b i : Nat} (C : CTXC p s m args meth c own X nL G) (hLK : LOK own X.2.1) (hd : decode X.1 pc = .ok (.invokespecial idx, 3)) (hk : X.2.1 idx = some (3, a, b)) (hrest : rW st = true) (hi : i < 593) (hR : 1 ≤ R.frames ∧ 20 ≤ R.locals) (kk : KC p l e R s m args below meth c Q G SX nL (pc + 3, L, st, E, cells, slots)) : KC p l e R s m args below meth c Q G SX nL (pc, L, vR i :: st, E, cells, slots) := by
  intro H locs ls hw hl
  obtain ⟨C1, C2, C3, C4, C5, C6, C7, C8, C9⟩ := C
  have hws := (hLK idx a b).2.2.2 hk
  have hst2 : (vR i :: st).map (cv G) = .ref (G.2.1 + i) :: st.map (cv G) := by rw [List.map_cons, cvR hi]
  show W p l e R s m args below meth c H locs cells slots Q (F0 m pc ls ((vR i :: st).map (cv G)))
  rw [hst2]
  have hr := rest_le (G := G) hrest
  exact W.objInit C1 C2 C4 (C5 _ (hws (.methodLink own idx Lib.objectInit) (by simp))) (C5 _ (hws (.instanceMethod Lib.objectInit) (by simp))) (C5 _ (hws (.code Lib.objectInit ⟨#[0xb1]⟩ 1 none) (by simp))) rfl (by rw [C3]; exact hl.1.1) rfl hd hR.1 (by show 2 * 0 + _ + 12 ≤ _; omega) (kk H locs ls hw hl)
end CONS3

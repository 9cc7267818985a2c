/-! THE CONSTRUCTORS: a world that grows, cell by cell -/
abbrev CD : Type := Nat × Nat × List (Nat × VV)
def cdd (k j : Nat) : VV := if k < 10 then (if fk k j = 8 then vN else vI 0) else if k < 13 then vI 0 else vN
def cdv (k : Nat) (l : List (Nat × VV)) (j : Nat) : VV := match l.find? (fun q => q.1 == j) with
  | some q => q.2
  | none => cdd k j
def vi32 : VV → Int32
  | .inl z => Int32.ofInt z
  | _ => 0
def vrf (G : GG) : VV → Option Nat
  | .inr (.inl (some i)) => some (ad G i)
  | _ => none
def en (G : GG) (c : CD) : va_E := if c.1 < 10 then .inr (c.1, (List.range (nfl c.1)).map (fun j => cv G (cdv c.1 c.2.2 j))) else if c.1 < 13 then .inl (G.2.2.1 c.1, (c.2.1, .inl (fun j => vi32 (cdv c.1 c.2.2 j)))) else .inl (G.2.2.1 c.1, (c.2.1, .inr (.inr (.inr (.inr (fun j => vrf G (cdv c.1 c.2.2 j)))))))
def wsE (G : GG) (E : List CD) : va_W := E.mapIdx (fun i c => (G.2.1 + i, en G c))
theorem cdv_cons {k j a : Nat} {v : VV} {l : List (Nat × VV)} : cdv k ((a, v) :: l) j = if a = j then v else cdv k l j := by
  unfold cdv
  rw [List.find?_cons]
  by_cases h : a = j
  · have : ((a, v).1 == j) = true := by simpa using h
    rw [this, if_pos h]
  · have : ((a, v).1 == j) = false := by simpa using h
    rw [this, if_neg h]
theorem wsE_at {G : GG} {E : List CD} {i : Nat} : (wsE G E)[i]? = E[i]?.map (fun c => (G.2.1 + i, en G c)) := by
  unfold wsE
  rw [List.getElem?_mapIdx]
theorem wsE_set {G : GG} {E : List CD} {i : Nat} {c : CD} : (wsE G E).set i (G.2.1 + i, en G c) = wsE G (E.set i c) := by
  apply List.ext_getElem?
  intro j
  rw [List.getElem?_set, wsE_at, wsE_at, List.getElem?_set]
  have hl : (wsE G E).length = E.length := by unfold wsE; simp
  rw [hl]
  by_cases h : i = j
  · rw [if_pos h, if_pos h]
    by_cases h2 : i < E.length
    · rw [if_pos h2, if_pos h2, h]
      rfl
    · rw [if_neg h2, if_neg h2]
      rfl
  · rw [if_neg h, if_neg h]
theorem wsE_push {G : GG} {E : List CD} {c : CD} : wsE G (E ++ [c]) = wsE G E ++ [(G.2.1 + E.length, en G c)] := by
  unfold wsE
  rw [List.mapIdx_append]
  simp
theorem wsE_D {G : GG} {E : List CD} : va_D (fun q => G.2.1 ≤ q) (wsE G E) := by
  have key : ∀ (k : Nat) (q : Nat × va_E), (wsE G E)[k]? = some q → q.1 = G.2.1 + k := by
    intro k q h
    rw [wsE_at] at h
    cases hc : E[k]? with
    | none => rw [hc] at h; cases h
    | some c => rw [hc] at h; cases h; rfl
  refine ⟨fun i j a b hi hj hab => ?_, fun k q h => ?_⟩
  · have h1 := key i a hi
    have h2 := key j b hj
    omega
  · have h1 := key k q h
    show G.2.1 ≤ q.1
    omega
def AOs (s : State) : Prop := va_AO RX5 s ∧ va_AO RX6 s
def GW (G : GG) (SX : MM) (s : State) (E : List CD) (H : Heap) (locs : List Loc) : Prop := va_K G.1 vwCl (tysG G) s ∧ va_P G.1 vwCl (wsE G E) H ∧ va_S (fun q => G.2.1 ≤ q) s.heap H locs ∧ EX G SX s s.heap ∧ H.size = G.2.1 + E.length
abbrev FC : Type := List VV → List CD → Option (List CD)
/-- a method: bytes; links (0: field, 1: new, 2: an array of references, 3: Object's constructor); calls (arguments, cells, slots, meaning); whether it is a constructor -/
abbrev XC : Type := ByteArray × (Nat → Option (Nat × Nat × Nat)) × (Nat → Option (Nat × Nat × Nat × FC)) × Bool
abbrev CFC : Type := Nat × List (Option VV) × List VV × List CD × Nat × Nat
def CTXC (p : Program) (s : State) (m : MethodId) (args : Array Value) (meth : Method) (c : Code) (own : String) (X : XC) (nL : Nat) (G : GG) : Prop := p.tables.exec = Jvm.exec ∧ c.code = X.1 ∧ c.maxLocals = nL ∧ s.vm.findClass own = some m.cls ∧ (∀ w ∈ lw_g, w.before args s = true) ∧ NW s ∧ AOs s ∧ (X.2.2.2 = true → meth.name = "<init>") ∧ G.2.1 ≤ s.heap.size
def KC (p : Program) (l : Launch) (e : Env) (R : Room) (s : State) (m : MethodId) (args : Array Value) (below : List Frame) (meth : Method) (c : Code) (Q : State → Prop) (G : GG) (SX : MM) (nL : Nat) (cf : CFC) : Prop :=
  ∀ (H : Heap) (locs : List Loc) (ls : Array Slot), GW G SX s cf.2.2.2.1 H locs → LV G ls nL cf.2.1 → W p l e R s m args below meth c H locs cf.2.2.2.2.1 cf.2.2.2.2.2 Q (F0 m cf.1 ls (cf.2.2.1.map (cv G)))
def cname (ci : Nat) : String := (vwCl.getD ci (RX0, TX0, 12)).1
def LOK (own : String) (lk : Nat → Option (Nat × Nat × Nat)) : Prop := ∀ idx a b : Nat,
  (lk idx = some (0, a, b) → a < 10 → (fword own idx a b ∈ lw_g) ∧ ((vwCl.getD a (RX0, TX0, 12)).2.1 b).1 = own) ∧
  (lk idx = some (1, a, b) → a < 10 → ∀ w ∈ [Cond.classLink own idx (cname a), .instantiable (cname a) (nfl a), .initialized (cname a)], w ∈ lw_g) ∧
  (lk (idx + 1000) = some (2, a, b) → a = 13 ∨ a = 14 → Cond.classLink own idx (if a = 13 then RX5 else RX6) ∈ lw_g) ∧
  (lk idx = some (3, a, b) → ∀ w ∈ [Cond.methodLink own idx Lib.objectInit, .instanceMethod Lib.objectInit, .code Lib.objectInit ⟨#[0xb1]⟩ 1 none], w ∈ lw_g)
set_option maxRecDepth 100000 in
theorem arrW : ∀ w ∈ [Cond.arrayClass .int, .arrayClass .boolean, .arrayClass .char], w ∈ lw_g := lw_gl _ [56, 215, 216] (by decide +kernel) (by decide +kernel)
theorem dflt (ci j : Nat) (hc : ci < 10) (hj : j < nfl ci) : defaultValue (vwT ci j) = if fk ci j = 8 then .null else .int 0 := by
  rcases (show ci = 0 ∨ ci = 1 ∨ ci = 2 ∨ ci = 3 ∨ ci = 4 ∨ ci = 5 ∨ ci = 6 ∨ ci = 7 ∨ ci = 8 ∨ ci = 9 by omega) with rfl | rfl | rfl | rfl | rfl | rfl | rfl | rfl | rfl | rfl
  · have hj : j < 12 := hj
    rcases (show j = 0 ∨ j = 1 ∨ j = 2 ∨ j = 3 ∨ j = 4 ∨ j = 5 ∨ j = 6 ∨ j = 7 ∨ j = 8 ∨ j = 9 ∨ j = 10 ∨ j = 11 by omega) with rfl | rfl | rfl | rfl | rfl | rfl | rfl | rfl | rfl | rfl | rfl | rfl <;> rfl
  · have hj : j < 2 := hj
    rcases (show j = 0 ∨ j = 1 by omega) with rfl | rfl <;> rfl
  · have hj : j < 8 := hj
    rcases (show j = 0 ∨ j = 1 ∨ j = 2 ∨ j = 3 ∨ j = 4 ∨ j = 5 ∨ j = 6 ∨ j = 7 by omega) with rfl | rfl | rfl | rfl | rfl | rfl | rfl | rfl <;> rfl
  · have hj : j < 3 := hj
    rcases (show j = 0 ∨ j = 1 ∨ j = 2 by omega) with rfl | rfl | rfl <;> rfl
  · have hj : j < 3 := hj
    rcases (show j = 0 ∨ j = 1 ∨ j = 2 by omega) with rfl | rfl | rfl <;> rfl
  · have hj : j < 3 := hj
    rcases (show j = 0 ∨ j = 1 ∨ j = 2 by omega) with rfl | rfl | rfl <;> rfl
  · have hj : j < 4 := hj
    rcases (show j = 0 ∨ j = 1 ∨ j = 2 ∨ j = 3 by omega) with rfl | rfl | rfl | rfl <;> rfl
  · have hj : j < 1 := hj
    rcases (show j = 0 by omega) with rfl
    rfl
  · have hj : j < 8 := hj
    rcases (show j = 0 ∨ j = 1 ∨ j = 2 ∨ j = 3 ∨ j = 4 ∨ j = 5 ∨ j = 6 ∨ j = 7 by omega) with rfl | rfl | rfl | rfl | rfl | rfl | rfl | rfl <;> rfl
  · have hj : j < 8 := hj
    rcases (show j = 0 ∨ j = 1 ∨ j = 2 ∨ j = 3 ∨ j = 4 ∨ j = 5 ∨ j = 6 ∨ j = 7 by omega) with rfl | rfl | rfl | rfl | rfl | rfl | rfl | rfl <;> rfl
/-- a reference fits each field of references -/
theorem fitR (ci j a : Nat) (hc : ci < 10) (hj : j < nfl ci) (h8 : fk ci j = 8) : narrow (vwT ci j) (.ref a) = .ref a ∧ fits (vwT ci j) (.ref a) = true := by
  have key : ∃ t, (vwT ci j = .object t ∨ ∃ u, vwT ci j = .array u) := by
    have h := dflt ci j hc hj
    rw [if_pos h8] at h
    cases hv : vwT ci j with
    | object t => exact ⟨t, Or.inl rfl⟩
    | array u => exact ⟨"", Or.inr ⟨u, rfl⟩⟩
    | _ => rw [hv] at h; cases h
  obtain ⟨t, h | ⟨u, h⟩⟩ := key
  · rw [h]; exact ⟨rfl, rfl⟩
  · rw [h]; exact ⟨rfl, rfl⟩
theorem fitI (ci j : Nat) (hc : ci < 10) (hj : j < nfl ci) (hf : ((vwCl.getD ci (RX0, TX0, 12)).2.1 j).2.2.2 = true) (h8 : fk ci j ≠ 8) : vwT ci j = .int := by
  have key : ∀ ci : Fin 10, ∀ j : Fin 17, j.val < nfl ci.val → ((vwCl.getD ci.val (RX0, TX0, 12)).2.1 j.val).2.2.2 = true → fk ci.val j.val ≠ 8 → vwT ci.val j.val = .int := by decide +kernel
  have h17 : nfl ci ≤ 17 := by
    have k2 : ∀ ci : Fin 10, nfl ci.val ≤ 17 := by decide +kernel
    exact k2 ⟨ci, hc⟩
  exact key ⟨ci, hc⟩ ⟨j, by omega⟩ hj hf h8
section CONS
variable {p : Program} {l : Launch} {e : Env} {R : Room} {s : State} {m : MethodId} {args : Array Value} {below : List Frame} {meth : Method} {c : Code} {cells slots : Nat} {Q : State → Prop} {G : GG} {SX : MM} {nL : Nat} {own : String} {X : XC}
variable {pc : Nat} {L : List (Option VV)} {st : List VV} {E : List CD}
theorem cvR {i : Nat} (h : i < 593) : cv G (vR i) = .ref (G.2.1 + i) := by
  show Value.ref (ad G i) = _
  unfold ad
  rw [if_pos h]
theorem c_new {idx ci b : Nat} (C : CTXC p s m args meth c own X nL G) (hLK : LOK own X.2.1) (hd : decode X.1 pc = .ok (.new idx, 3)) (hk : X.2.1 idx = some (1, ci, b)) (hci : ci < 10) (h6 : E.length < 593) (hcells : cells + 1 ≤ R.cells) (hslots : slots + nfl ci ≤ R.slots) (k : KC p l e R s m args below meth c Q G SX nL (pc + 3, L, vR E.length :: st, E ++ [(ci, 0, [])], cells + 1, slots + nfl ci)) : KC p l e R s m args below meth c Q G SX nL (pc, L, st, E, cells, slots) := by
  intro H locs ls hw hl
  obtain ⟨hK, hP, hS, hE, hz⟩ := hw
  obtain ⟨e1, e2⟩ := vwCl_at hci
  have hKn := hK.1 ci _ e1
  have hws := (hLK idx ci b).2.1 hk hci
  obtain ⟨C1, C2, C3, C4, C5, C6, C7, C8, C9⟩ := C
  refine W.newcK C1 C2 C4 (C5 _ (hws _ (by simp))) (C5 _ (hws (.instantiable (cname ci) (nfl ci)) (by simp))) (C5 _ (hws (.initialized (cname ci)) (by simp))) rfl hd hcells hslots hKn.2.1 hz (fun H1 kC hkC q1 z1 o1 => ?_)
  have hkp : ∀ (k : Nat) (x : Nat × va_E), (wsE G E)[k]? = some x → H1[x.1]? = H[x.1]? := fun k x hx => o1 x.1 (by rw [← hz]; exact (hP k x hx).lt)
  have kk := k H1 locs ls ⟨hK, ?_, ⟨Nat.le_trans hS.1 (by rw [z1, hz]; omega), fun x h1 h2 => (o1 x (by rw [← hz]; exact Nat.lt_of_lt_of_le h1 hS.1)).trans (hS.2.1 x h1 h2), hS.2.2⟩, hE, by rw [z1, List.length_append]; rfl⟩ hl
  · rw [List.map_cons, cvR h6] at kk
    exact kk
  · show va_P G.1 vwCl (wsE G (E ++ [(ci, 0, [])])) H1
    rw [wsE_push]
    refine (hP.kept hkp).app (fun k x hx => ?_)
    have hk1 : k < 1 := (List.getElem?_eq_some_iff.mp hx).1
    rw [show k = 0 by omega] at hx
    cases hx
    show va_at G.1 vwCl (G.2.1 + E.length, en G (ci, 0, [])) H1
    have een : en G (ci, 0, []) = .inr (ci, (List.range (nfl ci)).map (fun j => cv G (cdv ci [] j))) := by
      unfold en
      rw [if_pos hci]
    rw [een]
    refine ⟨_, e1, (u_born (vwT ci) (ws := lw_g) C5 (vwCl_in hci) hKn hkC q1 (vwCl_ty hci)).to (fun j hj => ?_)⟩
    rw [e2] at hj
    rw [dflt ci j hci hj]
    unfold vp_V
    rw [List.getD_eq_getElem?_getD, List.getElem?_map, List.getElem?_range hj]
    show _ = cv G (cdd ci j)
    unfold cdd
    rw [if_pos hci]
    by_cases h8 : fk ci j = 8
    · rw [if_pos h8, if_pos h8]
      rfl
    · rw [if_neg h8, if_neg h8]
      rfl
end CONS

/-! the constructors: rows -/
section CONS2
variable {p : Program} {l : Launch} {e : Env} {R : Room} {s : State} {m : MethodId} {args : Array Value} {below : List Frame} {meth : Method} {c : Code} {cells slots : Nat} {Q : State → Prop} {G : GG} {SX : MM} {nL : Nat} {own : String} {X : XC}
variable {pc : Nat} {L : List (Option VV)} {st : List VV} {E : List CD}
/-- an array that is new: behind the heap -/
theorem grow {H H1 : Heap} {locs : List Loc} {a0 : vp_A} {cA : ClassId} {cd : CD} (hw : GW G SX s E H locs) (e1 : H1[G.2.1 + E.length]? = some (vp_cell cA a0)) (z1 : H1.size = G.2.1 + E.length + 1) (o1 : ∀ q, q < G.2.1 + E.length → H1[q]? = H[q]?) (he : en G cd = .inl (cA, a0)) : GW G SX s (E ++ [cd]) H1 locs := by
  obtain ⟨hK, hP, hS, hE, hz⟩ := hw
  have hkp : ∀ (k : Nat) (x : Nat × va_E), (wsE G E)[k]? = some x → H1[x.1]? = H[x.1]? := fun k x hx => o1 x.1 (by rw [← hz]; exact (hP k x hx).lt)
  refine ⟨hK, ?_, ⟨Nat.le_trans hS.1 (by rw [z1, hz]; omega), fun x h1 h2 => (o1 x (by rw [← hz]; exact Nat.lt_of_lt_of_le h1 hS.1)).trans (hS.2.1 x h1 h2), hS.2.2⟩, hE, by rw [z1, List.length_append]; rfl⟩
  rw [wsE_push]
  refine (hP.kept hkp).app (fun k x hx => ?_)
  have hk1 : k < 1 := (List.getElem?_eq_some_iff.mp hx).1
  rw [show k = 0 by omega] at hx
  cases hx
  show va_at G.1 vwCl (G.2.1 + E.length, en G cd) H1
  rw [he]
  exact e1
theorem c_newa {n : Int} {aty : ArrayType} {k : Nat} (C : CTXC p s m args meth c own X nL G) (hd : decode X.1 pc = .ok (.newarray aty, 2)) (hk : (aty = .int ∧ k = 10) ∨ (aty = .boolean ∧ k = 11) ∨ (aty = .char ∧ k = 12)) (hn : 0 ≤ n ∧ n ≤ 30000) (h6 : E.length < 602) (hcells : cells + 1 ≤ R.cells) (hslots : slots + n.toNat ≤ R.slots) (kk : KC p l e R s m args below meth c Q G SX nL (pc + 2, L, vR E.length :: st, E ++ [(k, n.toNat, [])], cells + 1, slots + n.toNat)) : KC p l e R s m args below meth c Q G SX nL (pc, L, .inl n :: st, E, cells, slots) := by
  intro H locs ls hw hl
  have hw : GW G SX s E H locs := hw
  obtain ⟨hK, hP, hS, hE, hz⟩ := id hw
  obtain ⟨C1, C2, C3, C4, C5, C6, C7, C8, C9⟩ := C
  have hN : (Int32.ofInt n).toNatClampNeg = n.toNat := i32cl hn.1 (by omega)
  have hnn : ¬ Int32.ofInt n < 0 := by
    have z : (0 : Int32) = Int32.ofInt 0 := rfl
    rw [z, i32lt ⟨by omega, by omega⟩ ⟨by omega, by omega⟩]
    omega
  have fin : ∀ (H1 : Heap) (cA : ClassId), cA = G.2.2.1 k → k < 13 ∧ 10 ≤ k → H1[G.2.1 + E.length]? = some (arrV cA n.toNat (fun _ => .int 0)) → H1.size = G.2.1 + E.length + 1 → (∀ q, q < G.2.1 + E.length → H1[q]? = H[q]?) → W p l e R s m args below meth c H1 locs (cells + 1) (slots + n.toNat) Q (F0 m (pc + 2) ls (.ref (G.2.1 + E.length) :: st.map (cv G))) := by
    intro H1 cA hcA hk13 q1 z1 o1
    have een : en G (k, n.toNat, []) = .inl (cA, (n.toNat, .inl (fun j => vi32 (cdv k [] j)))) := by
      unfold en
      rw [if_neg (by show ¬ k < 10; omega), if_pos (by show k < 13; omega), hcA]
    have hf : (fun j => Value.int (vi32 (cdv k [] j))) = (fun _ => Value.int 0) := by
      funext j
      show Value.int (vi32 (cdd k j)) = _
      unfold cdd
      rw [if_neg (by omega), if_pos hk13.1]
      rfl
    have k2 := kk H1 locs ls (grow hw (by rw [vp_cell_i, hf]; exact q1) z1 o1 een) hl
    rw [List.map_cons, cvR h6] at k2
    exact k2
  rcases hk with ⟨ha, hk⟩ | ⟨ha, hk⟩ | ⟨ha, hk⟩
  · subst ha
    subst hk
    exact va_newaK (atype := .int) C1 C2 (C5 _ (arrW (.arrayClass .int) (by simp))) rfl hd rfl hnn hN (by show n.toNat * 4 ≤ _; omega) hcells hslots hz (fun H1 cA q1 z1 o1 hAr hNm => fin H1 cA (Option.some.inj (hNm.symm.trans (hK.2 0 _ rfl).2)) ⟨by omega, by omega⟩ q1 z1 o1)
  · subst ha
    subst hk
    exact va_newaK (atype := .boolean) C1 C2 (C5 _ (arrW (.arrayClass .boolean) (by simp))) rfl hd rfl hnn hN (by show n.toNat * 1 ≤ _; omega) hcells hslots hz (fun H1 cA q1 z1 o1 hAr hNm => fin H1 cA (Option.some.inj (hNm.symm.trans (hK.2 1 _ rfl).2)) ⟨by omega, by omega⟩ q1 z1 o1)
  · subst ha
    subst hk
    exact va_newaK (atype := .char) C1 C2 (C5 _ (arrW (.arrayClass .char) (by simp))) rfl hd rfl hnn hN (by show n.toNat * 2 ≤ _; omega) hcells hslots hz (fun H1 cA q1 z1 o1 hAr hNm => fin H1 cA (Option.some.inj (hNm.symm.trans (hK.2 2 _ rfl).2)) ⟨by omega, by omega⟩ q1 z1 o1)
theorem c_anew {n : Int} {idx a b : Nat} (C : CTXC p s m args meth c own X nL G) (hLK : LOK own X.2.1) (hd : decode X.1 pc = .ok (.anewarray idx, 3)) (hk : X.2.1 idx = some (2, a, b)) (ha : a = 13 ∨ a = 14) (hn : 0 ≤ n ∧ n ≤ 30000) (h6 : E.length < 602) (hcells : cells + 1 ≤ R.cells) (hslots : slots + n.toNat ≤ R.slots) (kk : KC p l e R s m args below meth c Q G SX nL (pc + 3, L, vR E.length :: st, E ++ [(a, n.toNat, [])], cells + 1, slots + n.toNat)) : KC p l e R s m args below meth c Q G SX nL (pc, L, .inl n :: st, E, cells, slots) := by
  intro H locs ls hw hl
  have hw : GW G SX s E H locs := hw
  obtain ⟨hK, hP, hS, hE, hz⟩ := id hw
  obtain ⟨C1, C2, C3, C4, C5, C6, C7, C8, C9⟩ := C
  have hcl := (hLK idx a b).2.2.1 hk ha
  have hN : (Int32.ofInt n).toNatClampNeg = n.toNat := i32cl hn.1 (by omega)
  have hnn : ¬ Int32.ofInt n < 0 := by
    have z : (0 : Int32) = Int32.ofInt 0 := rfl
    rw [z, i32lt ⟨by omega, by omega⟩ ⟨by omega, by omega⟩]
    omega
  have fin : ∀ (cA : ClassId), cA = G.2.2.1 a → W p l e R s m args below meth c (H.push { cls := cA, slots := Array.replicate n.toNat .null, vm := .none }) locs (cells + 1) (slots + n.toNat) Q (F0 m (pc + 3) ls (.ref H.size :: st.map (cv G))) := by
    intro cA hcA
    have een : en G (a, n.toNat, []) = .inl (cA, (n.toNat, .inr (.inr (.inr (.inr (fun j => vrf G (cdv a [] j))))))) := by
      unfold en
      rw [if_neg (by show ¬ a < 10; omega), if_neg (by show ¬ a < 13; omega), hcA]
    have hf : (fun j => va_rf (vrf G (cdv a [] j))) = (fun _ => Value.null) := by
      funext j
      show va_rf (vrf G (cdd a j)) = _
      unfold cdd
      rw [if_neg (by omega), if_neg (by omega)]
      rfl
    have k2 := kk _ locs ls (grow (H1 := H.push { cls := cA, slots := Array.replicate n.toNat .null, vm := .none }) hw (by rw [vp_cell_q, hf, ← hz, Array.getElem?_push_size, ← arrV_new]) (by rw [Array.size_push, hz]) (fun q hq => by rw [Array.getElem?_push, if_neg (by omega)]) een) hl
    rw [List.map_cons, cvR h6, ← hz] at k2
    exact k2
  rcases ha with ha | ha
  · subst ha
    rw [if_pos rfl] at hcl
    refine W.anew C1 C2 C4 (C5 _ hcl) (va_AO.use C7.1) rfl hd rfl hnn (by rw [hN]; omega) hcells (by rw [hN]; exact hslots) (fun cA kA comp f1 f2 f3 f4 => ?_)
    obtain ⟨kA', comp', g1, g2, g3, g4⟩ := (hK.2 3 _ rfl).2
    rw [hN]
    exact fin cA (Option.some.inj (f1.symm.trans g4))
  · subst ha
    rw [if_neg (by decide)] at hcl
    refine W.anew C1 C2 C4 (C5 _ hcl) (va_AO.use C7.2) rfl hd rfl hnn (by rw [hN]; omega) hcells (by rw [hN]; exact hslots) (fun cA kA comp f1 f2 f3 f4 => ?_)
    obtain ⟨kA', comp', g1, g2, g3, g4⟩ := (hK.2 4 _ rfl).2
    rw [hN]
    exact fin cA (Option.some.inj (f1.symm.trans g4))
theorem GW.put {H1 : Heap} {locs1 : List Loc} {i : Nat} {cd : CD} {en' : va_E} (hK : va_K G.1 vwCl (tysG G) s) (hE : EX G SX s s.heap) (he : en G cd = en') (hP : va_P G.1 vwCl ((wsE G E).set i (G.2.1 + i, en')) H1) (hS : va_S (fun q => G.2.1 ≤ q) s.heap H1 locs1) (hz : H1.size = G.2.1 + E.length) : GW G SX s (E.set i cd) H1 locs1 := by
  refine ⟨hK, ?_, hS, hE, by rw [List.length_set]; exact hz⟩
  rw [← wsE_set, he]
  exact hP
end CONS2

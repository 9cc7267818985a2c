/-! the constructors: rows -/
section CONS2
variable {p : Program} {l : Launch} {e : Env} {R : Room} {s : State} {m : MethodId} {args : Array Value} {below : List Frame} {meth : Method} {c : Code} {cells slots : Nat} {Q : State → Prop} {G : GG} {SX : MM} {nL : Nat} {own : String} {X : XC}
variable {pc : Nat} {L : List (Option VV)} {st : List VV} {E : List CD}
/-- an array that is new: behind the heap -/
theorem grow {H H1 : Heap} {locs : List Loc} {a0 : vp_A} {cA : ClassId} {cd : CD} (hw : GW G SX s E H locs) (e1 : H1[G.2.1 + E.length]? = some (vp_cell cA a0)) (z1 : H1.size = G.2.1 + E.length + 1) (o1 : ∀ q, q < G.2.1 + E.length → H1[q]? = H[q]?) (he : en G cd = .inl (cA, a0)) : GW G SX s (E ++ [cd]) H1 locs := by
  obtain ⟨hK, hP, hS, hE, hz⟩ := hw
  have hkp : ∀ (k : Nat) (x : Nat × va_E), (wsE G E)[k]? = some x → H1[x.1]? = H[x.1]? := fun k x hx => o1 x.1 (by rw [← hz]; exact (hP k x hx).lt)
  refine ⟨hK, ?_, ⟨Nat.le_trans hS.1 (by rw [z1, hz]; omega), fun x h1 h2 => (o1 x (by rw [← hz]; exact Nat.lt_of_lt_of_le h1 hS.1)).trans (hS.2.1 x h1 h2), hS.2.2⟩, hE, by rw [z1, List.length_append]; rfl⟩
  rw [wsE_push]
  refine (hP.kept hkp).app (fun k x hx => ?_)
  have hk1 : k < 1 := (List.getElem?_eq_some_iff.mp hx).1
  rw [show k = 0 by omega] at hx
  cases hx
  show va_at G.1 vwCl (G.2.1 + E.length, en G cd) H1
  rw [he]
  exact e1
theorem c_newa {n : Int} {aty : ArrayType} {k : Nat} (C : CTXC p s m args meth c own X nL G) (hd : decode X.1 pc = .ok (.newarray aty, 2)) (hk : (aty = .int ∧ k = 10) ∨ (aty = .boolean ∧ k = 11) ∨ (aty = .char ∧ k = 12)) (hn : 0 ≤ n ∧ n ≤ 30000) (h6 : E.length < 593) (hcells : cells + 1 ≤ R.cells) (hslots : slots + n.toNat ≤ R.slots) (kk : KC p l e R s m args below meth c Q G SX nL (pc + 2, L, vR E.length :: st, E ++ [(k, n.toNat, [])], cells + 1, slots + n.toNat)) : KC p l e R s m args below meth c Q G SX nL (pc, L, .inl n :: st, E, cells, slots) := by
  intro H locs ls hw hl
  have hw : GW G SX s E H locs := hw
  obtain ⟨hK, hP, hS, hE, hz⟩ := id hw
  obtain ⟨C1, C2, C3, C4, C5, C6, C7, C8, C9⟩ := C
  have hN : (Int32.ofInt n).toNatClampNeg = n.toNat := i32cl hn.1 (by omega)
  have hnn : ¬ Int32.ofInt n < 0 := by
    have z : (0 : Int32) = Int32.ofInt 0 := rfl
    rw [z, i32lt ⟨by omega, by omega⟩ ⟨by omega, by omega⟩]
    omega
  have fin : ∀ (H1 : Heap) (cA : ClassId), cA = G.2.2.1 k → k < 13 ∧ 10 ≤ k → H1[G.2.1 + E.length]? = some (arrV cA n.toNat (fun _ => .int 0)) → H1.size = G.2.1 + E.length + 1 → (∀ q, q < G.2.1 + E.length → H1[q]? = H[q]?) → W p l e R s m args below meth c H1 locs (cells + 1) (slots + n.toNat) Q (F0 m (pc + 2) ls (.ref (G.2.1 + E.length) :: st.map (cv G))) := by
    intro H1 cA hcA hk13 q1 z1 o1
    have een : en G (k, n.toNat, []) = .inl (cA, (n.toNat, .inl (fun j => vi32 (cdv k [] j)))) := by
      unfold en
      rw [if_neg (by show ¬ k < 10; omega), if_pos (by show k < 13; omega), hcA]
    have hf : (fun j => Value.int (vi32 (cdv k [] j))) = (fun _ => Value.int 0) := by
      funext j
      show Value.int (vi32 (cdd k j)) = _
      unfold cdd
      rw [if_neg (by omega), if_pos hk13.1]
      rfl
    have k2 := kk H1 locs ls (grow hw (by rw [vp_cell_i, hf]; exact q1) z1 o1 een) hl
    rw [List.map_cons, cvR h6] at k2
    exact k2
  rcases hk with ⟨ha, hk⟩ | ⟨ha, hk⟩ | ⟨ha, hk⟩
  · subst ha
    subst hk
    exact va_newaK (atype := .int) C1 C2 (C5 _ (arrW (.arrayClass .int) (by simp))) rfl hd rfl hnn hN (by show n.toNat * 4 ≤ _; omega) hcells hslots hz (fun H1 cA q1 z1 o1 hAr hNm => fin H1 cA (Option.some.inj (hNm.symm.trans (hK.2 0 _ rfl).2)) ⟨by omega, by omega⟩ q1 z1 o1)
  · subst ha
    subst hk
    exact va_newaK (atype := .boolean) C1 C2 (C5 _ (arrW (.arrayClass .boolean) (by simp))) rfl hd rfl hnn hN (by show n.toNat * 1 ≤ _; omega) hcells hslots hz (fun H1 cA q1 z1 o1 hAr hNm => fin H1 cA (Option.some.inj (hNm.symm.trans (hK.2 1 _ rfl).2)) ⟨by omega, by omega⟩ q1 z1 o1)
  · subst ha
    subst hk
    exact va_newaK (atype := .char) C1 C2 (C5 _ (arrW (.arrayClass .char) (by simp))) rfl hd rfl hnn hN (by show n.toNat * 2 ≤ _; omega) hcells hslots hz (fun H1 cA q1 z1 o1 hAr hNm => fin H1 cA (Option.some.inj (hNm.symm.trans (hK.2 2 _ rfl).2)) ⟨by omega, by omega⟩ q1 z1 o1)
theorem c_anew {n : Int} {idx a b : Nat} (C : CTXC p s m args meth c own X nL G) (hLK : LOK own X.2.1) (hd : decode X.1 pc = .ok (.anewarray idx, 3)) (hk : X.2.1 (idx + 1000) = some (2, a, b)) (ha : a = 13 ∨ a = 14) (hn : 0 ≤ n ∧ n ≤ 30000) (h6 : E.length < 593) (hcells : cells + 1 ≤ R.cells) (hslots : slots + n.toNat ≤ R.slots) (kk : KC p l e R s m args below meth c Q G SX nL (pc + 3, L, vR E.length :: st, E ++ [(a, n.toNat, [])], cells + 1, slots + n.toNat)) : KC p l e R s m args below meth c Q G SX nL (pc, L, .inl n :: st, E, cells, slots) := by
  intro H locs ls hw hl
  have hw : GW G SX s E H locs := hw
  obtain ⟨hK, hP, hS, hE, hz⟩ := id hw
  obtain ⟨C1, C2, C3, C4, C5, C6, C7, C8, C9⟩ := C
  have hcl := (hLK idx a b).2.2.1 hk ha
  have hN : (Int32.ofInt n).toNatClampNeg = n.toNat := i32cl hn.1 (by omega)
  have hnn : ¬ Int32.ofInt n < 0 := by
    have z : (0 : Int32) = Int32.ofInt 0 := rfl
    rw [z, i32lt ⟨by omega, by omega⟩ ⟨by omega, by omega⟩]
    omega
  have fin : ∀ (cA : ClassId), cA = G.2.2.1 a → W p l e R s m args below meth c (H.push { cls := cA, slots := Array.replicate n.toNat .null, vm := .none }) locs (cells + 1) (slots + n.toNat) Q (F0 m (pc + 3) ls (.ref H.size :: st.map (cv G))) := by
    intro cA hcA
    have een : en G (a, n.toNat, []) = .inl (cA, (n.toNat, .inr (.inr (.inr (.inr (fun j => vrf G (cdv a [] j))))))) := by
      unfold en
      rw [if_neg (by show ¬ a < 10; omega), if_neg (by show ¬ a < 13; omega), hcA]
    have hf : (fun j => va_rf (vrf G (cdv a [] j))) = (fun _ => Value.null) := by
      funext j
      show va_rf (vrf G (cdd a j)) = _
      unfold cdd
      rw [if_neg (by omega), if_neg (by omega)]
      rfl
    have k2 := kk _ locs ls (grow (H1 := H.push { cls := cA, slots := Array.replicate n.toNat .null, vm := .none }) hw (by rw [vp_cell_q, hf, ← hz, Array.getElem?_push_size, ← arrV_new]) (by rw [Array.size_push, hz]) (fun q hq => by rw [Array.getElem?_push, if_neg (by omega)]) een) hl
    rw [List.map_cons, cvR h6, ← hz] at k2
    exact k2
  rcases ha with ha | ha
  · subst ha
    rw [if_pos rfl] at hcl
    refine W.anew C1 C2 C4 (C5 _ hcl) (va_AO.use C7.1) rfl hd rfl hnn (by rw [hN]; omega) hcells (by rw [hN]; exact hslots) (fun cA kA comp f1 f2 f3 f4 => ?_)
    obtain ⟨kA', comp', g1, g2, g3, g4⟩ := (hK.2 3 _ rfl).2
    rw [hN]
    exact fin cA (Option.some.inj (f1.symm.trans g4))
  · subst ha
    rw [if_neg (by decide)] at hcl
    refine W.anew C1 C2 C4 (C5 _ hcl) (va_AO.use C7.2) rfl hd rfl hnn (by rw [hN]; omega) hcells (by rw [hN]; exact hslots) (fun cA kA comp f1 f2 f3 f4 => ?_)
    obtain ⟨kA', comp', g1, g2, g3, g4⟩ := (hK.2 4 _ rfl).2
    rw [hN]
    exact fin cA (Option.some.inj (f1.symm.trans g4))
theorem GW.put {H1 : Heap} {locs1 : List Loc} {i : Nat} {cd : CD} {en' : va_E} (hK : va_K G.1 vwCl (tysG G) s) (hE : EX G SX s s.heap) (he : en G cd = en') (hP : va_P G.1 vwCl ((wsE G E).set i (G.2.1 + i, en')) H1) (hS : va_S (fun q => G.2.1 ≤ q) s.heap H1 locs1) (hz : H1.size = G.2.1 + E.length) : GW G SX s (E.set i cd) H1 locs1 := by
  refine ⟨hK, ?_, hS, hE, by rw [List.length_set]; exact hz⟩
  rw [← wsE_set, he]
  exact hP
/-- a field of the class's own, final, in its constructor -/
theorem c_putf {idx ci k i n : Nat} {l0 : List (Nat × VV)} {v : VV} (C : CTXC p s m args meth c own X nL G) (hLK : LOK own X.2.1) (hinit : X.2.2.2 = true) (hd : decode X.1 pc = .ok (.putfield idx, 3)) (hf : X.2.1 idx = some (0, ci, k)) (hci : ci < 10) (hk : k < nfl ci) (hfin : ((vwCl.getD ci (RX0, TX0, 12)).2.1 k).2.2.2 = true) (hi : E[i]? = some (ci, n, l0)) (h6 : i < 593) (hv : (fk ci k = 8 ∧ ∃ j, v = vR j) ∨ (fk ci k ≠ 8 ∧ ∃ z, v = vI z)) (kk : KC p l e R s m args below meth c Q G SX nL (pc + 3, L, st, E.set i (ci, n, (k, v) :: l0), cells, slots)) : KC p l e R s m args below meth c Q G SX nL (pc, L, v :: vR i :: st, E, cells, slots) := by
  intro H locs ls hw hl
  have hw : GW G SX s E H locs := hw
  obtain ⟨hK, hP, hS, hE, hz⟩ := id hw
  obtain ⟨C1, C2, C3, C4, C5, C6, C7, C8, C9⟩ := C
  obtain ⟨e1, e2⟩ := vwCl_at hci
  obtain ⟨hlink, hdecl⟩ := (hLK idx ci k).1 hf hci
  have een : ∀ l1, en G (ci, n, l1) = .inr (ci, (List.range (nfl ci)).map (fun j => cv G (cdv ci l1 j))) := fun l1 => by
    unfold en
    rw [if_pos hci]
  have hat : (wsE G E)[i]? = some (G.2.1 + i, .inr (ci, (List.range (nfl ci)).map (fun j => cv G (cdv ci l0 j)))) := by
    rw [wsE_at, hi, ← een l0]
    rfl
  obtain ⟨hnar, hfit⟩ : narrow (vwT ci k) (cv G v) = cv G v ∧ fits (vwT ci k) (cv G v) = true := by
    rcases hv with ⟨h8, j, rfl⟩ | ⟨h8, z, rfl⟩
    · exact fitR ci k (ad G j) hci hk h8
    · rw [fitI ci k hci hk hfin h8]
      exact ⟨rfl, rfl⟩
  have hts := C5
  have hin := vwCl_in hci
  have hty := vwCl_ty hci
  have hnm := vwCl_nm hci
  have hk2 : k < (vwCl.getD ci (RX0, TX0, 12)).2.2 := by rw [e2]; exact hk
  have hap := va_apart (own := own) hts hin (vwT ci) hty hnm hK e1
  obtain ⟨r, h1, cell, q1, q2, q3, q4⟩ := hP i _ hat
  have hr : r = vwCl.getD ci (RX0, TX0, 12) := Option.some.inj (h1.symm.trans e1)
  subst hr
  obtain ⟨hSf, hfc, kC, hkC, hkind⟩ := hK.1 ci _ e1
  obtain ⟨cf, kf, fi, f, hff, hsl⟩ := hSf k hk2
  have hlay := hts _ (hin _ (u_in_lay hk2))
  unfold u_lay at hlay
  rw [if_pos hfin] at hlay
  have hst := (u_facts hfc hkC (u_lays hts hin hk2) hff).1
  have hcf : m.cls = cf := by
    obtain ⟨_, _, c', _, _, _, -, -, hf', -, -, -, hown2, -⟩ := Cond.laysFinal_spec hlay
    have e1 : c' = cf := by have := hff.symm.trans hf'; simp at this; exact this.1.symm
    rw [hdecl] at hown2
    rw [← e1]; exact Option.some.inj (C4.symm.trans hown2)
  have h6' := u_fits hfc hkC hkind (Or.inr hlay) hff (hty k hk2) hnar hfit
  have hst2 : (v :: vR i :: st).map (cv G) = cv G v :: .ref (G.2.1 + i) :: st.map (cv G) := by rw [List.map_cons, List.map_cons, cvR h6]
  show W p l e R s m args below meth c H locs cells slots Q (F0 m pc ls ((v :: vR i :: st).map (cv G)))
  rw [hst2]
  refine W.putFinK C1 C2 C4 (C5 _ hlink) hff hst hcf (C8 hinit) (by rw [q2]; exact h6') q1 q3 (by rw [hsl]; exact k2_hasslot (q4 k hk2)) rfl rfl hd fun H' g1 g2 g3 => ?_
  rw [hsl] at g1
  have hlen : k < ((List.range (nfl ci)).map (fun j => cv G (cdv ci l0 j))).length := by simp; exact hk
  have hset : ((List.range (nfl ci)).map (fun j => cv G (cdv ci l0 j))).set k (cv G v) = (List.range (nfl ci)).map (fun j => cv G (cdv ci ((k, v) :: l0) j)) := by
    apply List.ext_getElem?
    intro j
    rw [List.getElem?_set, List.getElem?_map, List.getElem?_map, List.length_map, List.length_range]
    by_cases hj : j < nfl ci
    · rw [List.getElem?_range hj]
      simp only [Option.map_some, cdv_cons]
      by_cases q : k = j
      · rw [if_pos q, if_pos hk, if_pos q]
      · rw [if_neg q, if_neg q]
    · have e9 : (List.range (nfl ci))[j]? = none := List.getElem?_eq_none (by simp; omega)
      rw [e9]
      by_cases q : k = j
      · omega
      · rw [if_neg q]
        rfl
  refine kk H' _ ls (GW.put hK hE (een ((k, v) :: l0)) ?_ (hS.put g2 g3 (by show G.2.1 ≤ G.2.1 + i; omega)) (by rw [g2]; exact hz)) hl
  refine hP.set wsE_D hat ⟨_, e1, ?_⟩ g3
  refine t_OB.to (V := updV (vp_V ((List.range (nfl ci)).map (fun j => cv G (cdv ci l0 j)))) k (cv G v)) ⟨_, g1, q2, q3, t_set q4 hap hk2 (cv G v)⟩ (fun j hj => ?_)
  rw [← hset]
  exact vp_updV_set hlen (cv G v) j
theorem c_getf {idx ci k i n : Nat} {l0 : List (Nat × VV)} (C : CTXC p s m args meth c own X nL G) (hLK : LOK own X.2.1) (hd : decode X.1 pc = .ok (.getfield idx, 3)) (hf : X.2.1 idx = some (0, ci, k)) (hci : ci < 10) (hk : k < nfl ci) (hi : E[i]? = some (ci, n, l0)) (h6 : i < 593) (kk : KC p l e R s m args below meth c Q G SX nL (pc + 3, L, cdv ci l0 k :: st, E, cells, slots)) : KC p l e R s m args below meth c Q G SX nL (pc, L, vR i :: st, E, cells, slots) := by
  intro H locs ls hw hl
  have hw : GW G SX s E H locs := hw
  obtain ⟨hK, hP, hS, hE, hz⟩ := id hw
  obtain ⟨C1, C2, C3, C4, C5, C6, C7, C8, C9⟩ := C
  obtain ⟨e1, e2⟩ := vwCl_at hci
  obtain ⟨hlink, hdecl⟩ := (hLK idx ci k).1 hf hci
  have hat : (wsE G E)[i]? = some (G.2.1 + i, .inr (ci, (List.range (nfl ci)).map (fun j => cv G (cdv ci l0 j)))) := by
    rw [wsE_at, hi]
    show some (G.2.1 + i, en G (ci, n, l0)) = _
    unfold en
    rw [if_pos hci]
  have hv : ((List.range (nfl ci)).map (fun j => cv G (cdv ci l0 j)))[k]? = some (cv G (cdv ci l0 k)) := by
    rw [List.getElem?_map, List.getElem?_range hk]
    rfl
  have hst2 : (vR i :: st).map (cv G) = .ref (G.2.1 + i) :: st.map (cv G) := by rw [List.map_cons, cvR h6]
  show W p l e R s m args below meth c H locs cells slots Q (F0 m pc ls ((vR i :: st).map (cv G)))
  rw [hst2]
  exact va_get C1 C2 C5 (vwCl_in hci) C4 hK hP i hat e1 k (by rw [e2]; exact hk) (C5 _ hlink) (fun _ q => q) hv hd (kk H locs ls hw hl)
theorem c_iast {i n : Nat} {l0 : List (Nat × VV)} {j z : Int} (C : CTXC p s m args meth c own X nL G) (hd : decode X.1 pc = .ok (.iastore, 1)) (hi : E[i]? = some (10, n, l0)) (h6 : i < 593) (hj : 0 ≤ j ∧ j < n) (hn : n ≤ 30000) (kk : KC p l e R s m args below meth c Q G SX nL (pc + 1, L, st, E.set i (10, n, (j.toNat, vI z) :: l0), cells, slots)) : KC p l e R s m args below meth c Q G SX nL (pc, L, .inl z :: .inl j :: vR i :: st, E, cells, slots) := by
  intro H locs ls hw hl
  have hw : GW G SX s E H locs := hw
  obtain ⟨hK, hP, hS, hE, hz⟩ := id hw
  obtain ⟨C1, C2, C3, C4, C5, C6, C7, C8, C9⟩ := C
  have een : ∀ l1, en G (10, n, l1) = .inl (G.2.2.1 10, (n, .inl (fun j => vi32 (cdv 10 l1 j)))) := fun l1 => rfl
  have hat : (wsE G E)[i]? = some (G.2.1 + i, .inl (G.2.2.1 10, (n, .inl (fun j => vi32 (cdv 10 l0 j))))) := by
    rw [wsE_at, hi, ← een l0]
    rfl
  have hst2 : (.inl z :: .inl j :: vR i :: st : List VV).map (cv G) = .int (Int32.ofInt z) :: .int (Int32.ofInt j) :: .ref (G.2.1 + i) :: st.map (cv G) := by
    rw [List.map_cons, List.map_cons, List.map_cons, cvR h6]
    rfl
  show W p l e R s m args below meth c H locs cells slots Q (F0 m pc ls ((.inl z :: .inl j :: vR i :: st : List VV).map (cv G)))
  rw [hst2]
  have hin := i32in hj.1 hj.2 (by omega)
  refine W.iast C1 C2 (hP i _ hat) ((hK.2 0 _ rfl).1 n (fun j => .int (vi32 (cdv 10 l0 j)))) (fun q => by cases q) (by show ¬ (Int32.ofInt j < 0 ∨ (arrV _ _ _).slots.size ≤ _); rw [arrV_size]; exact hin) rfl rfl hd fun H1 g1 g2 g3 => ?_
  refine kk H1 _ ls (GW.put hK hE (een ((j.toNat, vI z) :: l0)) ?_ (hS.put g2 g3 (by show G.2.1 ≤ G.2.1 + i; omega)) (by rw [g2]; exact hz)) hl
  refine hP.set wsE_D hat ?_ g3
  show H1[G.2.1 + i]? = some (vp_cell _ _)
  rw [g1]
  show some ((vp_cell (G.2.2.1 10) (n, .inl (fun j => vi32 (cdv 10 l0 j)))).setSlot _ _) = _
  rw [vp_cell_i, vp_cell_i, arrV_store, i32cl hj.1 (by omega)]
  congr 2
  funext q
  rw [cdv_cons]
  unfold updV
  by_cases hq : q = j.toNat
  · rw [if_pos hq, if_pos hq.symm]
    rfl
  · rw [if_neg hq, if_neg (fun y => hq y.symm)]
theorem c_aast {i n a v nv : Nat} {l0 lv : List (Nat × VV)} {j : Int} (C : CTXC p s m args meth c own X nL G) (hd : decode X.1 pc = .ok (.aastore, 1)) (ha : a = 13 ∨ a = 14) (hi : E[i]? = some (a, n, l0)) (h6 : i < 593) (hv : E[v]? = some (if a = 13 then 5 else 6, nv, lv)) (hv6 : v < 593) (hj : 0 ≤ j ∧ j < n) (hn : n ≤ 30000) (kk : KC p l e R s m args below meth c Q G SX nL (pc + 1, L, st, E.set i (a, n, (j.toNat, vR v) :: l0), cells, slots)) : KC p l e R s m args below meth c Q G SX nL (pc, L, vR v :: .inl j :: vR i :: st, E, cells, slots) := by
  intro H locs ls hw hl
  have hw : GW G SX s E H locs := hw
  obtain ⟨hK, hP, hS, hE, hz⟩ := id hw
  obtain ⟨C1, C2, C3, C4, C5, C6, C7, C8, C9⟩ := C
  have een : ∀ l1, en G (a, n, l1) = .inl (G.2.2.1 a, (n, .inr (.inr (.inr (.inr (fun j => vrf G (cdv a l1 j))))))) := fun l1 => by
    unfold en
    rw [if_neg (by show ¬ a < 10; omega), if_neg (by show ¬ a < 13; omega)]
  have hat : (wsE G E)[i]? = some (G.2.1 + i, .inl (G.2.2.1 a, (n, .inr (.inr (.inr (.inr (fun j => vrf G (cdv a l0 j)))))))) := by
    rw [wsE_at, hi, ← een l0]
    rfl
  have hst2 : (vR v :: .inl j :: vR i :: st : List VV).map (cv G) = .ref (G.2.1 + v) :: .int (Int32.ofInt j) :: .ref (G.2.1 + i) :: st.map (cv G) := by
    rw [List.map_cons, List.map_cons, List.map_cons, cvR h6, cvR hv6]
    rfl
  show W p l e R s m args below meth c H locs cells slots Q (F0 m pc ls ((vR v :: .inl j :: vR i :: st : List VV).map (cv G)))
  rw [hst2]
  have hin := i32in hj.1 hj.2 (by omega)
  have hcl := i32cl hj.1 (show j ≤ 2147483647 by omega)
  have fin : ∀ (ci t0 : Nat) (r : vw_C), ci < 10 → vwCl[ci]? = some r → (tysG G)[t0]? = some (G.2.2.1 a, .object r.1) → E[v]? = some (ci, nv, lv) → W p l e R s m args below meth c H locs cells slots Q (F0 m pc ls (.ref (G.2.1 + v) :: .int (Int32.ofInt j) :: .ref (G.2.1 + i) :: st.map (cv G))) := by
    intro ci t0 r hci hc ht hv
    have hvv : (wsE G E)[v]? = some (G.2.1 + v, .inr (ci, (List.range (nfl ci)).map (fun j => cv G (cdv ci lv j)))) := by
      rw [wsE_at, hv]
      show some (G.2.1 + v, en G (ci, nv, lv)) = _
      unfold en
      rw [if_pos hci]
    have hlt : (Int32.ofInt j).toNatClampNeg < n := Nat.not_le.mp fun q => hin (Or.inr q)
    have h0 : ¬ Int32.ofInt j < 0 := fun q => hin (Or.inl q)
    obtain ⟨r', hr', cellV, g1, g2, g3, -⟩ := hP v _ hvv
    have hcls := (hK.1 ci r hc).2
    obtain ⟨kA, comp, k1, k2, k3, -⟩ := (hK.2 t0 _ ht).2
    have hcomp : comp = G.1.1 ci := Option.some.inj (k3.symm.trans hcls.1)
    subst hcomp
    obtain ⟨kC, hkC, -⟩ := hcls.2
    refine W.aast C1 C2 (hP i _ hat) (fun q h => by cases h) (fun h => by cases h) k1 k2 rfl hkC ⟨h0, by show _ < (arrV _ _ _).slots.size; rw [arrV_size]; exact hlt⟩ g1 (fun q h => by rw [g3] at h; cases h) (by rw [g2]; exact hkC) (by rw [g2]; exact va_assign hcls) rfl rfl hd fun H1 q1 q2 q3 => ?_
    refine kk H1 _ ls (GW.put hK hE (een ((j.toNat, vR v) :: l0)) ?_ (hS.put q2 q3 (by show G.2.1 ≤ G.2.1 + i; omega)) (by rw [q2]; exact hz)) hl
    refine hP.set wsE_D hat ?_ q3
    show H1[G.2.1 + i]? = some (vp_cell _ _)
    rw [q1]
    show some ((vp_cell (G.2.2.1 a) (n, .inr (.inr (.inr (.inr (fun j => vrf G (cdv a l0 j))))))).setSlot _ _) = _
    rw [vp_cell_q, vp_cell_q, arrV_store, hcl]
    congr 2
    funext q
    rw [cdv_cons]
    unfold updV
    by_cases hq : q = j.toNat
    · rw [if_pos hq, if_pos hq.symm]
      show Value.ref (G.2.1 + v) = Value.ref (ad G v)
      unfold ad
      rw [if_pos hv6]
    · rw [if_neg hq, if_neg (fun y => hq y.symm)]
  rcases ha with rfl | rfl
  · rw [if_pos rfl] at hv
    exact fin 5 3 _ (by omega) rfl rfl hv
  · rw [if_neg (by decide)] at hv
    exact fin 6 4 _ (by omega) rfl rfl hv
end CONS2

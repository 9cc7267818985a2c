/-! the constructors: one that makes its cells behind all others, wherever they begin -/
def shG (G : GG) (k : Nat) : GG := (G.1, G.2.1 + k, G.2.2)
def shV (b : Nat) : VV → VV
  | .inr (.inl (some i)) => .inr (.inl (some (b + i)))
  | v => v
def shD (b : Nat) (c : CD) : CD := (c.1, c.2.1, c.2.2.map (fun q => (q.1, shV b q.2)))
def okV (n : Nat) : VV → Bool
  | .inr (.inl (some i)) => decide (i < n)
  | _ => true
def okD (n : Nat) (c : CD) : Bool := c.2.2.all (fun q => okV n q.2)
def frC (ci : Nat) (B : List CD) : FC := fun as E => match as with
  | [.inr (.inl (some b))] => match E[b]? with
    | some (ci', 0, []) => if ci' = ci ∧ b + 1 = E.length ∧ b + B.length ≤ 593 then some (E.take b ++ B.map (shD b)) else none
    | _ => none
  | _ => none
theorem shEX {G : GG} {SX : MM} {U : State} {H : Heap} {k : Nat} (h : EX G SX U H) : EX (shG G k) SX U H := by
  obtain ⟨⟨cf, kf, fi, f, a, cell, h1, h2, h3, h4, h5, h6, h7, h8⟩, h9⟩ := h
  refine ⟨⟨cf, kf, fi, f, a, cell, h1, h2, h3, h4, h5, h6, h7, fun q => h8 (Nat.le_trans (Nat.le_add_right _ _) q)⟩, fun i hi => ?_⟩
  obtain ⟨g1, g2, cell, a1, a2, a3, a4, a5, a6, a7⟩ := h9 i hi
  exact ⟨g1, g2, cell, a1, a2, a3, a4, a5, a6, fun q => a7 (Nat.le_trans (Nat.le_add_right _ _) q)⟩
theorem cdv_sh {k j b : Nat} {l : List (Nat × VV)} : cdv k (l.map (fun q => (q.1, shV b q.2))) j = shV b (cdv k l j) := by
  induction l with
  | nil =>
    show cdd k j = shV b (cdd k j)
    unfold cdd
    split
    · split <;> rfl
    · split <;> rfl
  | cons a l ih =>
    rw [List.map_cons, cdv_cons, show cdv k (a :: l) j = if a.1 = j then a.2 else cdv k l j from cdv_cons]
    split
    · rfl
    · exact ih
theorem cdv_ok {k j n : Nat} {l : List (Nat × VV)} (h : l.all (fun q => okV n q.2) = true) : okV n (cdv k l j) = true := by
  induction l with
  | nil =>
    show okV n (cdd k j) = true
    unfold cdd
    split
    · split <;> rfl
    · split <;> rfl
  | cons a l ih =>
    rw [List.all_cons, Bool.and_eq_true] at h
    rw [show cdv k (a :: l) j = if a.1 = j then a.2 else cdv k l j from cdv_cons]
    split
    · exact h.1
    · exact ih h.2
theorem ad_sh {G : GG} {b n i : Nat} (h : i < n) (hb : b + n ≤ 593) : ad G (b + i) = ad (shG G b) i := by
  unfold ad
  rw [if_pos (by omega), if_pos (by omega)]
  show G.2.1 + (b + i) = G.2.1 + b + i
  omega
theorem cv_sh {G : GG} {b n : Nat} {v : VV} (h : okV n v = true) (hb : b + n ≤ 593) : cv G (shV b v) = cv (shG G b) v := by
  rcases v with z | (_ | i) | u
  · rfl
  · rfl
  · show Value.ref (ad G (b + i)) = .ref (ad (shG G b) i)
    rw [ad_sh (of_decide_eq_true h) hb]
  · rfl
theorem vrf_sh {G : GG} {b n : Nat} {v : VV} (h : okV n v = true) (hb : b + n ≤ 593) : vrf G (shV b v) = vrf (shG G b) v := by
  rcases v with z | (_ | i) | u
  · rfl
  · rfl
  · show some (ad G (b + i)) = some (ad (shG G b) i)
    rw [ad_sh (of_decide_eq_true h) hb]
  · rfl
theorem vi32_sh {b : Nat} {v : VV} : vi32 (shV b v) = vi32 v := by
  rcases v with z | (_ | i) | u <;> rfl
theorem en_sh {G : GG} {b n : Nat} {c : CD} (h : okD n c = true) (hb : b + n ≤ 593) : en G (shD b c) = en (shG G b) c := by
  obtain ⟨k, n0, l0⟩ := c
  have e1 : shD b (k, n0, l0) = (k, n0, l0.map (fun q => (q.1, shV b q.2))) := rfl
  rw [e1]
  unfold en
  by_cases h1 : k < 10
  · rw [if_pos h1, if_pos h1]
    have hf : (fun j => cv G (cdv k (l0.map (fun q => (q.1, shV b q.2))) j)) = (fun j => cv (shG G b) (cdv k l0 j)) := by
      funext j
      rw [cdv_sh]
      exact cv_sh (cdv_ok h) hb
    show (Sum.inr (k, (List.range (nfl k)).map (fun j => cv G (cdv k (l0.map (fun q => (q.1, shV b q.2))) j))) : va_E) = .inr (k, (List.range (nfl k)).map (fun j => cv (shG G b) (cdv k l0 j)))
    rw [hf]
  · rw [if_neg h1, if_neg h1]
    by_cases h2 : k < 13
    · rw [if_pos h2, if_pos h2]
      have hf : (fun j => vi32 (cdv k (l0.map (fun q => (q.1, shV b q.2))) j)) = (fun j => vi32 (cdv k l0 j)) := by
        funext j
        rw [cdv_sh, vi32_sh]
      show (Sum.inl (G.2.2.1 k, (n0, .inl (fun j => vi32 (cdv k (l0.map (fun q => (q.1, shV b q.2))) j)))) : va_E) = .inl (G.2.2.1 k, (n0, .inl (fun j => vi32 (cdv k l0 j))))
      rw [hf]
    · rw [if_neg h2, if_neg h2]
      have hf : (fun j => vrf G (cdv k (l0.map (fun q => (q.1, shV b q.2))) j)) = (fun j => vrf (shG G b) (cdv k l0 j)) := by
        funext j
        rw [cdv_sh]
        exact vrf_sh (cdv_ok h) hb
      show (Sum.inl (G.2.2.1 k, (n0, .inr (.inr (.inr (.inr (fun j => vrf G (cdv k (l0.map (fun q => (q.1, shV b q.2))) j))))))) : va_E) = .inl (G.2.2.1 k, (n0, .inr (.inr (.inr (.inr (fun j => vrf (shG G b) (cdv k l0 j)))))))
      rw [hf]
section CONS5
variable {p : Program} {l : Launch} {e : Env} {R : Room} {s : State} {m : MethodId} {args : Array Value} {below : List Frame} {meth : Method} {c : Code} {cells slots : Nat} {Q : State → Prop} {G : GG} {SX : MM} {nL : Nat} {own : String} {X : XC}
variable {pc : Nat} {L : List (Option VV)} {st : List VV} {E : List CD}
theorem GW.toFR {H : Heap} {locs : List Loc} {ci b : Nat} (h : GW G SX s E H locs) (hN : NW s) (hA : AOs s) (hc : E[b]? = some (ci, 0, [])) (hl : b + 1 = E.length) (h6 : b + 1 ≤ 593) {U : State} (hU : U.heap = H) (hW : s.WarmedH U.vm) : WC (shG G b) SX [(ci, 0, [])] U := by
  obtain ⟨hK, hP, hS, hE, hz⟩ := h
  refine ⟨va_K.moved hW.alike hK, ?_, ?_, NW_warm hW hN, hA.moved hW.alike, ?_, ?_⟩
  · rw [hU]
    intro k q hk
    rw [wsE_at] at hk
    rcases k with _ | k
    · cases hk
      have h1 := hP b (G.2.1 + b, en G (ci, 0, [])) (by rw [wsE_at, hc]; rfl)
      have h2 : en G (ci, 0, []) = en (shG G b) (ci, 0, []) := en_sh (G := G) (b := b) (n := 1) (c := (ci, 0, [])) rfl h6
      rw [h2] at h1
      exact h1
    · cases hk
  · rw [hU]
    exact shEX (EX_kept (EX_moved hW.alike hE) hS.2.1)
  · rw [hU, hz]
    show _ = G.2.1 + b + 1
    omega
  · rw [hU, hz]
    show G.2.1 + b ≤ _
    omega
theorem va_callP {H : Heap} {locs : List Loc} {ls : Array Slot} {rest st0 : List Value} {a : Array Value} {B : List CD} {b mc ms : Nat} (hr : va_Run p l e R s m args below meth c H locs cells slots mc ms (F0 m pc ls st0) rest (QGC (shG G b) SX B a) (fun q => G.2.1 + b ≤ q)) (hw : GW G SX s E H locs) (hb : G.2.1 ≤ s.heap.size) (hbE : b ≤ E.length) (h6 : b + B.length ≤ 593) (hok : B.all (okD B.length) = true)
    (kk : ∀ (H1 : Heap) (locs1 : List Loc), GW G SX s (E.take b ++ B.map (shD b)) H1 locs1 → W p l e R s m args below meth c H1 locs1 (cells + mc) (slots + ms) Q (F0 m (pc + 3) ls rest)) : W p l e R s m args below meth c H locs cells slots Q (F0 m pc ls st0) := by
  intro T hT X
  obtain ⟨v, st₀, t, T', L, h0, X', hL, e1, e2, ⟨hv, ⟨hK, hP, hE, hN, hA, hz2, hbt⟩, hz, hk⟩, st⟩ := hr T hT X
  cases hv
  rw [h0] at hz hk
  obtain ⟨hK0, hP0, hS, hE0, hz0⟩ := hw
  have hbt : G.2.1 + b ≤ t.heap.size := hbt
  have hz2 : t.heap.size = G.2.1 + b + B.length := hz2
  have hS' : va_S (fun q => G.2.1 ≤ q) s.heap T'.heap (locs ++ L) := ⟨Nat.le_trans hS.1 (by rw [e1]; exact hz), fun q h1 h2 => by
      rw [e1, hk q (Nat.lt_of_lt_of_le h1 hS.1) (fun w => h2 (Nat.le_trans (Nat.le_add_right _ _) w))]
      exact hS.2.1 q h1 h2, fun q hq => by
      rcases List.mem_append.mp hq with h | h
      · exact hS.2.2 q h
      · exact Nat.le_trans (Nat.le_add_right _ _) (hL q h)⟩
  have htl : (E.take b).length = b := by rw [List.length_take]; omega
  have hPn : va_P G.1 vwCl (wsE G (E.take b ++ B.map (shD b))) T'.heap := by
    rw [e1]
    intro k q hkq
    rw [wsE_at] at hkq
    by_cases h : k < b
    · rw [List.getElem?_append_left (by omega), List.getElem?_take, if_pos h] at hkq
      have h1 : (wsE G E)[k]? = some q := by rw [wsE_at]; exact hkq
      have h2 := hP0 k q h1
      have h3 : q.1 = G.2.1 + k := by
        cases hc : E[k]? with
        | none => rw [hc] at hkq; cases hkq
        | some z => rw [hc] at hkq; cases hkq; rfl
      exact h2.kept (hk q.1 h2.lt (by show ¬ G.2.1 + b ≤ q.1; omega))
    · rw [List.getElem?_append_right (by omega), htl, List.getElem?_map] at hkq
      cases hc : B[k - b]? with
      | none => rw [hc] at hkq; cases hkq
      | some z =>
        rw [hc] at hkq
        have hz1 : okD B.length z = true := List.all_eq_true.mp hok z (List.mem_of_getElem? hc)
        have h1 := hP (k - b) ((shG G b).2.1 + (k - b), en (shG G b) z) (by rw [wsE_at, hc]; rfl)
        rw [← en_sh hz1 h6] at h1
        cases hkq
        show va_at G.1 vwCl (G.2.1 + k, en G (shD b z)) _
        have e9 : (shG G b).2.1 + (k - b) = G.2.1 + k := by
          show G.2.1 + b + (k - b) = _
          omega
        rw [e9] at h1
        exact h1
  obtain ⟨t2, a1, b1⟩ := kk T'.heap (locs ++ L) ⟨hK0, hPn, hS', hE0, by rw [e1, hz2, List.length_append, htl, List.length_map]; omega⟩ T' rfl X'
  exact ⟨t2, st t2 a1, b1⟩
theorem callC_F {y : MethodName} {bytes : ByteArray} {maxL idx mc ms ci : Nat} {rm : Room} {f : FC} {B : List CD} (hC : ConC y bytes maxL rm f) (hB : f [vR 0] [(ci, 0, [])] = some B) (hok : B.all (okD B.length) = true) (hB1 : 1 ≤ B.length) (hc : Cond.code y bytes maxL none ∈ lw_g) (hw : ∀ w ∈ [Cond.instanceMethod y, .initialized y.cls], w ∈ lw_g) (hn : Cond.methodLinkNest own idx y "LeapStones" ∈ nws) (hy1 : y.name = "<init>")
    (hd : y.cls ≠ "java/lang/invoke/MethodHandle" ∧ y.cls ≠ "java/lang/invoke/VarHandle" ∧ (parseMethodDescriptor y.desc).map (fun d => d.parameters.length) = some 0) (hrm : rm.cells = mc ∧ rm.slots = ms) (hR : rm.frames + 1 ≤ R.frames ∧ 8 + (maxL + 11) + rm.locals ≤ R.locals) : Call1C own X nL R idx 0 mc ms (frC ci B) := by
  intro p l e s m args below meth c Q G SX C pc L as b rest E E' cells slots hdec hlen hrest hb6 hf h1 h2 k H locs ls hww hl
  have k := fun H1 locs1 h => k H1 locs1 ls h hl
  have hww : GW G SX s E H locs := hww
  obtain rfl : as = [] := List.length_eq_zero_iff.mp hlen
  obtain ⟨C1, C2, C3, C4, C5, C6, C7, C8, C9⟩ := C
  simp only [frC] at hf
  split at hf
  next ci' hi =>
    split at hf
    next h3 =>
      obtain ⟨g1, g2, g3⟩ := h3
      subst g1
      cases hf
      have hst : (([] : List VV).reverse ++ vR b :: rest).map (cv G) = ([] : List Value).reverse ++ .ref (G.2.1 + b) :: rest.map (cv G) := by
        rw [List.reverse_nil, List.nil_append, List.map_cons, cvR hb6]
        rfl
      show W p l e R s m args below meth c H locs cells slots Q (F0 m pc ls ((([] : List VV).reverse ++ vR b :: rest).map (cv G)))
      rw [hst]
      have hM := hC l (shG G b) SX [vR 0] [(ci', 0, [])] B hB
      have hargs : [vR 0].map (cv (shG G b)) = [.ref (G.2.1 + b)] := by rw [List.map_cons, cvR (by omega)]; rfl
      rw [hargs, hrm.1, hrm.2] at hM
      have hcw := va_cnB (s := s) (args := args) (R := R) (own := own) (index := idx) 0 C5 (good_g hc) rfl hrm.1 hrm.2 (C6 _ hn) (C5 _ (hw (.initialized y.cls) (by simp))) hd hR
      exact va_callP (E := E) (B := B) (b := b) (va_runIN (As := []) (rest := rest.map (cv G)) ⟨C1, C2, C3, C4, C5⟩ hM ⟨hcw, hy1, C5 _ (hw (.instanceMethod y) (by simp))⟩ ⟨blindC, fun U hU hW => ⟨rfl, hww.toFR C6 C7 hi g2 (by omega) hU hW⟩⟩ rfl rfl hl.1.1 rfl (lv_room (rest_le hrest)) hdec ⟨h1, h2⟩) hww C9 (by omega) g3 hok k
    next => cases hf
  next => cases hf
end CONS5

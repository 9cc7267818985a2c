/-! the law's flood: a row of three places made first -/
set_option maxRecDepth 100000 in
theorem arr5 : Cond.arrayClass .int ∈ lw_g := lw_gm 56 (by decide +kernel) (by decide +kernel)
def S5 (S : MM) : MM := fun i j => if i = 606 then 0 else if i = 604 ∧ j = 3 then 3 else if i = 604 ∧ j = 4 then S 604 4 + 1 else S i j
def S5b (S : MM) : MM := fun i j => if i = 604 ∧ j = 3 then 0 else S i j
theorem S5_row {S : MM} {i : Nat} (h : i ≠ 604) (h2 : i ≠ 606) : S5 S i = S i := by
  funext j
  unfold S5
  rw [if_neg h2, if_neg (fun q => h q.1), if_neg (fun q => h q.1)]
theorem S5b_row {S : MM} {i : Nat} (h : i ≠ 604) : S5b S i = S i := by
  funext j
  unfold S5b
  rw [if_neg (fun q => h q.1)]
theorem S5_n {S : MM} {j : Nat} (h : j < 3) : S5 S 604 j = S 604 j := by
  unfold S5
  rw [if_neg (by decide), if_neg (by omega), if_neg (by omega)]
theorem S5_3 {S : MM} : S5 S 604 3 = 3 := rfl
theorem S5_4 {S : MM} : S5 S 604 4 = S 604 4 + 1 := rfl
theorem S5b_3 {S : MM} : S5b S 604 3 = 0 := rfl
theorem S5b_n {S : MM} {j : Nat} (h : j ≠ 3) : S5b S 604 j = S 604 j := by
  unfold S5b
  rw [if_neg (by omega)]
noncomputable def fL_flood : FN := fun as S => match as with
  | [.inr (.inl (some 0)), .inl a, .inl b, .inl c] => (match rn xL_flood (5, [some (vR 0), some (vI a), some (vI b), some (vI c), some (vR 606), none, none, none, none, none, none, none, none], [], S5 S) with
    | some q => @ite _ (S 604 3 = 0 ∧ q.2 604 = S5 S 604) (Classical.propDecidable _) (some (q.1, S5b q.2)) none
    | none => none)
  | _ => none
theorem flood_inv {as : List VV} {S : MM} {r : RR} (h : fL_flood as S = some r) : ∃ (a b c : Int) (q : RR), as = [vR 0, vI a, vI b, vI c] ∧ rn xL_flood (5, [some (vR 0), some (vI a), some (vI b), some (vI c), some (vR 606), none, none, none, none, none, none, none, none], [], S5 S) = some q ∧ S 604 3 = 0 ∧ q.2 604 = S5 S 604 ∧ r = (q.1, S5b q.2) := by
  unfold fL_flood at h
  split at h
  next a b c =>
    split at h
    next q hq =>
      by_cases h4 : S 604 3 = 0 ∧ q.2 604 = S5 S 604
      · rw [if_pos h4] at h
        cases h
        exact ⟨a, b, c, q, rfl, hq, h4.1, h4.2, rfl⟩
      · rw [if_neg h4] at h
        cases h
    next => cases h
  next => cases h
theorem flood_of {a b c : Int} {S : MM} {q : RR} (h : rn xL_flood (5, [some (vR 0), some (vI a), some (vI b), some (vI c), some (vR 606), none, none, none, none, none, none, none, none], [], S5 S) = some q) (h3 : S 604 3 = 0) (h4 : q.2 604 = S5 S 604) : fL_flood [vR 0, vI a, vI b, vI c] S = some (q.1, S5b q.2) := by
  show (match rn xL_flood (5, [some (vR 0), some (vI a), some (vI b), some (vI c), some (vR 606), none, none, none, none, none, none, none, none], [], S5 S) with
    | some q => @ite _ (S 604 3 = 0 ∧ q.2 604 = S5 S 604) (Classical.propDecidable _) (some (q.1, S5b q.2)) none
    | none => none) = _
  rw [h]
  exact if_pos ⟨h3, h4⟩
theorem flood_4 {as : List VV} {S : MM} {r : RR} (h : fL_flood as S = some r) : r.2 604 4 = S 604 4 + 1 := by
  obtain ⟨a, b, c, q, -, -, -, h4, rfl⟩ := flood_inv h
  show S5b q.2 604 4 = _
  rw [S5b_n (by decide), h4, S5_4]
theorem monoL_flood : Mono fL_flood := fun as S r h => by rw [flood_4 h]; omega
set_option maxRecDepth 100000 in
theorem fr6 : (List.range 593).all (fun i => (!(decide (kd i < 10)) || (List.range (nfl (kd i))).all (fun k => fref i k != 606)) && (!(decide (13 ≤ kd i)) || (kd i == 13 && i % 2 == 1) || (kd i == 14))) = true := by decide +kernel
theorem fr_o {i k : Nat} (hi : i < 593) (h : kd i < 10) (hk : k < nfl (kd i)) : fref i k ≠ 606 := by
  have h1 := List.all_eq_true.mp fr6 i (List.mem_range.mpr hi)
  rw [Bool.and_eq_true] at h1
  have h2 := h1.1
  have e : decide (kd i < 10) = true := by simpa using h
  rw [e, Bool.not_true, Bool.false_or] at h2
  have h3 := List.all_eq_true.mp h2 k (List.mem_range.mpr hk)
  simpa using h3
theorem fr_a {i k : Nat} (hi : i < 593) (h : 13 ≤ kd i) : fref i k ≠ 606 := by
  have h1 := List.all_eq_true.mp fr6 i (List.mem_range.mpr hi)
  rw [Bool.and_eq_true] at h1
  have h2 := h1.2
  have e : decide (13 ≤ kd i) = true := by simpa using h
  rw [e] at h2
  simp only [Bool.not_true, Bool.false_or, Bool.or_eq_true, Bool.and_eq_true, beq_iff_eq] at h2
  rcases h2 with ⟨h3, h4⟩ | h3
  · rw [fref13 h3]
    omega
  · simp only [fref, h3]
    split <;> omega
/-- a world with the row of three, or another one -/
abbrev G6 (G : GG) (d : Nat) : GG := (G.1, G.2.1, G.2.2.1, fun i => if i = 4 then d else G.2.2.2 i)
section FLD
variable {p : Program} {l : Launch} {e : Env} {R : Room} {s : State} {m : MethodId} {args : Array Value} {below : List Frame} {meth : Method} {c : Code} {cells slots : Nat} {Q : State → Prop} {G : GG} {d : Nat}
variable {S : MM}
theorem ad6 {x : Nat} (h : x ≠ 606) : ad (G6 G d) x = ad G x := by
  unfold ad
  by_cases h1 : x < 593
  · rw [if_pos h1, if_pos h1]
  · rw [if_neg h1, if_neg h1, if_neg h, if_neg h]
    have hy : x - 602 ≠ 4 := by omega
    generalize x - 602 = y at hy ⊢
    exact if_neg hy
theorem ent6 {S S' : MM} {i : Nat} (hi : i < 593) (hr : S' i = S i) : ent (G6 G d) S' i = ent G S i := by
  rw [← ent_row (G := G6 G d) hr]
  unfold ent
  by_cases h1 : kd i < 10
  · rw [if_pos h1, if_pos h1]
    refine congrArg (fun t => (Sum.inr (kd i, t) : va_E)) (List.map_congr_left (fun k hk => ?_))
    unfold fent
    rw [ad6 (fr_o hi h1 (List.mem_range.mp hk))]
  · rw [if_neg h1, if_neg h1]
    by_cases h2 : kd i < 13
    · rw [if_pos h2, if_pos h2]
    · rw [if_neg h2, if_neg h2]
      have e : (fun j => some (ad (G6 G d) (fref i j))) = (fun j => some (ad G (fref i j))) := by
        funext j
        rw [ad6 (fr_a hi (by omega))]
      rw [e]
theorem cells6 {S S' : MM} (hr : ∀ i, i < 593 → S' i = S i) : (List.range 593).map (fun i => ((G6 G d).2.1 + i, ent (G6 G d) S' i)) = (List.range 593).map (fun i => (G.2.1 + i, ent G S i)) := by
  apply List.map_congr_left
  intro i hi
  have hi := List.mem_range.mp hi
  rw [ent6 hi (hr i hi)]
theorem wl_n (h : S 604 3 = 0) : wl G S = (List.range 593).map (fun i => (G.2.1 + i, ent G S i)) := by
  unfold wl ex5
  rw [if_neg (by omega), List.append_nil]
theorem wl6 (h : S 604 3 = 0) : wl (G6 G d) (S5 S) = wl G S ++ [(G.2.1 + 593 + d, en5 (G6 G d) (S5 S))] := by
  rw [wl_n h]
  unfold wl ex5
  rw [if_pos S5_3, cells6 (fun i hi => S5_row (by omega) (by omega))]
  rfl
theorem EX6 {u : State} {H : Heap} (h : EX G S u H) : EX (G6 G d) (S5 S) u H := by
  refine ⟨h.1, fun i hi => ?_⟩
  have h2 := h.2 i hi
  rw [S5_n (by omega), S5_row (by omega) (by omega)]
  have e : (G6 G d).2.2.2 i = G.2.2.2 i := if_neg (by omega)
  rw [e]
  exact h2
theorem EX6b {u : State} {H : Heap} (h : EX (G6 G d) S u H) : EX G (S5b S) u H := by
  refine ⟨h.1, fun i hi => ?_⟩
  have h2 := h.2 i hi
  have e : (G6 G d).2.2.2 i = G.2.2.2 i := if_neg (by omega)
  rw [e] at h2
  rw [S5b_n (by omega), S5b_row (by omega)]
  exact h2
theorem WU6 {U : State} (h : WU (G6 G d) S U) : WU G (S5b S) U := by
  obtain ⟨hK, hP, hE, hN, hb⟩ := h
  refine ⟨hK, ?_, EX6b hE, hN, hb⟩
  rw [wl_n S5b_3]
  intro k q hk
  have hk5 : k < 593 := by
    have := (List.getElem?_eq_some_iff.mp hk).1
    rwa [wl_l] at this
  refine hP k q ?_
  unfold wl
  rw [List.getElem?_append_left (by rw [wl_l]; exact hk5), cells6 (S := S5b S) (fun i hi => (S5b_row (by omega)).symm)]
  exact hk
end FLD
set_option maxRecDepth 100000 in
set_option maxHeartbeats 1000000 in
theorem conGL_flood : ConG yL_flood cL_flood 13 (some .boolean) 8 181 fL_flood := by
  intro l G as S r hf
  have h4 := flood_4 hf
  obtain ⟨a0, b0, c0, q, rfl, hq, h3, hq4, rfl⟩ := flood_inv hf
  have hd : dl S (S5b q.2) = 1 := by
    have h4 : S5b q.2 604 4 = S 604 4 + 1 := h4
    unfold dl
    omega
  show Met l yL_flood (.code yL_flood cL_flood 13 (some .boolean) :: lw_g) (rmG 8 181 (dl S (S5b q.2))) _ _ (dl S (S5b q.2)) (3 * dl S (S5b q.2)) _
  rw [hd]
  show Met l yL_flood (.code yL_flood cL_flood 13 (some .boolean) :: lw_g) (rmG 8 181 1) _ _ 1 3 _
  obtain ⟨n, hn⟩ := (rn_iff _ _ _).mp hq
  refine Met.ofW (cc := cL_flood) (maxL := 13) (ret := some .boolean) (by decide) rfl ?_
  intro p e s m args below meth c s₁ B hml hv
  obtain ⟨rfl, hK, hP, hE, hN, hb⟩ := hv
  have hts := atoms_spec (ws := Cond.code yL_flood cL_flood 13 (some .boolean) :: lw_g) B.pre
  have ho : s.vm.findClass "LeapStonesLaw" = some m.cls := findClass_of_methodNamed B.named
  have C : CTX p s m ([vR 0, vI a0, vI b0, vI c0].map (cv G)).toArray c "LeapStonesLaw" xL_flood 13 := ⟨B.exec, B.bytes, hml, ho, fun w hw => hts w (List.mem_cons_of_mem _ hw), hN⟩
  have hlocks := B.notSynchronized
  have hr := B.returns
  rw [lg_entry_eq]
  have k0 : KK p l e (rmG 8 181 1) s m ([vR 0, vI a0, vI b0, vI c0].map (cv G)).toArray below meth c 0 0 (MQ below (QG G (q.1, S5b q.2)) ([vR 0, vI a0, vI b0, vI c0].map (cv G)).toArray s 1 3 (fun q => G.2.1 ≤ q)) G 13 (0, [some (vR 0), some (vI a0), some (vI b0), some (vI c0), none, none, none, none, none, none, none, none, none], [], S) := by
    refine r_iconst C dL_flood_0 ?_
    intro H locs ls hw hl
    have hw : WW G s S H locs := hw
    have hl : LV G ls 13 [some (vR 0), some (vI a0), some (vI b0), some (vI c0), none, none, none, none, none, none, none, none, none] := hl
    have hsz : G.2.1 + 593 ≤ H.size := by
      have h1 := (hw.2.1 592 _ (wl_at G S (by decide))).lt
      have h2 : ad G 592 = G.2.1 + 592 := by unfold ad; rw [if_pos (by decide)]
      have h3 : ad G 592 < H.size := h1
      omega
    refine va_newaK (atype := .int) C.1 C.2.1 (C.2.2.2.2.1 _ arr5) rfl dL_flood_1 rfl (by decide) (N := 3) (by decide) (by decide) (by decide) (by decide) (h := H.size) rfl (fun H1 cA q1 z1 o1 hAr hNm => ?_)
    have hcA : cA = G.2.2.1 10 := Option.some.inj (hNm.symm.trans (hw.1.2 0 _ rfl).2)
    have ha : ad (G6 G (H.size - G.2.1 - 593)) 606 = H.size := by
      unfold ad
      rw [if_neg (by decide), if_pos rfl]
      show G.2.1 + 593 + (if 4 = 4 then H.size - G.2.1 - 593 else G.2.2.2 4) = H.size
      rw [if_pos rfl]
      omega
    have hw1 : WW (G6 G (H.size - G.2.1 - 593)) s (S5 S) H1 locs := by
      refine ⟨hw.1, ?_, ⟨Nat.le_trans hw.2.2.1.1 (by rw [z1]; omega), fun x h1 h2 => (o1 x (Nat.lt_of_lt_of_le h1 hw.2.2.1.1)).trans (hw.2.2.1.2.1 x h1 h2), hw.2.2.1.2.2⟩, EX6 hw.2.2.2⟩
      rw [wl6 h3]
      refine (hw.2.1.kept (fun k x hx => o1 x.1 ((hw.2.1 k x hx).lt))).app (fun k x hx => ?_)
      have hz : k < 1 := (List.getElem?_eq_some_iff.mp hx).1
      rw [show k = 0 by omega] at hx
      cases hx
      show H1[G.2.1 + 593 + (H.size - G.2.1 - 593)]? = some (vp_cell (G.2.2.1 10) (3, .inl (fun j => Int32.ofInt (S5 S 606 j))))
      rw [show G.2.1 + 593 + (H.size - G.2.1 - 593) = H.size by omega, q1, hcA, vp_cell_i]
      rfl
    have hl1 : LV (G6 G (H.size - G.2.1 - 593)) ls 13 [some (vR 0), some (vI a0), some (vI b0), some (vI c0), none, none, none, none, none, none, none, none, none] := hl
    obtain ⟨hV, hSt⟩ := mcF_all (p := p) (l := l) (e := e) (below := below) (meth := meth) (Q := MQ below (QG G (q.1, S5b q.2)) ([vR 0, vI a0, vI b0, vI c0].map (cv G)).toArray s 1 3 (fun q => G.2.1 ≤ q)) (G := G6 G (H.size - G.2.1 - 593)) (X := xL_flood) rfl callsL_flood C hb
    have k1 : KK p l e (rmG 8 181 1) s m ([vR 0, vI a0, vI b0, vI c0].map (cv G)).toArray below meth c 1 3 (MQ below (QG G (q.1, S5b q.2)) ([vR 0, vI a0, vI b0, vI c0].map (cv G)).toArray s 1 3 (fun q => G.2.1 ≤ q)) (G6 G (H.size - G.2.1 - 593)) 13 (3, [some (vR 0), some (vI a0), some (vI b0), some (vI c0), none, none, none, none, none, none, none, none, none], [vR 606], S5 S) := by
      refine r_astore C dL_flood_3 (by show 4 < 13; omega) rfl ?_
      refine ev_sound C FOKL hV hSt (r := q) ?_ n _ hn
      intro pc L st hret H2 locs2 ls2 hw2 hl2
      have hw2 : WW (G6 G (H.size - G.2.1 - 593)) s q.2 H2 locs2 := hw2
      have hfin : ∀ t : State, t.heap = H2 → s.WarmedH t.vm → QG G (q.1, S5b q.2) ([vR 0, vI a0, vI b0, vI c0].map (cv G)).toArray s (.returned (q.1.map (cv G))) t := fun t ht hW => ⟨rfl, WU6 (hw2.toWU hN hb ht hW), hw2.2.2.1.F ht⟩
      have hfr : ∀ x ∈ locs2, (fun q => G.2.1 ≤ q) x.base := hw2.2.2.1.2.2
      rcases hret with ⟨hdg, z, e1, e2, h1, h2⟩ | ⟨hdg, h1, z, e1, e2⟩ | ⟨hdg, h1, e1, e2⟩ | ⟨hdg, h1, z, e1, e2⟩
      · have e3 : q.1.map (cv G) = some (.int (Int32.ofInt z)) := by rw [e2]; rfl
        rw [e3] at hfin
        rw [e1]
        have := (fit_ok (k := 1) h2).1
        exact W.zret (ty := .boolean) C.1 C.2.1 hr this hfin hfr hdg
      · cases h1
      · cases h1
      · cases h1
    have k2 := k1 H1 locs ls hw1 hl1
    have e6 : ([vR 606].map (cv (G6 G (H.size - G.2.1 - 593)))) = [Value.ref H.size] := by
      show [Value.ref (ad (G6 G (H.size - G.2.1 - 593)) 606)] = _
      rw [ha]
    dsimp only at k2
    rw [e6] at k2
    exact k2
  exact k0 s.heap [] _ ⟨hK, hP, va_S.rf, hE⟩ (LV_entry (as := [vR 0, vI a0, vI b0, vI c0]) (n := 13) (by show 4 ≤ 13; omega))

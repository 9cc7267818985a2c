/-! the start: what the law finds -/
theorem instW {ci : Nat} (h : ci < 10) : Cond.instantiable (cname ci) (nfl ci) ∈ lw_g := by
  rcases (show ci = 0 ∨ ci = 1 ∨ ci = 2 ∨ ci = 3 ∨ ci = 4 ∨ ci = 5 ∨ ci = 6 ∨ ci = 7 ∨ ci = 8 ∨ ci = 9 by omega) with rfl | rfl | rfl | rfl | rfl | rfl | rfl | rfl | rfl | rfl
  · exact lw_gm 122 (by decide +kernel) (by decide +kernel)
  · exact lw_gm 90 (by decide +kernel) (by decide +kernel)
  · exact lw_gm 185 (by decide +kernel) (by decide +kernel)
  · exact lw_gm 64 (by decide +kernel) (by decide +kernel)
  · exact lw_gm 98 (by decide +kernel) (by decide +kernel)
  · exact lw_gm 58 (by decide +kernel) (by decide +kernel)
  · exact lw_gm 41 (by decide +kernel) (by decide +kernel)
  · exact lw_gm 47 (by decide +kernel) (by decide +kernel)
  · exact lw_gm 33 (by decide +kernel) (by decide +kernel)
  · exact lw_gm 33 (by decide +kernel) (by decide +kernel)
theorem overW : Cond.arrayOver (.object RX5) ∈ lw_tbl ∧ Cond.arrayOver (.object RX6) ∈ lw_tbl := ⟨List.mem_of_getElem? (i := 96) (by decide +kernel), List.mem_of_getElem? (i := 181) (by decide +kernel)⟩
section START3
variable {s : State} {args : Array Value} {L b : Nat} {xs : Nat → Int32}
theorem arrP {ty : FieldType} (h : (Cond.arrayClass ty).before args s = true) : ∃ c : ClassId, ArrOfT s c ty ∧ s.vm.findClass ("[" ++ ty.toString) = some c := by
  obtain ⟨c, k, comp, h1, h2, h3⟩ := Cond.arrayClass_spec h
  exact ⟨c, fun n z => ⟨(fun k h => by cases h), k, h2, comp, h3⟩, h1⟩
theorem arrO {C : String} (h : (Cond.arrayOver (.object C)).before args s = true) : ∃ c : ClassId, ArrOfT s c (.object C) ∧ va_RA s c (.object C) := by
  obtain ⟨comp, c, k, a1, a2, a3, a4, a5⟩ := Cond.arrayOver_spec h
  exact ⟨c, fun n z => ⟨(fun k h => by cases h), k, a3, comp, a4⟩, k, comp, a3, a4, a1, a5⟩
theorem start_K (hts : ∀ w ∈ lw_tbl, w.before args s = true) (hg : ∀ w ∈ lw_g, w.before args s = true) : ∃ (D : va_G) (ty : Nat → ClassId), ∀ (b : Nat) (o : Nat → Nat), va_K D vwCl (tysG (D, b, ty, o)) s := by
  have key : ∀ ci : Nat, ∃ (c : ClassId) (i : Nat → Nat), ∀ q : vw_C, vwCl[ci]? = some q → u_Kn s q.1 q.2.1 q.2.2 c i := by
    intro ci
    by_cases h : ci < 10
    · obtain ⟨e1, e2⟩ := vwCl_at h
      obtain ⟨c, i, hk⟩ := u_known hg (vwCl_in h) (hg _ (instW h))
      refine ⟨c, i, fun q hq => ?_⟩
      rw [e1] at hq
      cases hq
      exact hk
    · refine ⟨0, fun _ => 0, fun q hq => ?_⟩
      rw [List.getElem?_eq_none (by show 10 ≤ ci; omega)] at hq
      cases hq
  obtain ⟨c10, a1, a2⟩ := arrP (hg _ (arrW (.arrayClass .int) (by simp)))
  obtain ⟨c11, b1, b2⟩ := arrP (hg _ (arrW (.arrayClass .boolean) (by simp)))
  obtain ⟨c12, d1, d2⟩ := arrP (hg _ (arrW (.arrayClass .char) (by simp)))
  obtain ⟨c13, f1, f2⟩ := arrO (hts _ overW.1)
  obtain ⟨c14, g1, g2⟩ := arrO (hts _ overW.2)
  refine ⟨(fun k => Classical.choose (key k), fun k => Classical.choose (Classical.choose_spec (key k))), fun k => if k = 10 then c10 else if k = 11 then c11 else if k = 12 then c12 else if k = 13 then c13 else c14, fun b o => ⟨fun k q hq => Classical.choose_spec (Classical.choose_spec (key k)) q hq, fun k q hq => ?_⟩⟩
  match k, hq with
  | 0, hq => cases hq; exact ⟨a1, a2⟩
  | 1, hq => cases hq; exact ⟨b1, b2⟩
  | 2, hq => cases hq; exact ⟨d1, d2⟩
  | 3, hq => cases hq; exact ⟨f1, f2⟩
  | 4, hq => cases hq; exact ⟨g1, g2⟩
  | k + 5, hq => cases hq
theorem start_N (hts : ∀ w ∈ lw_tbl, w.before args s = true) : NW s := by
  intro w hw
  have h1 : some w ∈ nws.map some := List.mem_map.mpr ⟨w, hw, rfl⟩
  rw [← nws_in] at h1
  obtain ⟨i, -, hi⟩ := List.mem_map.mp h1
  have h2 := hts w (List.mem_of_getElem? hi)
  have h3 : nws.all (fun w => w.onTables) = true := by decide +kernel
  exact va_Nw.of (List.all_eq_true.mp h3 w hw) h2
theorem start_A (hts : ∀ w ∈ lw_tbl, w.before args s = true) : AOs s := ⟨va_AO.of (hts _ overW.1), va_AO.of (hts _ overW.2)⟩
end START3
section START4
variable {s : State} {L b : Nat} {xs : Nat → Int32}
set_option maxRecDepth 1000000 in
theorem turns (hgv : (Jvm.Cond.and given_1 narrow_1).before #[Value.ref b] s = true) : ∀ j : Nat, j < 18 → (Term.elem (.static "LeapStones" "TURNS" "[I") (.int (Int32.ofNat j))).eval #[Value.ref b] s none [] s = some (.int (Int32.ofInt (tv.getD j 0))) := by
  have hs := flat_of_before _ hgv
  intro j hj
  refine va_eqt ?_
  rcases (show j = 0 ∨ j = 1 ∨ j = 2 ∨ j = 3 ∨ j = 4 ∨ j = 5 ∨ j = 6 ∨ j = 7 ∨ j = 8 ∨ j = 9 ∨ j = 10 ∨ j = 11 ∨ j = 12 ∨ j = 13 ∨ j = 14 ∨ j = 15 ∨ j = 16 ∨ j = 17 by omega) with rfl | rfl | rfl | rfl | rfl | rfl | rfl | rfl | rfl | rfl | rfl | rfl | rfl | rfl | rfl | rfl | rfl | rfl <;> exact hs _ (by decide +kernel)
theorem start_E {D : va_G} {ty : Nat → ClassId} (hts : ∀ w ∈ lw_tbl, w.before #[Value.ref b] s = true) (hgv : (Jvm.Cond.and given_1 narrow_1).before #[Value.ref b] s = true) (hX : va_X b L xs s s.heap) (hbl : b < s.heap.size) (hL : L ≤ 260) : ∃ o : Nat → Nat, o 1 = b ∧ EX (D, s.heap.size, ty, o) (S0 L xs) s s.heap := by
  have hs := flat_of_before _ hgv
  have hA : ∀ a : Nat, a < s.heap.size → ¬ (fun q : Nat => s.heap.size ≤ q) a := fun a h => by show ¬ s.heap.size ≤ a; omega
  obtain ⟨t, ht, hT⟩ := va_Tof (A := fun q : Nat => s.heap.size ≤ q) (N := 18) (f := fun j => .int (Int32.ofInt (tv.getD j 0))) (by decide) (hs (.arrayOf (.static "LeapStones" "TURNS" "[I") .int) (by decide +kernel)) (va_eqt (hs (.eq (.length (.static "LeapStones" "TURNS" "[I")) (.int 18)) (by decide +kernel))) (turns hgv) hA
  have hZ := va_Zof (A := fun q : Nat => s.heap.size ≤ q) (hts (.laysStatic "LeapStones" "TURNS" "[I") (List.mem_of_getElem? (i := 593) (by decide +kernel))) (hts (.initialized "LeapStones") (List.mem_of_getElem? (i := 21) (by decide +kernel))) ht hA
  refine ⟨fun i => if i = 0 then t else b, rfl, hZ, fun i hi => ?_⟩
  rcases (show i = 0 ∨ i = 1 by omega) with rfl | rfl
  · have e0 : S0 L xs 604 0 = 18 := rfl
    refine ⟨by rw [e0]; decide, by rw [e0]; decide, ?_⟩
    exact hT
  · have e : S0 L xs 604 1 = (L : Int) := rfl
    refine ⟨by rw [e]; omega, by rw [e]; omega, ?_⟩
    rw [e, Int.toNat_natCast]
    obtain ⟨scr, h1, h2, h3, h4, h5⟩ := hX
    refine ⟨scr, h1, h2, h3, by omega, by rw [h4], fun j hj => ?_, hA b hbl⟩
    rw [h5 j hj]
    have e2 : S0 L xs (602 + 1) j = (xs j).toInt := rfl
    show some (Value.int (xs j)) = some (.int (Int32.ofInt (S0 L xs (602 + 1) j)))
    rw [e2, Int32.ofInt_toInt]
end START4

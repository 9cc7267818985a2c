/-! the start: the cells are the world's -/
theorem arrV_eq {cI : ClassId} {N : Nat} {f g : Nat → Value} (h : ∀ j, j < N → f j = g j) : arrV cI N f = arrV cI N g := by
  unfold arrV
  have e : (fun j : Fin N => f j.val) = (fun j : Fin N => g j.val) := funext fun j => h j.val j.isLt
  rw [e]
theorem cdv_la (j : Nat) : cdv 10 la j = vI (A0 j) := by
  unfold la
  rw [cdv_cons, cdv_cons, cdv_cons, cdv_cons]
  unfold A0
  by_cases h3 : 3 = j
  · subst h3; rfl
  · rw [if_neg h3]
    by_cases h2 : 2 = j
    · subst h2; rfl
    · rw [if_neg h2]
      by_cases h1 : 1 = j
      · subst h1; rfl
      · rw [if_neg h1]
        by_cases h0 : 0 = j
        · subst h0; rfl
        · rw [if_neg h0, if_neg (fun q => h1 q.symm), if_neg (fun q => h2 q.symm)]
          rfl
theorem cdv_lb (j : Nat) : cdv 10 lb j = vI (A0 j) := by
  unfold lb
  rw [cdv_cons, cdv_cons]
  unfold A0
  by_cases h2 : 2 = j
  · subst h2; rfl
  · rw [if_neg h2]
    by_cases h1 : 1 = j
    · subst h1; rfl
    · rw [if_neg h1]
      rw [if_neg (fun q => h1 q.symm), if_neg (fun q => h2 q.symm)]
      rfl
section START2
variable {L : Nat} {xs : Nat → Int32} {G : GG} {s : State} {H : Heap} {locs : List Loc}
theorem EL_at {k : Nat} (h : k < 593) : ∃ c, EL[k]? = some c ∧ chk k c = true := by
  have h1 := List.all_eq_true.mp ELck k (List.mem_range.mpr h)
  cases hc : EL[k]? with
  | none => rw [hc] at h1; cases h1
  | some c => rw [hc] at h1; exact ⟨c, rfl, h1⟩
theorem en_ent {k : Nat} (h : k < 593) {c : CD} (hc : chk k c = true) (hat : va_at G.1 vwCl (G.2.1 + k, en G c) H) : va_at G.1 vwCl (G.2.1 + k, ent G (S0 L xs) k) H := by
  obtain ⟨ci, n, l⟩ := c
  unfold chk at hc
  rw [Bool.and_eq_true] at hc
  obtain ⟨c1, c2⟩ := hc
  have c1 : ci = kd k := by simpa using c1
  subst c1
  unfold en at hat
  unfold ent
  by_cases h1 : kd k < 10
  · rw [if_pos (show (kd k, n, l).1 < 10 from h1)] at c2 hat
    rw [if_pos h1]
    have e : (List.range (nfl (kd k))).map (fun j => cv G (cdv (kd k) l j)) = (List.range (nfl (kd k))).map (fent G (S0 L xs) k) := by
      apply List.map_congr_left
      intro j hj
      have h2 := of_decide_eq_true (List.all_eq_true.mp c2 j hj)
      have h2 : cdv (kd k) l j = if fk (kd k) j = 8 then vR (fref k j) else vI (iv k j) := h2
      rw [h2]
      unfold fent
      by_cases h8 : fk (kd k) j = 8
      · rw [if_pos h8, if_pos h8]
        rfl
      · rw [if_neg h8, if_neg h8, S0_lt h]
        rfl
    rw [← e]
    exact hat
  · rw [if_neg (show ¬ (kd k, n, l).1 < 10 from h1)] at c2 hat
    rw [if_neg h1]
    rw [Bool.and_eq_true] at c2
    obtain ⟨c3, c2⟩ := c2
    have c3 : n = alen k := by simpa using c3
    subst c3
    by_cases h2 : kd k < 13
    · rw [if_pos (show (kd k, alen k, l).1 < 13 from h2)] at c2 hat
      rw [if_pos h2]
      have e : (fun j => vi32 (cdv (kd k) l j)) = (fun j => Int32.ofInt (S0 L xs k j)) := by
        funext j
        rw [S0_lt h]
        unfold iv
        by_cases hs : isS k = true
        · rw [if_pos hs] at c2
          rw [if_pos hs]
          rw [Bool.and_eq_true, Bool.or_eq_true] at c2
          have e0 : kd k = 10 := by simpa using c2.1
          rw [e0]
          rcases c2.2 with q | q
          · have q : l = la := @of_decide_eq_true _ (decLV _ _) q
            rw [q, cdv_la]
            rfl
          · have q : l = lb := @of_decide_eq_true _ (decLV _ _) q
            rw [q, cdv_lb]
            rfl
        · rw [if_neg hs] at c2
          rw [if_neg hs, if_neg (fun q => by omega)]
          rw [Bool.and_eq_true] at c2
          have q : l = [] := by simpa using c2.1
          rw [q]
          show vi32 (cdd (kd k) j) = _
          unfold cdd
          rw [if_neg h1, if_pos h2]
          rfl
      rw [← e]
      exact hat
    · rw [if_neg (show ¬ (kd k, alen k, l).1 < 13 from h2)] at c2 hat
      rw [if_neg h2]
      have h3 : H[G.2.1 + k]? = some (vp_cell (G.2.2.1 (kd k)) (alen k, .inr (.inr (.inr (.inr (fun j => vrf G (cdv (kd k) l j))))))) := hat
      show H[G.2.1 + k]? = some (vp_cell (G.2.2.1 (kd k)) (alen k, .inr (.inr (.inr (.inr (fun j => some (ad G (fref k j))))))))
      rw [h3, vp_cell_q, vp_cell_q]
      congr 1
      refine arrV_eq (fun j hj => ?_)
      have h4 := of_decide_eq_true (List.all_eq_true.mp c2 j (List.mem_range.mpr hj))
      have h4 : cdv (kd k) l j = vR (fref k j) := h4
      rw [h4]
      rfl
theorem GW_WW (hw : GW G (S0 L xs) s EL H locs) : WW G s (S0 L xs) H locs := by
  obtain ⟨hK, hP, hS, hE, hz⟩ := hw
  refine ⟨hK, fun k q hk => ?_, hS, hE⟩
  have hk6 : k < 593 := by
    rw [wl_n rfl, List.getElem?_map] at hk
    by_cases hk6 : k < 593
    · exact hk6
    · rw [List.getElem?_eq_none (by simp; omega)] at hk
      cases hk
  rw [wl_at G (S0 L xs) hk6] at hk
  cases hk
  obtain ⟨c, e1, e2⟩ := EL_at hk6
  have h1 := hP k (G.2.1 + k, en G c) (by rw [wsE_at, e1]; rfl)
  have ha : ad G k = G.2.1 + k := by unfold ad; rw [if_pos hk6]
  rw [ha]
  exact en_ent hk6 e2 h1
end START2

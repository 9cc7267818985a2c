/-! the law's own methods -/
noncomputable def qlL_act : List CE := [(1, 22, 0, 2, (kp fL_up)), (1, 69, 0, 3, (kp fL_repeats)), (0, 50, 8, 3, (kp fX8_ofWalker)), (0, 29, 8, 4, (kp fX8_stone)), (0, 72, 8, 4, (kp fX8_flood)), (1, 75, 0, 4, fL_flood), (0, 62, 8, 2, (kp fX8_count)), (0, 78, 8, 1, (kp fX8_dry)), (0, 82, 8, 1, (kp fX8_begin)), (1, 65, 0, 3, (kp fL_from)), (0, 58, 8, 2, (kp fX8_ofRun)), (1, 85, 0, 2, (kp fL_inTurn)), (0, 88, 8, 1, (kp fX8_leap)), (0, 91, 8, 1, (kp fX8_run)), (1, 94, 0, 1, (kp fL_leap)), (0, 26, 8, 3, (kp fX8_set)), (1, 96, 0, 3, (kp fL_text))]
noncomputable def xL_act : XX := (cL_act, fcF fclL, mcF qlL_act, 2)
set_option maxRecDepth 100000 in
theorem cwL_act : Cond.code yL_act cL_act 14 (some .boolean) ∈ lw_g := lw_gm 385 (by exact rfl) (by decide +kernel)
set_option maxRecDepth 100000 in
theorem clL_act_0 (d : Nat) (g0 bnd : Int) (hd : (bnd - g0).toNat ≤ d) : Call1g "LeapStonesLaw" xL_act 14 (rmG 9 227 d) 0 0 g0 bnd (1, 22, 0, 2, (kp fL_up)) := call_norm (fun cells slots h1 h2 => call_S (con_kp conL_up) cwL_up (lw_gl _ [379, 380, 20] (by decide +kernel) (by decide +kernel)) ⟨by decide, by decide, by decide +kernel⟩ ⟨rfl, rfl⟩ ⟨Nat.le_of_ble_eq_true rfl, Nat.le_of_ble_eq_true rfl⟩ ⟨h1, h2⟩) ⟨by show 0 + _ ≤ d; omega, by show 0 + 3 * _ ≤ 3 * d; omega⟩
set_option maxRecDepth 100000 in
theorem clL_act_1 (d : Nat) (g0 bnd : Int) (hd : (bnd - g0).toNat ≤ d) : Call1g "LeapStonesLaw" xL_act 14 (rmG 9 227 d) 0 0 g0 bnd (1, 69, 0, 3, (kp fL_repeats)) := call_norm (fun cells slots h1 h2 => call_S (con_kp conL_repeats) cwL_repeats (lw_gl _ [386, 387, 20] (by decide +kernel) (by decide +kernel)) ⟨by decide, by decide, by decide +kernel⟩ ⟨rfl, rfl⟩ ⟨Nat.le_of_ble_eq_true rfl, Nat.le_of_ble_eq_true rfl⟩ ⟨h1, h2⟩) ⟨by show 0 + _ ≤ d; omega, by show 0 + 3 * _ ≤ 3 * d; omega⟩
set_option maxRecDepth 100000 in
theorem clL_act_2 (d : Nat) (g0 bnd : Int) (hd : (bnd - g0).toNat ≤ d) : Call1g "LeapStonesLaw" xL_act 14 (rmG 9 227 d) 0 0 g0 bnd (0, 50, 8, 3, (kp fX8_ofWalker)) := call_norm (fun cells slots h1 h2 => call_V (con_kp conX8_ofWalker) cwX8_ofWalker (lw_gl _ [392, 393, 394, 21] (by decide +kernel) (by decide +kernel)) (by decide) rfl ⟨by decide, by decide, by decide +kernel⟩ ⟨rfl, rfl⟩ ⟨Nat.le_of_ble_eq_true rfl, Nat.le_of_ble_eq_true rfl⟩ ⟨h1, h2⟩) ⟨by show 0 + _ ≤ d; omega, by show 0 + 3 * _ ≤ 3 * d; omega⟩
set_option maxRecDepth 100000 in
theorem clL_act_3 (d : Nat) (g0 bnd : Int) (hd : (bnd - g0).toNat ≤ d) : Call1g "LeapStonesLaw" xL_act 14 (rmG 9 227 d) 0 0 g0 bnd (0, 29, 8, 4, (kp fX8_stone)) := call_norm (fun cells slots h1 h2 => call_V (con_kp conX8_stone) cwX8_stone (lw_gl _ [334, 335, 336, 21] (by decide +kernel) (by decide +kernel)) (by decide) rfl ⟨by decide, by decide, by decide +kernel⟩ ⟨rfl, rfl⟩ ⟨Nat.le_of_ble_eq_true rfl, Nat.le_of_ble_eq_true rfl⟩ ⟨h1, h2⟩) ⟨by show 0 + _ ≤ d; omega, by show 0 + 3 * _ ≤ 3 * d; omega⟩
set_option maxRecDepth 100000 in
theorem clL_act_4 (d : Nat) (g0 bnd : Int) (hd : (bnd - g0).toNat ≤ d) : Call1g "LeapStonesLaw" xL_act 14 (rmG 9 227 d) 0 0 g0 bnd (0, 72, 8, 4, (kp fX8_flood)) := call_norm (fun cells slots h1 h2 => call_V (con_kp conX8_flood) cwX8_flood (lw_gl _ [425, 426, 427, 21] (by decide +kernel) (by decide +kernel)) (by decide) rfl ⟨by decide, by decide, by decide +kernel⟩ ⟨rfl, rfl⟩ ⟨Nat.le_of_ble_eq_true rfl, Nat.le_of_ble_eq_true rfl⟩ ⟨h1, h2⟩) ⟨by show 0 + _ ≤ d; omega, by show 0 + 3 * _ ≤ 3 * d; omega⟩
set_option maxRecDepth 100000 in
theorem clL_act_5 (d : Nat) (g0 bnd : Int) (hd : (bnd - g0).toNat ≤ d) : Call1g "LeapStonesLaw" xL_act 14 (rmG 9 227 d) 0 0 g0 bnd (1, 75, 0, 4, fL_flood) := call_cost monoL_flood conGL_flood cwL_flood (lw_gl _ [495, 496, 20] (by decide +kernel) (by decide +kernel)) ⟨by decide, by decide, by decide +kernel⟩ ⟨Nat.le_of_ble_eq_true rfl, Nat.le_of_ble_eq_true rfl⟩ ⟨by show 0 + _ ≤ d; omega, by show 0 + 3 * _ ≤ 3 * d; omega⟩
set_option maxRecDepth 100000 in
theorem clL_act_6 (d : Nat) (g0 bnd : Int) (hd : (bnd - g0).toNat ≤ d) : Call1g "LeapStonesLaw" xL_act 14 (rmG 9 227 d) 0 0 g0 bnd (0, 62, 8, 2, (kp fX8_count)) := call_norm (fun cells slots h1 h2 => call_V (con_kp conX8_count) cwX8_count (lw_gl _ [518, 519, 520, 21] (by decide +kernel) (by decide +kernel)) (by decide) rfl ⟨by decide, by decide, by decide +kernel⟩ ⟨rfl, rfl⟩ ⟨Nat.le_of_ble_eq_true rfl, Nat.le_of_ble_eq_true rfl⟩ ⟨h1, h2⟩) ⟨by show 0 + _ ≤ d; omega, by show 0 + 3 * _ ≤ 3 * d; omega⟩
set_option maxRecDepth 100000 in
theorem clL_act_7 (d : Nat) (g0 bnd : Int) (hd : (bnd - g0).toNat ≤ d) : Call1g "LeapStonesLaw" xL_act 14 (rmG 9 227 d) 0 0 g0 bnd (0, 78, 8, 1, (kp fX8_dry)) := call_norm (fun cells slots h1 h2 => call_V (con_kp conX8_dry) cwX8_dry (lw_gl _ [537, 538, 539, 21] (by decide +kernel) (by decide +kernel)) (by decide) rfl ⟨by decide, by decide, by decide +kernel⟩ ⟨rfl, rfl⟩ ⟨Nat.le_of_ble_eq_true rfl, Nat.le_of_ble_eq_true rfl⟩ ⟨h1, h2⟩) ⟨by show 0 + _ ≤ d; omega, by show 0 + 3 * _ ≤ 3 * d; omega⟩
set_option maxRecDepth 100000 in
theorem clL_act_8 (d : Nat) (g0 bnd : Int) (hd : (bnd - g0).toNat ≤ d) : Call1g "LeapStonesLaw" xL_act 14 (rmG 9 227 d) 0 0 g0 bnd (0, 82, 8, 1, (kp fX8_begin)) := call_norm (fun cells slots h1 h2 => call_V (con_kp conX8_begin) cwX8_begin (lw_gl _ [576, 577, 578, 21] (by decide +kernel) (by decide +kernel)) (by decide) rfl ⟨by decide, by decide, by decide +kernel⟩ ⟨rfl, rfl⟩ ⟨Nat.le_of_ble_eq_true rfl, Nat.le_of_ble_eq_true rfl⟩ ⟨h1, h2⟩) ⟨by show 0 + _ ≤ d; omega, by show 0 + 3 * _ ≤ 3 * d; omega⟩
set_option maxRecDepth 100000 in
theorem clL_act_9 (d : Nat) (g0 bnd : Int) (hd : (bnd - g0).toNat ≤ d) : Call1g "LeapStonesLaw" xL_act 14 (rmG 9 227 d) 0 0 g0 bnd (1, 65, 0, 3, (kp fL_from)) := call_norm (fun cells slots h1 h2 => call_S (con_kp conL_from) cwL_from (lw_gl _ [389, 390, 20] (by decide +kernel) (by decide +kernel)) ⟨by decide, by decide, by decide +kernel⟩ ⟨rfl, rfl⟩ ⟨Nat.le_of_ble_eq_true rfl, Nat.le_of_ble_eq_true rfl⟩ ⟨h1, h2⟩) ⟨by show 0 + _ ≤ d; omega, by show 0 + 3 * _ ≤ 3 * d; omega⟩
set_option maxRecDepth 100000 in
theorem clL_act_10 (d : Nat) (g0 bnd : Int) (hd : (bnd - g0).toNat ≤ d) : Call1g "LeapStonesLaw" xL_act 14 (rmG 9 227 d) 0 0 g0 bnd (0, 58, 8, 2, (kp fX8_ofRun)) := call_norm (fun cells slots h1 h2 => call_V (con_kp conX8_ofRun) cwX8_ofRun (lw_gl _ [498, 499, 500, 21] (by decide +kernel) (by decide +kernel)) (by decide) rfl ⟨by decide, by decide, by decide +kernel⟩ ⟨rfl, rfl⟩ ⟨Nat.le_of_ble_eq_true rfl, Nat.le_of_ble_eq_true rfl⟩ ⟨h1, h2⟩) ⟨by show 0 + _ ≤ d; omega, by show 0 + 3 * _ ≤ 3 * d; omega⟩
set_option maxRecDepth 100000 in
theorem clL_act_11 (d : Nat) (g0 bnd : Int) (hd : (bnd - g0).toNat ≤ d) : Call1g "LeapStonesLaw" xL_act 14 (rmG 9 227 d) 0 0 g0 bnd (1, 85, 0, 2, (kp fL_inTurn)) := call_norm (fun cells slots h1 h2 => call_S (con_kp conL_inTurn) cwL_inTurn (lw_gl _ [599, 600, 20] (by decide +kernel) (by decide +kernel)) ⟨by decide, by decide, by decide +kernel⟩ ⟨rfl, rfl⟩ ⟨Nat.le_of_ble_eq_true rfl, Nat.le_of_ble_eq_true rfl⟩ ⟨h1, h2⟩) ⟨by show 0 + _ ≤ d; omega, by show 0 + 3 * _ ≤ 3 * d; omega⟩
set_option maxRecDepth 100000 in
theorem clL_act_12 (d : Nat) (g0 bnd : Int) (hd : (bnd - g0).toNat ≤ d) : Call1g "LeapStonesLaw" xL_act 14 (rmG 9 227 d) 0 0 g0 bnd (0, 88, 8, 1, (kp fX8_leap)) := call_norm (fun cells slots h1 h2 => call_V (con_kp conX8_leap) cwX8_leap (lw_gl _ [602, 603, 604, 21] (by decide +kernel) (by decide +kernel)) (by decide) rfl ⟨by decide, by decide, by decide +kernel⟩ ⟨rfl, rfl⟩ ⟨Nat.le_of_ble_eq_true rfl, Nat.le_of_ble_eq_true rfl⟩ ⟨h1, h2⟩) ⟨by show 0 + _ ≤ d; omega, by show 0 + 3 * _ ≤ 3 * d; omega⟩
set_option maxRecDepth 100000 in
theorem clL_act_13 (d : Nat) (g0 bnd : Int) (hd : (bnd - g0).toNat ≤ d) : Call1g "LeapStonesLaw" xL_act 14 (rmG 9 227 d) 0 0 g0 bnd (0, 91, 8, 1, (kp fX8_run)) := call_norm (fun cells slots h1 h2 => call_V (con_kp conX8_run) cwX8_run (lw_gl _ [641, 642, 643, 21] (by decide +kernel) (by decide +kernel)) (by decide) rfl ⟨by decide, by decide, by decide +kernel⟩ ⟨rfl, rfl⟩ ⟨Nat.le_of_ble_eq_true rfl, Nat.le_of_ble_eq_true rfl⟩ ⟨h1, h2⟩) ⟨by show 0 + _ ≤ d; omega, by show 0 + 3 * _ ≤ 3 * d; omega⟩
set_option maxRecDepth 100000 in
theorem clL_act_14 (d : Nat) (g0 bnd : Int) (hd : (bnd - g0).toNat ≤ d) : Call1g "LeapStonesLaw" xL_act 14 (rmG 9 227 d) 0 0 g0 bnd (1, 94, 0, 1, (kp fL_leap)) := call_norm (fun cells slots h1 h2 => call_S (con_kp conL_leap) cwL_leap (lw_gl _ [650, 651, 20] (by decide +kernel) (by decide +kernel)) ⟨by decide, by decide, by decide +kernel⟩ ⟨rfl, rfl⟩ ⟨Nat.le_of_ble_eq_true rfl, Nat.le_of_ble_eq_true rfl⟩ ⟨h1, h2⟩) ⟨by show 0 + _ ≤ d; omega, by show 0 + 3 * _ ≤ 3 * d; omega⟩
set_option maxRecDepth 100000 in
theorem clL_act_15 (d : Nat) (g0 bnd : Int) (hd : (bnd - g0).toNat ≤ d) : Call1g "LeapStonesLaw" xL_act 14 (rmG 9 227 d) 0 0 g0 bnd (0, 26, 8, 3, (kp fX8_set)) := call_norm (fun cells slots h1 h2 => call_V (con_kp conX8_set) cwX8_set (lw_gl _ [246, 247, 248, 21] (by decide +kernel) (by decide +kernel)) (by decide) rfl ⟨by decide, by decide, by decide +kernel⟩ ⟨rfl, rfl⟩ ⟨Nat.le_of_ble_eq_true rfl, Nat.le_of_ble_eq_true rfl⟩ ⟨h1, h2⟩) ⟨by show 0 + _ ≤ d; omega, by show 0 + 3 * _ ≤ 3 * d; omega⟩
set_option maxRecDepth 100000 in
theorem clL_act_16 (d : Nat) (g0 bnd : Int) (hd : (bnd - g0).toNat ≤ d) : Call1g "LeapStonesLaw" xL_act 14 (rmG 9 227 d) 0 0 g0 bnd (1, 96, 0, 3, (kp fL_text)) := call_norm (fun cells slots h1 h2 => call_S (con_kp conL_text) cwL_text (lw_gl _ [666, 667, 20] (by decide +kernel) (by decide +kernel)) ⟨by decide, by decide, by decide +kernel⟩ ⟨rfl, rfl⟩ ⟨Nat.le_of_ble_eq_true rfl, Nat.le_of_ble_eq_true rfl⟩ ⟨h1, h2⟩) ⟨by show 0 + _ ≤ d; omega, by show 0 + 3 * _ ≤ 3 * d; omega⟩
theorem callsL_act (d : Nat) (g0 bnd : Int) (hd : (bnd - g0).toNat ≤ d) : ∀ q ∈ qlL_act, Call1g "LeapStonesLaw" xL_act 14 (rmG 9 227 d) 0 0 g0 bnd q := List.forall_mem_cons.mpr ⟨clL_act_0 d g0 bnd hd, List.forall_mem_cons.mpr ⟨clL_act_1 d g0 bnd hd, List.forall_mem_cons.mpr ⟨clL_act_2 d g0 bnd hd, List.forall_mem_cons.mpr ⟨clL_act_3 d g0 bnd hd, List.forall_mem_cons.mpr ⟨clL_act_4 d g0 bnd hd, List.forall_mem_cons.mpr ⟨clL_act_5 d g0 bnd hd, List.forall_mem_cons.mpr ⟨clL_act_6 d g0 bnd hd, List.forall_mem_cons.mpr ⟨clL_act_7 d g0 bnd hd, List.forall_mem_cons.mpr ⟨clL_act_8 d g0 bnd hd, List.forall_mem_cons.mpr ⟨clL_act_9 d g0 bnd hd, List.forall_mem_cons.mpr ⟨clL_act_10 d g0 bnd hd, List.forall_mem_cons.mpr ⟨clL_act_11 d g0 bnd hd, List.forall_mem_cons.mpr ⟨clL_act_12 d g0 bnd hd, List.forall_mem_cons.mpr ⟨clL_act_13 d g0 bnd hd, List.forall_mem_cons.mpr ⟨clL_act_14 d g0 bnd hd, List.forall_mem_cons.mpr ⟨clL_act_15 d g0 bnd hd, List.forall_mem_cons.mpr ⟨clL_act_16 d g0 bnd hd, fun _ h => absurd h List.not_mem_nil⟩⟩⟩⟩⟩⟩⟩⟩⟩⟩⟩⟩⟩⟩⟩⟩⟩
theorem msL_act : ∀ q ∈ qlL_act, Mono q.2.2.2.2 := List.forall_mem_cons.mpr ⟨mono_kp _, List.forall_mem_cons.mpr ⟨mono_kp _, List.forall_mem_cons.mpr ⟨mono_kp _, List.forall_mem_cons.mpr ⟨mono_kp _, List.forall_mem_cons.mpr ⟨mono_kp _, List.forall_mem_cons.mpr ⟨monoL_flood, List.forall_mem_cons.mpr ⟨mono_kp _, List.forall_mem_cons.mpr ⟨mono_kp _, List.forall_mem_cons.mpr ⟨mono_kp _, List.forall_mem_cons.mpr ⟨mono_kp _, List.forall_mem_cons.mpr ⟨mono_kp _, List.forall_mem_cons.mpr ⟨mono_kp _, List.forall_mem_cons.mpr ⟨mono_kp _, List.forall_mem_cons.mpr ⟨mono_kp _, List.forall_mem_cons.mpr ⟨mono_kp _, List.forall_mem_cons.mpr ⟨mono_kp _, List.forall_mem_cons.mpr ⟨mono_kp _, fun _ h => absurd h List.not_mem_nil⟩⟩⟩⟩⟩⟩⟩⟩⟩⟩⟩⟩⟩⟩⟩⟩⟩
noncomputable def fL_act : FN := fnX xL_act 14
theorem monoL_act : Mono fL_act := fnX_mono (ql := qlL_act) rfl msL_act
set_option maxRecDepth 100000 in
theorem conGL_act : ConG yL_act cL_act 14 (some .boolean) 9 227 fL_act := conG_of (X := xL_act) (own := "LeapStonesLaw") (ql := qlL_act) (by decide) rfl FOKL rfl msL_act callsL_act rfl
theorem uL_act {a0 : Option Nat} {a1 a2 a3 a4 : Int} {S : MM} : fL_act [.inr (.inl a0), vI a1, vI a2, vI a3, vI a4] S = rn xL_act (0, [some (.inr (.inl a0)), some (vI a1), some (vI a2), some (vI a3), some (vI a4), none, none, none, none, none, none, none, none, none], [], S) := rfl
set_option maxRecDepth 100000 in
theorem eL_act_0 {a : Int} {l0 l1 l2 l4 l5 l6 l7 l8 l9 l10 l11 l12 l13 : Option VV} {S : MM} : rn xL_act (0, [l0, l1, l2, some (vI a), l4, l5, l6, l7, l8, l9, l10, l11, l12, l13], [], S) = rn xL_act (1, [l0, l1, l2, some (vI a), l4, l5, l6, l7, l8, l9, l10, l11, l12, l13], [vI a], S) := rn_step dL_act_0 rfl rfl
set_option maxRecDepth 100000 in
theorem eL_act_1 {l0 l1 l2 l3 l4 l5 l6 l7 l8 l9 l10 l11 l12 l13 : Option VV} {v0 : VV} {S : MM} : rn xL_act (1, [l0, l1, l2, l3, l4, l5, l6, l7, l8, l9, l10, l11, l12, l13], [v0], S) = rn xL_act (2, [l0, l1, l2, l3, l4, l5, l6, l7, l8, l9, l10, l11, l12, l13], [vI 3, v0], S) := rn_step dL_act_1 rfl rfl
set_option maxRecDepth 100000 in
theorem eL_act_2 {a0 : Int} {a1 : Int} {l0 l1 l2 l3 l4 l5 l6 l7 l8 l9 l10 l11 l12 l13 : Option VV} {S : MM} : rn xL_act (2, [l0, l1, l2, l3, l4, l5, l6, l7, l8, l9, l10, l11, l12, l13], [vI a1, vI a0], S) = ((kp fL_up) [vI a0, vI a1] S).bind (fun q => rn xL_act (5, [l0, l1, l2, l3, l4, l5, l6, l7, l8, l9, l10, l11, l12, l13], q.1.toList ++ [], q.2)) := q_callS (n := 2) (as := [vI a0, vI a1]) (rest := []) dL_act_2 rfl rfl rfl rfl
set_option maxRecDepth 100000 in
theorem eL_act_5 {a : Int} {w : Int} {l0 l1 l2 l3 l5 l6 l7 l8 l9 l10 l11 l12 l13 : Option VV} {S : MM} : rn xL_act (5, [l0, l1, l2, l3, some (vI w), l5, l6, l7, l8, l9, l10, l11, l12, l13], [vI a], S) = rn xL_act (7, [l0, l1, l2, l3, some (vI w), some (vI a), l6, l7, l8, l9, l10, l11, l12, l13], [], S) := rn_step dL_act_5 rfl rfl
set_option maxRecDepth 100000 in
theorem eL_act_7 {a : Int} {l0 l1 l2 l4 l5 l6 l7 l8 l9 l10 l11 l12 l13 : Option VV} {S : MM} : rn xL_act (7, [l0, l1, l2, some (vI a), l4, l5, l6, l7, l8, l9, l10, l11, l12, l13], [], S) = rn xL_act (8, [l0, l1, l2, some (vI a), l4, l5, l6, l7, l8, l9, l10, l11, l12, l13], [vI a], S) := rn_step dL_act_7 rfl rfl
set_option maxRecDepth 100000 in
theorem eL_act_8 {l0 l1 l2 l3 l4 l5 l6 l7 l8 l9 l10 l11 l12 l13 : Option VV} {v0 : VV} {S : MM} : rn xL_act (8, [l0, l1, l2, l3, l4, l5, l6, l7, l8, l9, l10, l11, l12, l13], [v0], S) = rn xL_act (9, [l0, l1, l2, l3, l4, l5, l6, l7, l8, l9, l10, l11, l12, l13], [vI 2, v0], S) := rn_step dL_act_8 rfl rfl
set_option maxRecDepth 100000 in
theorem eL_act_9 {a : Int} {l0 l1 l2 l3 l4 l5 l6 l7 l8 l9 l10 l11 l12 l13 : Option VV} (h : -2147483648 ≤ a ∧ a ≤ 2147483647) {S : MM} : rn xL_act (9, [l0, l1, l2, l3, l4, l5, l6, l7, l8, l9, l10, l11, l12, l13], [vI 2, vI a], S) = rn xL_act (10, [l0, l1, l2, l3, l4, l5, l6, l7, l8, l9, l10, l11, l12, l13], [vI (a / 4)], S) := q_ishrK dL_act_9 ⟨by decide, by decide⟩ rfl h
set_option maxRecDepth 100000 in
theorem eL_act_10 {a : Int} {l0 l2 l3 l4 l5 l6 l7 l8 l9 l10 l11 l12 l13 : Option VV} {v0 : VV} {S : MM} : rn xL_act (10, [l0, some (vI a), l2, l3, l4, l5, l6, l7, l8, l9, l10, l11, l12, l13], [v0], S) = rn xL_act (11, [l0, some (vI a), l2, l3, l4, l5, l6, l7, l8, l9, l10, l11, l12, l13], [vI a, v0], S) := rn_step dL_act_10 rfl rfl
set_option maxRecDepth 100000 in
theorem eL_act_11 {a0 : Int} {a1 : Int} {l0 l1 l2 l3 l4 l5 l6 l7 l8 l9 l10 l11 l12 l13 : Option VV} {S : MM} : rn xL_act (11, [l0, l1, l2, l3, l4, l5, l6, l7, l8, l9, l10, l11, l12, l13], [vI a1, vI a0], S) = ((kp fL_up) [vI a0, vI a1] S).bind (fun q => rn xL_act (14, [l0, l1, l2, l3, l4, l5, l6, l7, l8, l9, l10, l11, l12, l13], q.1.toList ++ [], q.2)) := q_callS (n := 2) (as := [vI a0, vI a1]) (rest := []) dL_act_11 rfl rfl rfl rfl
set_option maxRecDepth 100000 in
theorem eL_act_14 {a : Int} {w : Int} {l0 l1 l2 l3 l4 l6 l7 l8 l9 l10 l11 l12 l13 : Option VV} {S : MM} : rn xL_act (14, [l0, l1, l2, l3, l4, some (vI w), l6, l7, l8, l9, l10, l11, l12, l13], [vI a], S) = rn xL_act (16, [l0, l1, l2, l3, l4, some (vI w), some (vI a), l7, l8, l9, l10, l11, l12, l13], [], S) := rn_step dL_act_14 rfl rfl
set_option maxRecDepth 100000 in
theorem eL_act_16 {a : Int} {l0 l1 l3 l4 l5 l6 l7 l8 l9 l10 l11 l12 l13 : Option VV} {S : MM} : rn xL_act (16, [l0, l1, some (vI a), l3, l4, l5, l6, l7, l8, l9, l10, l11, l12, l13], [], S) = rn xL_act (17, [l0, l1, some (vI a), l3, l4, l5, l6, l7, l8, l9, l10, l11, l12, l13], [vI a], S) := rn_step dL_act_16 rfl rfl
set_option maxRecDepth 100000 in
theorem eL_act_17 {l0 l1 l2 l3 l4 l5 l6 l7 l8 l9 l10 l11 l12 l13 : Option VV} {v0 : VV} {S : MM} : rn xL_act (17, [l0, l1, l2, l3, l4, l5, l6, l7, l8, l9, l10, l11, l12, l13], [v0], S) = rn xL_act (19, [l0, l1, l2, l3, l4, l5, l6, l7, l8, l9, l10, l11, l12, l13], [vI 16, v0], S) := rn_step dL_act_17 rfl rfl
set_option maxRecDepth 100000 in
theorem eL_act_19 {a0 : Int} {a1 : Int} {l0 l1 l2 l3 l4 l5 l6 l7 l8 l9 l10 l11 l12 l13 : Option VV} {S : MM} : rn xL_act (19, [l0, l1, l2, l3, l4, l5, l6, l7, l8, l9, l10, l11, l12, l13], [vI a1, vI a0], S) = ((kp fL_up) [vI a0, vI a1] S).bind (fun q => rn xL_act (22, [l0, l1, l2, l3, l4, l5, l6, l7, l8, l9, l10, l11, l12, l13], q.1.toList ++ [], q.2)) := q_callS (n := 2) (as := [vI a0, vI a1]) (rest := []) dL_act_19 rfl rfl rfl rfl
set_option maxRecDepth 100000 in
theorem eL_act_22 {a : Int} {l0 l1 l2 l3 l4 l5 l6 l7 l8 l9 l10 l11 l12 l13 : Option VV} (h : -2147483648 ≤ a ∧ a ≤ 2147483647) {S : MM} : rn xL_act (22, [l0, l1, l2, l3, l4, l5, l6, l7, l8, l9, l10, l11, l12, l13], [vI a], S) = if a = 0 then rn xL_act (92, [l0, l1, l2, l3, l4, l5, l6, l7, l8, l9, l10, l11, l12, l13], [], S) else if a = 1 then rn xL_act (92, [l0, l1, l2, l3, l4, l5, l6, l7, l8, l9, l10, l11, l12, l13], [], S) else if a = 2 then rn xL_act (92, [l0, l1, l2, l3, l4, l5, l6, l7, l8, l9, l10, l11, l12, l13], [], S) else if a = 3 then rn xL_act (92, [l0, l1, l2, l3, l4, l5, l6, l7, l8, l9, l10, l11, l12, l13], [], S) else if a = 4 then rn xL_act (212, [l0, l1, l2, l3, l4, l5, l6, l7, l8, l9, l10, l11, l12, l13], [], S) else if a = 5 then rn xL_act (212, [l0, l1, l2, l3, l4, l5, l6, l7, l8, l9, l10, l11, l12, l13], [], S) else if a = 6 then rn xL_act (300, [l0, l1, l2, l3, l4, l5, l6, l7, l8, l9, l10, l11, l12, l13], [], S) else if a = 7 then rn xL_act (417, [l0, l1, l2, l3, l4, l5, l6, l7, l8, l9, l10, l11, l12, l13], [], S) else if a = 8 then rn xL_act (708, [l0, l1, l2, l3, l4, l5, l6, l7, l8, l9, l10, l11, l12, l13], [], S) else if a = 9 then rn xL_act (708, [l0, l1, l2, l3, l4, l5, l6, l7, l8, l9, l10, l11, l12, l13], [], S) else if a = 10 then rn xL_act (708, [l0, l1, l2, l3, l4, l5, l6, l7, l8, l9, l10, l11, l12, l13], [], S) else if a = 11 then rn xL_act (708, [l0, l1, l2, l3, l4, l5, l6, l7, l8, l9, l10, l11, l12, l13], [], S) else if a = 12 then rn xL_act (745, [l0, l1, l2, l3, l4, l5, l6, l7, l8, l9, l10, l11, l12, l13], [], S) else if a = 13 then rn xL_act (814, [l0, l1, l2, l3, l4, l5, l6, l7, l8, l9, l10, l11, l12, l13], [], S) else rn xL_act (922, [l0, l1, l2, l3, l4, l5, l6, l7, l8, l9, l10, l11, l12, l13], [], S) := by
  by_cases c0 : a = 0
  · subst c0; rw [if_pos rfl]; exact q_tab (X := xL_act) (pc := 22) (L := [l0, l1, l2, l3, l4, l5, l6, l7, l8, l9, l10, l11, l12, l13]) (st := []) (S := S) (x := 0) (t := 92) dL_act_22 h (by decide) rfl (by decide) rfl
  rw [if_neg c0]
  by_cases c1 : a = 1
  · subst c1; rw [if_pos rfl]; exact q_tab (X := xL_act) (pc := 22) (L := [l0, l1, l2, l3, l4, l5, l6, l7, l8, l9, l10, l11, l12, l13]) (st := []) (S := S) (x := 1) (t := 92) dL_act_22 h (by decide) rfl (by decide) rfl
  rw [if_neg c1]
  by_cases c2 : a = 2
  · subst c2; rw [if_pos rfl]; exact q_tab (X := xL_act) (pc := 22) (L := [l0, l1, l2, l3, l4, l5, l6, l7, l8, l9, l10, l11, l12, l13]) (st := []) (S := S) (x := 2) (t := 92) dL_act_22 h (by decide) rfl (by decide) rfl
  rw [if_neg c2]
  by_cases c3 : a = 3
  · subst c3; rw [if_pos rfl]; exact q_tab (X := xL_act) (pc := 22) (L := [l0, l1, l2, l3, l4, l5, l6, l7, l8, l9, l10, l11, l12, l13]) (st := []) (S := S) (x := 3) (t := 92) dL_act_22 h (by decide) rfl (by decide) rfl
  rw [if_neg c3]
  by_cases c4 : a = 4
  · subst c4; rw [if_pos rfl]; exact q_tab (X := xL_act) (pc := 22) (L := [l0, l1, l2, l3, l4, l5, l6, l7, l8, l9, l10, l11, l12, l13]) (st := []) (S := S) (x := 4) (t := 212) dL_act_22 h (by decide) rfl (by decide) rfl
  rw [if_neg c4]
  by_cases c5 : a = 5
  · subst c5; rw [if_pos rfl]; exact q_tab (X := xL_act) (pc := 22) (L := [l0, l1, l2, l3, l4, l5, l6, l7, l8, l9, l10, l11, l12, l13]) (st := []) (S := S) (x := 5) (t := 212) dL_act_22 h (by decide) rfl (by decide) rfl
  rw [if_neg c5]
  by_cases c6 : a = 6
  · subst c6; rw [if_pos rfl]; exact q_tab (X := xL_act) (pc := 22) (L := [l0, l1, l2, l3, l4, l5, l6, l7, l8, l9, l10, l11, l12, l13]) (st := []) (S := S) (x := 6) (t := 300) dL_act_22 h (by decide) rfl (by decide) rfl
  rw [if_neg c6]
  by_cases c7 : a = 7
  · subst c7; rw [if_pos rfl]; exact q_tab (X := xL_act) (pc := 22) (L := [l0, l1, l2, l3, l4, l5, l6, l7, l8, l9, l10, l11, l12, l13]) (st := []) (S := S) (x := 7) (t := 417) dL_act_22 h (by decide) rfl (by decide) rfl
  rw [if_neg c7]
  by_cases c8 : a = 8
  · subst c8; rw [if_pos rfl]; exact q_tab (X := xL_act) (pc := 22) (L := [l0, l1, l2, l3, l4, l5, l6, l7, l8, l9, l10, l11, l12, l13]) (st := []) (S := S) (x := 8) (t := 708) dL_act_22 h (by decide) rfl (by decide) rfl
  rw [if_neg c8]
  by_cases c9 : a = 9
  · subst c9; rw [if_pos rfl]; exact q_tab (X := xL_act) (pc := 22) (L := [l0, l1, l2, l3, l4, l5, l6, l7, l8, l9, l10, l11, l12, l13]) (st := []) (S := S) (x := 9) (t := 708) dL_act_22 h (by decide) rfl (by decide) rfl
  rw [if_neg c9]
  by_cases c10 : a = 10
  · subst c10; rw [if_pos rfl]; exact q_tab (X := xL_act) (pc := 22) (L := [l0, l1, l2, l3, l4, l5, l6, l7, l8, l9, l10, l11, l12, l13]) (st := []) (S := S) (x := 10) (t := 708) dL_act_22 h (by decide) rfl (by decide) rfl
  rw [if_neg c10]
  by_cases c11 : a = 11
  · subst c11; rw [if_pos rfl]; exact q_tab (X := xL_act) (pc := 22) (L := [l0, l1, l2, l3, l4, l5, l6, l7, l8, l9, l10, l11, l12, l13]) (st := []) (S := S) (x := 11) (t := 708) dL_act_22 h (by decide) rfl (by decide) rfl
  rw [if_neg c11]
  by_cases c12 : a = 12
  · subst c12; rw [if_pos rfl]; exact q_tab (X := xL_act) (pc := 22) (L := [l0, l1, l2, l3, l4, l5, l6, l7, l8, l9, l10, l11, l12, l13]) (st := []) (S := S) (x := 12) (t := 745) dL_act_22 h (by decide) rfl (by decide) rfl
  rw [if_neg c12]
  by_cases c13 : a = 13
  · subst c13; rw [if_pos rfl]; exact q_tab (X := xL_act) (pc := 22) (L := [l0, l1, l2, l3, l4, l5, l6, l7, l8, l9, l10, l11, l12, l13]) (st := []) (S := S) (x := 13) (t := 814) dL_act_22 h (by decide) rfl (by decide) rfl
  rw [if_neg c13]
  exact q_tabD (X := xL_act) (pc := 22) (L := [l0, l1, l2, l3, l4, l5, l6, l7, l8, l9, l10, l11, l12, l13]) (st := []) (S := S) (x := a) (t := 922) dL_act_22 h (by omega) (by decide) rfl
set_option maxRecDepth 100000 in
theorem eL_act_92 {a : Option Nat} {l1 l2 l3 l4 l5 l6 l7 l8 l9 l10 l11 l12 l13 : Option VV} {S : MM} : rn xL_act (92, [some (.inr (.inl a)), l1, l2, l3, l4, l5, l6, l7, l8, l9, l10, l11, l12, l13], [], S) = rn xL_act (93, [some (.inr (.inl a)), l1, l2, l3, l4, l5, l6, l7, l8, l9, l10, l11, l12, l13], [.inr (.inl a)], S) := rn_step dL_act_92 rfl rfl
set_option maxRecDepth 100000 in
theorem eL_act_93 {a : Int} {l0 l1 l2 l3 l4 l6 l7 l8 l9 l10 l11 l12 l13 : Option VV} {v0 : VV} {S : MM} : rn xL_act (93, [l0, l1, l2, l3, l4, some (vI a), l6, l7, l8, l9, l10, l11, l12, l13], [v0], S) = rn xL_act (95, [l0, l1, l2, l3, l4, some (vI a), l6, l7, l8, l9, l10, l11, l12, l13], [vI a, v0], S) := rn_step dL_act_93 rfl rfl
set_option maxRecDepth 100000 in
theorem eL_act_95 {a : Int} {l0 l1 l2 l3 l4 l5 l7 l8 l9 l10 l11 l12 l13 : Option VV} {v0 v1 : VV} {S : MM} : rn xL_act (95, [l0, l1, l2, l3, l4, l5, some (vI a), l7, l8, l9, l10, l11, l12, l13], [v0, v1], S) = rn xL_act (97, [l0, l1, l2, l3, l4, l5, some (vI a), l7, l8, l9, l10, l11, l12, l13], [vI a, v0, v1], S) := rn_step dL_act_95 rfl rfl
set_option maxRecDepth 100000 in
theorem eL_act_97 {a0 : Option Nat} {a1 : Int} {a2 : Int} {l0 l1 l2 l3 l4 l5 l6 l7 l8 l9 l10 l11 l12 l13 : Option VV} {S : MM} : rn xL_act (97, [l0, l1, l2, l3, l4, l5, l6, l7, l8, l9, l10, l11, l12, l13], [vI a2, vI a1, .inr (.inl a0)], S) = ((kp fL_repeats) [.inr (.inl a0), vI a1, vI a2] S).bind (fun q => rn xL_act (100, [l0, l1, l2, l3, l4, l5, l6, l7, l8, l9, l10, l11, l12, l13], q.1.toList ++ [], q.2)) := q_callS (n := 3) (as := [.inr (.inl a0), vI a1, vI a2]) (rest := []) dL_act_97 rfl rfl rfl rfl
set_option maxRecDepth 100000 in
theorem eL_act_100 {a : Int} {w : Int} {l0 l1 l2 l3 l4 l5 l7 l8 l9 l10 l11 l12 l13 : Option VV} {S : MM} : rn xL_act (100, [l0, l1, l2, l3, l4, l5, some (vI w), l7, l8, l9, l10, l11, l12, l13], [vI a], S) = rn xL_act (102, [l0, l1, l2, l3, l4, l5, some (vI w), some (vI a), l8, l9, l10, l11, l12, l13], [], S) := rn_step dL_act_100 rfl rfl
set_option maxRecDepth 100000 in
theorem eL_act_102 {l0 l1 l2 l3 l4 l5 l6 l7 l8 l9 l10 l11 l12 l13 : Option VV} {S : MM} : rn xL_act (102, [l0, l1, l2, l3, l4, l5, l6, l7, l8, l9, l10, l11, l12, l13], [], S) = rn xL_act (103, [l0, l1, l2, l3, l4, l5, l6, l7, l8, l9, l10, l11, l12, l13], [vI 1], S) := rn_step dL_act_102 rfl rfl
set_option maxRecDepth 100000 in
theorem eL_act_103 {a : Int} {l0 l1 l2 l3 l5 l6 l7 l8 l9 l10 l11 l12 l13 : Option VV} {v0 : VV} {S : MM} : rn xL_act (103, [l0, l1, l2, l3, some (vI a), l5, l6, l7, l8, l9, l10, l11, l12, l13], [v0], S) = rn xL_act (105, [l0, l1, l2, l3, some (vI a), l5, l6, l7, l8, l9, l10, l11, l12, l13], [vI a, v0], S) := rn_step dL_act_103 rfl rfl
set_option maxRecDepth 100000 in
theorem eL_act_105 {l0 l1 l2 l3 l4 l5 l6 l7 l8 l9 l10 l11 l12 l13 : Option VV} {v0 v1 : VV} {S : MM} : rn xL_act (105, [l0, l1, l2, l3, l4, l5, l6, l7, l8, l9, l10, l11, l12, l13], [v0, v1], S) = rn xL_act (107, [l0, l1, l2, l3, l4, l5, l6, l7, l8, l9, l10, l11, l12, l13], [vI 9, v0, v1], S) := rn_step dL_act_105 rfl rfl
set_option maxRecDepth 100000 in
theorem eL_act_107 {a0 : Int} {a1 : Int} {l0 l1 l2 l3 l4 l5 l6 l7 l8 l9 l10 l11 l12 l13 : Option VV} {v2 : VV} {S : MM} : rn xL_act (107, [l0, l1, l2, l3, l4, l5, l6, l7, l8, l9, l10, l11, l12, l13], [vI a1, vI a0, v2], S) = ((kp fL_up) [vI a0, vI a1] S).bind (fun q => rn xL_act (110, [l0, l1, l2, l3, l4, l5, l6, l7, l8, l9, l10, l11, l12, l13], q.1.toList ++ [v2], q.2)) := q_callS (n := 2) (as := [vI a0, vI a1]) (rest := [v2]) dL_act_107 rfl rfl rfl rfl
set_option maxRecDepth 100000 in
theorem eL_act_110 {a b : Int} {l0 l1 l2 l3 l4 l5 l6 l7 l8 l9 l10 l11 l12 l13 : Option VV} {S : MM} : rn xL_act (110, [l0, l1, l2, l3, l4, l5, l6, l7, l8, l9, l10, l11, l12, l13], [vI b, vI a], S) = rn xL_act (111, [l0, l1, l2, l3, l4, l5, l6, l7, l8, l9, l10, l11, l12, l13], [vI (a + b)], S) := rn_step dL_act_110 rfl rfl
set_option maxRecDepth 100000 in
theorem eL_act_111 {a : Int} {w : Int} {l0 l1 l2 l3 l4 l5 l6 l8 l9 l10 l11 l12 l13 : Option VV} {S : MM} : rn xL_act (111, [l0, l1, l2, l3, l4, l5, l6, some (vI w), l8, l9, l10, l11, l12, l13], [vI a], S) = rn xL_act (113, [l0, l1, l2, l3, l4, l5, l6, some (vI w), some (vI a), l9, l10, l11, l12, l13], [], S) := rn_step dL_act_111 rfl rfl
set_option maxRecDepth 100000 in
theorem eL_act_113 {a : Option Nat} {l1 l2 l3 l4 l5 l6 l7 l8 l9 l10 l11 l12 l13 : Option VV} {S : MM} : rn xL_act (113, [some (.inr (.inl a)), l1, l2, l3, l4, l5, l6, l7, l8, l9, l10, l11, l12, l13], [], S) = rn xL_act (114, [some (.inr (.inl a)), l1, l2, l3, l4, l5, l6, l7, l8, l9, l10, l11, l12, l13], [.inr (.inl a)], S) := rn_step dL_act_113 rfl rfl
set_option maxRecDepth 100000 in
theorem eL_act_114 {a : Int} {l0 l1 l2 l3 l4 l6 l7 l8 l9 l10 l11 l12 l13 : Option VV} {v0 : VV} {S : MM} : rn xL_act (114, [l0, l1, l2, l3, l4, some (vI a), l6, l7, l8, l9, l10, l11, l12, l13], [v0], S) = rn xL_act (116, [l0, l1, l2, l3, l4, some (vI a), l6, l7, l8, l9, l10, l11, l12, l13], [vI a, v0], S) := rn_step dL_act_114 rfl rfl
set_option maxRecDepth 100000 in
theorem eL_act_116 {l0 l1 l2 l3 l4 l5 l6 l7 l8 l9 l10 l11 l12 l13 : Option VV} {v0 v1 : VV} {S : MM} : rn xL_act (116, [l0, l1, l2, l3, l4, l5, l6, l7, l8, l9, l10, l11, l12, l13], [v0, v1], S) = rn xL_act (117, [l0, l1, l2, l3, l4, l5, l6, l7, l8, l9, l10, l11, l12, l13], [vI 0, v0, v1], S) := rn_step dL_act_116 rfl rfl
set_option maxRecDepth 100000 in
theorem eL_act_117 {a0 : Int} {a1 : Int} {l0 l1 l2 l3 l4 l5 l6 l7 l8 l9 l10 l11 l12 l13 : Option VV} {S : MM} : rn xL_act (117, [l0, l1, l2, l3, l4, l5, l6, l7, l8, l9, l10, l11, l12, l13], [vI a1, vI a0, vR 0], S) = ((kp fX8_ofWalker) [vR 0, vI a0, vI a1] S).bind (fun q => rn xL_act (120, [l0, l1, l2, l3, l4, l5, l6, l7, l8, l9, l10, l11, l12, l13], q.1.toList ++ [], q.2)) := q_callV (n := 2) (as := [vI a0, vI a1]) (rest := []) dL_act_117 rfl rfl rfl rfl kd0
set_option maxRecDepth 100000 in
theorem eL_act_120 {a : Int} {w : Int} {l0 l1 l2 l3 l4 l5 l6 l7 l9 l10 l11 l12 l13 : Option VV} {S : MM} : rn xL_act (120, [l0, l1, l2, l3, l4, l5, l6, l7, some (vI w), l9, l10, l11, l12, l13], [vI a], S) = rn xL_act (122, [l0, l1, l2, l3, l4, l5, l6, l7, some (vI w), some (vI a), l10, l11, l12, l13], [], S) := rn_step dL_act_120 rfl rfl
set_option maxRecDepth 100000 in
theorem eL_act_122 {a : Int} {l0 l1 l2 l3 l4 l5 l6 l8 l9 l10 l11 l12 l13 : Option VV} {S : MM} : rn xL_act (122, [l0, l1, l2, l3, l4, l5, l6, some (vI a), l8, l9, l10, l11, l12, l13], [], S) = rn xL_act (124, [l0, l1, l2, l3, l4, l5, l6, some (vI a), l8, l9, l10, l11, l12, l13], [vI a], S) := rn_step dL_act_122 rfl rfl
set_option maxRecDepth 100000 in
theorem eL_act_124 {a : Int} {l0 l1 l2 l3 l4 l5 l6 l7 l8 l9 l10 l11 l12 l13 : Option VV} (h : -2147483648 ≤ a ∧ a ≤ 2147483647) {S : MM} : rn xL_act (124, [l0, l1, l2, l3, l4, l5, l6, l7, l8, l9, l10, l11, l12, l13], [vI a], S) = if a = 0 then rn xL_act (127, [l0, l1, l2, l3, l4, l5, l6, l7, l8, l9, l10, l11, l12, l13], [], S) else rn xL_act (155, [l0, l1, l2, l3, l4, l5, l6, l7, l8, l9, l10, l11, l12, l13], [], S) := q_if_ne dL_act_124 (by decide) rfl h
set_option maxRecDepth 100000 in
theorem eL_act_127 {a : Int} {l0 l1 l2 l3 l4 l5 l6 l7 l8 l10 l11 l12 l13 : Option VV} {S : MM} : rn xL_act (127, [l0, l1, l2, l3, l4, l5, l6, l7, l8, some (vI a), l10, l11, l12, l13], [], S) = rn xL_act (129, [l0, l1, l2, l3, l4, l5, l6, l7, l8, some (vI a), l10, l11, l12, l13], [vI a], S) := rn_step dL_act_127 rfl rfl
set_option maxRecDepth 100000 in
theorem eL_act_129 {l0 l1 l2 l3 l4 l5 l6 l7 l8 l9 l10 l11 l12 l13 : Option VV} {v0 : VV} {S : MM} : rn xL_act (129, [l0, l1, l2, l3, l4, l5, l6, l7, l8, l9, l10, l11, l12, l13], [v0], S) = rn xL_act (131, [l0, l1, l2, l3, l4, l5, l6, l7, l8, l9, l10, l11, l12, l13], [vI 40, v0], S) := rn_step dL_act_129 rfl rfl
set_option maxRecDepth 100000 in
theorem eL_act_131 {a b : Int} {l0 l1 l2 l3 l4 l5 l6 l7 l8 l9 l10 l11 l12 l13 : Option VV} (h : -2147483648 ≤ a ∧ a ≤ 2147483647) (h1 : -2147483648 ≤ b ∧ b ≤ 2147483647) {S : MM} : rn xL_act (131, [l0, l1, l2, l3, l4, l5, l6, l7, l8, l9, l10, l11, l12, l13], [vI b, vI a], S) = if a = b then rn xL_act (134, [l0, l1, l2, l3, l4, l5, l6, l7, l8, l9, l10, l11, l12, l13], [], S) else rn xL_act (155, [l0, l1, l2, l3, l4, l5, l6, l7, l8, l9, l10, l11, l12, l13], [], S) := q_icmp_ne dL_act_131 (by decide) rfl h h1
set_option maxRecDepth 100000 in
theorem eL_act_134 {a : Option Nat} {l1 l2 l3 l4 l5 l6 l7 l8 l9 l10 l11 l12 l13 : Option VV} {S : MM} : rn xL_act (134, [some (.inr (.inl a)), l1, l2, l3, l4, l5, l6, l7, l8, l9, l10, l11, l12, l13], [], S) = rn xL_act (135, [some (.inr (.inl a)), l1, l2, l3, l4, l5, l6, l7, l8, l9, l10, l11, l12, l13], [.inr (.inl a)], S) := rn_step dL_act_134 rfl rfl
set_option maxRecDepth 100000 in
theorem eL_act_135 {a : Int} {l0 l1 l2 l3 l4 l6 l7 l8 l9 l10 l11 l12 l13 : Option VV} {v0 : VV} {S : MM} : rn xL_act (135, [l0, l1, l2, l3, l4, some (vI a), l6, l7, l8, l9, l10, l11, l12, l13], [v0], S) = rn xL_act (137, [l0, l1, l2, l3, l4, some (vI a), l6, l7, l8, l9, l10, l11, l12, l13], [vI a, v0], S) := rn_step dL_act_135 rfl rfl
set_option maxRecDepth 100000 in
theorem eL_act_137 {a : Int} {l0 l1 l2 l3 l4 l5 l7 l8 l9 l10 l11 l12 l13 : Option VV} {v0 v1 : VV} {S : MM} : rn xL_act (137, [l0, l1, l2, l3, l4, l5, some (vI a), l7, l8, l9, l10, l11, l12, l13], [v0, v1], S) = rn xL_act (139, [l0, l1, l2, l3, l4, l5, some (vI a), l7, l8, l9, l10, l11, l12, l13], [vI a, v0, v1], S) := rn_step dL_act_137 rfl rfl
set_option maxRecDepth 100000 in
theorem eL_act_139 {a : Int} {l0 l1 l2 l3 l4 l5 l6 l7 l9 l10 l11 l12 l13 : Option VV} {v0 v1 v2 : VV} {S : MM} : rn xL_act (139, [l0, l1, l2, l3, l4, l5, l6, l7, some (vI a), l9, l10, l11, l12, l13], [v0, v1, v2], S) = rn xL_act (141, [l0, l1, l2, l3, l4, l5, l6, l7, some (vI a), l9, l10, l11, l12, l13], [vI a, v0, v1, v2], S) := rn_step dL_act_139 rfl rfl
set_option maxRecDepth 100000 in
theorem eL_act_141 {a0 : Int} {a1 : Int} {a2 : Int} {l0 l1 l2 l3 l4 l5 l6 l7 l8 l9 l10 l11 l12 l13 : Option VV} {S : MM} : rn xL_act (141, [l0, l1, l2, l3, l4, l5, l6, l7, l8, l9, l10, l11, l12, l13], [vI a2, vI a1, vI a0, vR 0], S) = ((kp fX8_stone) [vR 0, vI a0, vI a1, vI a2] S).bind (fun q => rn xL_act (144, [l0, l1, l2, l3, l4, l5, l6, l7, l8, l9, l10, l11, l12, l13], q.1.toList ++ [], q.2)) := q_callV (n := 3) (as := [vI a0, vI a1, vI a2]) (rest := []) dL_act_141 rfl rfl rfl rfl kd0
set_option maxRecDepth 100000 in
theorem eL_act_144 {l0 l1 l2 l3 l4 l5 l6 l7 l8 l9 l10 l11 l12 l13 : Option VV} {v0 : VV} {S : MM} : rn xL_act (144, [l0, l1, l2, l3, l4, l5, l6, l7, l8, l9, l10, l11, l12, l13], [v0], S) = rn xL_act (146, [l0, l1, l2, l3, l4, l5, l6, l7, l8, l9, l10, l11, l12, l13], [vI (-4), v0], S) := rn_step dL_act_144 rfl rfl
set_option maxRecDepth 100000 in
theorem eL_act_146 {a b : Int} {l0 l1 l2 l3 l4 l5 l6 l7 l8 l9 l10 l11 l12 l13 : Option VV} (h : -2147483648 ≤ a ∧ a ≤ 2147483647) (h1 : -2147483648 ≤ b ∧ b ≤ 2147483647) {S : MM} : rn xL_act (146, [l0, l1, l2, l3, l4, l5, l6, l7, l8, l9, l10, l11, l12, l13], [vI b, vI a], S) = if a = b then rn xL_act (149, [l0, l1, l2, l3, l4, l5, l6, l7, l8, l9, l10, l11, l12, l13], [], S) else rn xL_act (153, [l0, l1, l2, l3, l4, l5, l6, l7, l8, l9, l10, l11, l12, l13], [], S) := q_icmp_ne dL_act_146 (by decide) rfl h h1
set_option maxRecDepth 100000 in
theorem eL_act_149 {l0 l1 l2 l3 l4 l5 l6 l7 l8 l9 l10 l11 l12 l13 : Option VV} {S : MM} : rn xL_act (149, [l0, l1, l2, l3, l4, l5, l6, l7, l8, l9, l10, l11, l12, l13], [], S) = rn xL_act (150, [l0, l1, l2, l3, l4, l5, l6, l7, l8, l9, l10, l11, l12, l13], [vI 1], S) := rn_step dL_act_149 rfl rfl
set_option maxRecDepth 100000 in
theorem eL_act_150 {l0 l1 l2 l3 l4 l5 l6 l7 l8 l9 l10 l11 l12 l13 : Option VV} {v0 : VV} {S : MM} : rn xL_act (150, [l0, l1, l2, l3, l4, l5, l6, l7, l8, l9, l10, l11, l12, l13], [v0], S) = rn xL_act (154, [l0, l1, l2, l3, l4, l5, l6, l7, l8, l9, l10, l11, l12, l13], [v0], S) := rn_step dL_act_150 rfl rfl
set_option maxRecDepth 100000 in
theorem eL_act_153 {l0 l1 l2 l3 l4 l5 l6 l7 l8 l9 l10 l11 l12 l13 : Option VV} {S : MM} : rn xL_act (153, [l0, l1, l2, l3, l4, l5, l6, l7, l8, l9, l10, l11, l12, l13], [], S) = rn xL_act (154, [l0, l1, l2, l3, l4, l5, l6, l7, l8, l9, l10, l11, l12, l13], [vI 0], S) := rn_step dL_act_153 rfl rfl
set_option maxRecDepth 100000 in
theorem eL_act_154 {z : Int} {l0 l1 l2 l3 l4 l5 l6 l7 l8 l9 l10 l11 l12 l13 : Option VV} (hz : z = 0 ∨ z = 1) {S : MM} : rn xL_act (154, [l0, l1, l2, l3, l4, l5, l6, l7, l8, l9, l10, l11, l12, l13], [vI z], S) = some (some (vI z), S) := q_retZ dL_act_154 rfl hz
set_option maxRecDepth 100000 in
theorem eL_act_155 {a : Option Nat} {l1 l2 l3 l4 l5 l6 l7 l8 l9 l10 l11 l12 l13 : Option VV} {S : MM} : rn xL_act (155, [some (.inr (.inl a)), l1, l2, l3, l4, l5, l6, l7, l8, l9, l10, l11, l12, l13], [], S) = rn xL_act (156, [some (.inr (.inl a)), l1, l2, l3, l4, l5, l6, l7, l8, l9, l10, l11, l12, l13], [.inr (.inl a)], S) := rn_step dL_act_155 rfl rfl
set_option maxRecDepth 100000 in
theorem eL_act_156 {a : Int} {l0 l1 l2 l3 l4 l6 l7 l8 l9 l10 l11 l12 l13 : Option VV} {v0 : VV} {S : MM} : rn xL_act (156, [l0, l1, l2, l3, l4, some (vI a), l6, l7, l8, l9, l10, l11, l12, l13], [v0], S) = rn xL_act (158, [l0, l1, l2, l3, l4, some (vI a), l6, l7, l8, l9, l10, l11, l12, l13], [vI a, v0], S) := rn_step dL_act_156 rfl rfl
set_option maxRecDepth 100000 in
theorem eL_act_158 {a : Int} {l0 l1 l2 l3 l4 l5 l7 l8 l9 l10 l11 l12 l13 : Option VV} {v0 v1 : VV} {S : MM} : rn xL_act (158, [l0, l1, l2, l3, l4, l5, some (vI a), l7, l8, l9, l10, l11, l12, l13], [v0, v1], S) = rn xL_act (160, [l0, l1, l2, l3, l4, l5, some (vI a), l7, l8, l9, l10, l11, l12, l13], [vI a, v0, v1], S) := rn_step dL_act_158 rfl rfl
set_option maxRecDepth 100000 in
theorem eL_act_160 {a : Int} {l0 l1 l2 l3 l4 l5 l6 l7 l9 l10 l11 l12 l13 : Option VV} {v0 v1 v2 : VV} {S : MM} : rn xL_act (160, [l0, l1, l2, l3, l4, l5, l6, l7, some (vI a), l9, l10, l11, l12, l13], [v0, v1, v2], S) = rn xL_act (162, [l0, l1, l2, l3, l4, l5, l6, l7, some (vI a), l9, l10, l11, l12, l13], [vI a, v0, v1, v2], S) := rn_step dL_act_160 rfl rfl
set_option maxRecDepth 100000 in
theorem eL_act_162 {a0 : Int} {a1 : Int} {a2 : Int} {l0 l1 l2 l3 l4 l5 l6 l7 l8 l9 l10 l11 l12 l13 : Option VV} {S : MM} : rn xL_act (162, [l0, l1, l2, l3, l4, l5, l6, l7, l8, l9, l10, l11, l12, l13], [vI a2, vI a1, vI a0, vR 0], S) = ((kp fX8_stone) [vR 0, vI a0, vI a1, vI a2] S).bind (fun q => rn xL_act (165, [l0, l1, l2, l3, l4, l5, l6, l7, l8, l9, l10, l11, l12, l13], q.1.toList ++ [], q.2)) := q_callV (n := 3) (as := [vI a0, vI a1, vI a2]) (rest := []) dL_act_162 rfl rfl rfl rfl kd0
set_option maxRecDepth 100000 in
theorem eL_act_165 {a : Int} {l0 l1 l2 l3 l4 l5 l6 l8 l9 l10 l11 l12 l13 : Option VV} {v0 : VV} {S : MM} : rn xL_act (165, [l0, l1, l2, l3, l4, l5, l6, some (vI a), l8, l9, l10, l11, l12, l13], [v0], S) = rn xL_act (167, [l0, l1, l2, l3, l4, l5, l6, some (vI a), l8, l9, l10, l11, l12, l13], [vI a, v0], S) := rn_step dL_act_165 rfl rfl
set_option maxRecDepth 100000 in
theorem eL_act_167 {a b : Int} {l0 l1 l2 l3 l4 l5 l6 l7 l8 l9 l10 l11 l12 l13 : Option VV} (h : -2147483648 ≤ a ∧ a ≤ 2147483647) (h1 : -2147483648 ≤ b ∧ b ≤ 2147483647) {S : MM} : rn xL_act (167, [l0, l1, l2, l3, l4, l5, l6, l7, l8, l9, l10, l11, l12, l13], [vI b, vI a], S) = if a = b then rn xL_act (170, [l0, l1, l2, l3, l4, l5, l6, l7, l8, l9, l10, l11, l12, l13], [], S) else rn xL_act (210, [l0, l1, l2, l3, l4, l5, l6, l7, l8, l9, l10, l11, l12, l13], [], S) := q_icmp_ne dL_act_167 (by decide) rfl h h1
set_option maxRecDepth 100000 in
theorem eL_act_170 {a : Option Nat} {l1 l2 l3 l4 l5 l6 l7 l8 l9 l10 l11 l12 l13 : Option VV} {S : MM} : rn xL_act (170, [some (.inr (.inl a)), l1, l2, l3, l4, l5, l6, l7, l8, l9, l10, l11, l12, l13], [], S) = rn xL_act (171, [some (.inr (.inl a)), l1, l2, l3, l4, l5, l6, l7, l8, l9, l10, l11, l12, l13], [.inr (.inl a)], S) := rn_step dL_act_170 rfl rfl
set_option maxRecDepth 100000 in
theorem eL_act_171 {a : Int} {l0 l1 l2 l3 l4 l6 l7 l8 l9 l10 l11 l12 l13 : Option VV} {v0 : VV} {S : MM} : rn xL_act (171, [l0, l1, l2, l3, l4, some (vI a), l6, l7, l8, l9, l10, l11, l12, l13], [v0], S) = rn xL_act (173, [l0, l1, l2, l3, l4, some (vI a), l6, l7, l8, l9, l10, l11, l12, l13], [vI a, v0], S) := rn_step dL_act_171 rfl rfl
set_option maxRecDepth 100000 in
theorem eL_act_173 {a : Int} {l0 l1 l2 l3 l4 l5 l7 l8 l9 l10 l11 l12 l13 : Option VV} {v0 v1 : VV} {S : MM} : rn xL_act (173, [l0, l1, l2, l3, l4, l5, some (vI a), l7, l8, l9, l10, l11, l12, l13], [v0, v1], S) = rn xL_act (175, [l0, l1, l2, l3, l4, l5, some (vI a), l7, l8, l9, l10, l11, l12, l13], [vI a, v0, v1], S) := rn_step dL_act_173 rfl rfl
set_option maxRecDepth 100000 in
theorem eL_act_175 {a0 : Option Nat} {a1 : Int} {a2 : Int} {l0 l1 l2 l3 l4 l5 l6 l7 l8 l9 l10 l11 l12 l13 : Option VV} {S : MM} : rn xL_act (175, [l0, l1, l2, l3, l4, l5, l6, l7, l8, l9, l10, l11, l12, l13], [vI a2, vI a1, .inr (.inl a0)], S) = ((kp fL_repeats) [.inr (.inl a0), vI a1, vI a2] S).bind (fun q => rn xL_act (178, [l0, l1, l2, l3, l4, l5, l6, l7, l8, l9, l10, l11, l12, l13], q.1.toList ++ [], q.2)) := q_callS (n := 3) (as := [.inr (.inl a0), vI a1, vI a2]) (rest := []) dL_act_175 rfl rfl rfl rfl
set_option maxRecDepth 100000 in
theorem eL_act_178 {a : Int} {l0 l1 l2 l3 l4 l5 l6 l7 l9 l10 l11 l12 l13 : Option VV} {v0 : VV} {S : MM} : rn xL_act (178, [l0, l1, l2, l3, l4, l5, l6, l7, some (vI a), l9, l10, l11, l12, l13], [v0], S) = rn xL_act (180, [l0, l1, l2, l3, l4, l5, l6, l7, some (vI a), l9, l10, l11, l12, l13], [vI a, v0], S) := rn_step dL_act_178 rfl rfl
set_option maxRecDepth 100000 in
theorem eL_act_180 {a b : Int} {l0 l1 l2 l3 l4 l5 l6 l7 l8 l9 l10 l11 l12 l13 : Option VV} (h : -2147483648 ≤ a ∧ a ≤ 2147483647) (h1 : -2147483648 ≤ b ∧ b ≤ 2147483647) {S : MM} : rn xL_act (180, [l0, l1, l2, l3, l4, l5, l6, l7, l8, l9, l10, l11, l12, l13], [vI b, vI a], S) = if a = b then rn xL_act (183, [l0, l1, l2, l3, l4, l5, l6, l7, l8, l9, l10, l11, l12, l13], [], S) else rn xL_act (210, [l0, l1, l2, l3, l4, l5, l6, l7, l8, l9, l10, l11, l12, l13], [], S) := q_icmp_ne dL_act_180 (by decide) rfl h h1
set_option maxRecDepth 100000 in
theorem eL_act_183 {a : Option Nat} {l1 l2 l3 l4 l5 l6 l7 l8 l9 l10 l11 l12 l13 : Option VV} {S : MM} : rn xL_act (183, [some (.inr (.inl a)), l1, l2, l3, l4, l5, l6, l7, l8, l9, l10, l11, l12, l13], [], S) = rn xL_act (184, [some (.inr (.inl a)), l1, l2, l3, l4, l5, l6, l7, l8, l9, l10, l11, l12, l13], [.inr (.inl a)], S) := rn_step dL_act_183 rfl rfl
set_option maxRecDepth 100000 in
theorem eL_act_184 {a : Int} {l0 l1 l2 l3 l4 l6 l7 l8 l9 l10 l11 l12 l13 : Option VV} {v0 : VV} {S : MM} : rn xL_act (184, [l0, l1, l2, l3, l4, some (vI a), l6, l7, l8, l9, l10, l11, l12, l13], [v0], S) = rn xL_act (186, [l0, l1, l2, l3, l4, some (vI a), l6, l7, l8, l9, l10, l11, l12, l13], [vI a, v0], S) := rn_step dL_act_184 rfl rfl
set_option maxRecDepth 100000 in
theorem eL_act_186 {l0 l1 l2 l3 l4 l5 l6 l7 l8 l9 l10 l11 l12 l13 : Option VV} {v0 v1 : VV} {S : MM} : rn xL_act (186, [l0, l1, l2, l3, l4, l5, l6, l7, l8, l9, l10, l11, l12, l13], [v0, v1], S) = rn xL_act (187, [l0, l1, l2, l3, l4, l5, l6, l7, l8, l9, l10, l11, l12, l13], [vI 0, v0, v1], S) := rn_step dL_act_186 rfl rfl
set_option maxRecDepth 100000 in
theorem eL_act_187 {a0 : Int} {a1 : Int} {l0 l1 l2 l3 l4 l5 l6 l7 l8 l9 l10 l11 l12 l13 : Option VV} {S : MM} : rn xL_act (187, [l0, l1, l2, l3, l4, l5, l6, l7, l8, l9, l10, l11, l12, l13], [vI a1, vI a0, vR 0], S) = ((kp fX8_ofWalker) [vR 0, vI a0, vI a1] S).bind (fun q => rn xL_act (190, [l0, l1, l2, l3, l4, l5, l6, l7, l8, l9, l10, l11, l12, l13], q.1.toList ++ [], q.2)) := q_callV (n := 2) (as := [vI a0, vI a1]) (rest := []) dL_act_187 rfl rfl rfl rfl kd0
set_option maxRecDepth 100000 in
theorem eL_act_190 {a : Int} {l0 l1 l2 l3 l4 l5 l6 l7 l8 l10 l11 l12 l13 : Option VV} {v0 : VV} {S : MM} : rn xL_act (190, [l0, l1, l2, l3, l4, l5, l6, l7, l8, some (vI a), l10, l11, l12, l13], [v0], S) = rn xL_act (192, [l0, l1, l2, l3, l4, l5, l6, l7, l8, some (vI a), l10, l11, l12, l13], [vI a, v0], S) := rn_step dL_act_190 rfl rfl
set_option maxRecDepth 100000 in
theorem eL_act_192 {a : Int} {l0 l1 l2 l3 l4 l5 l6 l8 l9 l10 l11 l12 l13 : Option VV} {v0 v1 : VV} {S : MM} : rn xL_act (192, [l0, l1, l2, l3, l4, l5, l6, some (vI a), l8, l9, l10, l11, l12, l13], [v0, v1], S) = rn xL_act (194, [l0, l1, l2, l3, l4, l5, l6, some (vI a), l8, l9, l10, l11, l12, l13], [vI a, v0, v1], S) := rn_step dL_act_192 rfl rfl
set_option maxRecDepth 100000 in
theorem eL_act_194 {a : Int} {l0 l1 l2 l3 l4 l5 l6 l7 l8 l9 l10 l11 l12 l13 : Option VV} {v1 v2 : VV} (h : -2147483648 ≤ a ∧ a ≤ 2147483647) {S : MM} : rn xL_act (194, [l0, l1, l2, l3, l4, l5, l6, l7, l8, l9, l10, l11, l12, l13], [vI a, v1, v2], S) = if a = 0 then rn xL_act (197, [l0, l1, l2, l3, l4, l5, l6, l7, l8, l9, l10, l11, l12, l13], [v1, v2], S) else rn xL_act (201, [l0, l1, l2, l3, l4, l5, l6, l7, l8, l9, l10, l11, l12, l13], [v1, v2], S) := q_if_ne dL_act_194 (by decide) rfl h
set_option maxRecDepth 100000 in
theorem eL_act_197 {l0 l1 l2 l3 l4 l5 l6 l7 l8 l9 l10 l11 l12 l13 : Option VV} {v0 v1 : VV} {S : MM} : rn xL_act (197, [l0, l1, l2, l3, l4, l5, l6, l7, l8, l9, l10, l11, l12, l13], [v0, v1], S) = rn xL_act (198, [l0, l1, l2, l3, l4, l5, l6, l7, l8, l9, l10, l11, l12, l13], [vI 1, v0, v1], S) := rn_step dL_act_197 rfl rfl
set_option maxRecDepth 100000 in
theorem eL_act_198 {l0 l1 l2 l3 l4 l5 l6 l7 l8 l9 l10 l11 l12 l13 : Option VV} {v0 v1 v2 : VV} {S : MM} : rn xL_act (198, [l0, l1, l2, l3, l4, l5, l6, l7, l8, l9, l10, l11, l12, l13], [v0, v1, v2], S) = rn xL_act (202, [l0, l1, l2, l3, l4, l5, l6, l7, l8, l9, l10, l11, l12, l13], [v0, v1, v2], S) := rn_step dL_act_198 rfl rfl
set_option maxRecDepth 100000 in
theorem eL_act_201 {l0 l1 l2 l3 l4 l5 l6 l7 l8 l9 l10 l11 l12 l13 : Option VV} {v0 v1 : VV} {S : MM} : rn xL_act (201, [l0, l1, l2, l3, l4, l5, l6, l7, l8, l9, l10, l11, l12, l13], [v0, v1], S) = rn xL_act (202, [l0, l1, l2, l3, l4, l5, l6, l7, l8, l9, l10, l11, l12, l13], [vI 0, v0, v1], S) := rn_step dL_act_201 rfl rfl
set_option maxRecDepth 100000 in
theorem eL_act_202 {a b : Int} {l0 l1 l2 l3 l4 l5 l6 l7 l8 l9 l10 l11 l12 l13 : Option VV} {v2 : VV} {S : MM} : rn xL_act (202, [l0, l1, l2, l3, l4, l5, l6, l7, l8, l9, l10, l11, l12, l13], [vI b, vI a, v2], S) = rn xL_act (203, [l0, l1, l2, l3, l4, l5, l6, l7, l8, l9, l10, l11, l12, l13], [vI (a + b), v2], S) := rn_step dL_act_202 rfl rfl
set_option maxRecDepth 100000 in
theorem eL_act_203 {a b : Int} {l0 l1 l2 l3 l4 l5 l6 l7 l8 l9 l10 l11 l12 l13 : Option VV} (h : -2147483648 ≤ a ∧ a ≤ 2147483647) (h1 : -2147483648 ≤ b ∧ b ≤ 2147483647) {S : MM} : rn xL_act (203, [l0, l1, l2, l3, l4, l5, l6, l7, l8, l9, l10, l11, l12, l13], [vI b, vI a], S) = if a = b then rn xL_act (206, [l0, l1, l2, l3, l4, l5, l6, l7, l8, l9, l10, l11, l12, l13], [], S) else rn xL_act (210, [l0, l1, l2, l3, l4, l5, l6, l7, l8, l9, l10, l11, l12, l13], [], S) := q_icmp_ne dL_act_203 (by decide) rfl h h1
set_option maxRecDepth 100000 in
theorem eL_act_206 {l0 l1 l2 l3 l4 l5 l6 l7 l8 l9 l10 l11 l12 l13 : Option VV} {S : MM} : rn xL_act (206, [l0, l1, l2, l3, l4, l5, l6, l7, l8, l9, l10, l11, l12, l13], [], S) = rn xL_act (207, [l0, l1, l2, l3, l4, l5, l6, l7, l8, l9, l10, l11, l12, l13], [vI 1], S) := rn_step dL_act_206 rfl rfl
set_option maxRecDepth 100000 in
theorem eL_act_207 {l0 l1 l2 l3 l4 l5 l6 l7 l8 l9 l10 l11 l12 l13 : Option VV} {v0 : VV} {S : MM} : rn xL_act (207, [l0, l1, l2, l3, l4, l5, l6, l7, l8, l9, l10, l11, l12, l13], [v0], S) = rn xL_act (211, [l0, l1, l2, l3, l4, l5, l6, l7, l8, l9, l10, l11, l12, l13], [v0], S) := rn_step dL_act_207 rfl rfl
set_option maxRecDepth 100000 in
theorem eL_act_210 {l0 l1 l2 l3 l4 l5 l6 l7 l8 l9 l10 l11 l12 l13 : Option VV} {S : MM} : rn xL_act (210, [l0, l1, l2, l3, l4, l5, l6, l7, l8, l9, l10, l11, l12, l13], [], S) = rn xL_act (211, [l0, l1, l2, l3, l4, l5, l6, l7, l8, l9, l10, l11, l12, l13], [vI 0], S) := rn_step dL_act_210 rfl rfl
set_option maxRecDepth 100000 in
theorem eL_act_211 {z : Int} {l0 l1 l2 l3 l4 l5 l6 l7 l8 l9 l10 l11 l12 l13 : Option VV} (hz : z = 0 ∨ z = 1) {S : MM} : rn xL_act (211, [l0, l1, l2, l3, l4, l5, l6, l7, l8, l9, l10, l11, l12, l13], [vI z], S) = some (some (vI z), S) := q_retZ dL_act_211 rfl hz
set_option maxRecDepth 100000 in
theorem eL_act_212 {a : Int} {l0 l1 l2 l3 l5 l6 l7 l8 l9 l10 l11 l12 l13 : Option VV} {S : MM} : rn xL_act (212, [l0, l1, l2, l3, some (vI a), l5, l6, l7, l8, l9, l10, l11, l12, l13], [], S) = rn xL_act (214, [l0, l1, l2, l3, some (vI a), l5, l6, l7, l8, l9, l10, l11, l12, l13], [vI a], S) := rn_step dL_act_212 rfl rfl
set_option maxRecDepth 100000 in
theorem eL_act_214 {l0 l1 l2 l3 l4 l5 l6 l7 l8 l9 l10 l11 l12 l13 : Option VV} {v0 : VV} {S : MM} : rn xL_act (214, [l0, l1, l2, l3, l4, l5, l6, l7, l8, l9, l10, l11, l12, l13], [v0], S) = rn xL_act (215, [l0, l1, l2, l3, l4, l5, l6, l7, l8, l9, l10, l11, l12, l13], [vI 3, v0], S) := rn_step dL_act_214 rfl rfl
set_option maxRecDepth 100000 in
theorem eL_act_215 {a0 : Int} {a1 : Int} {l0 l1 l2 l3 l4 l5 l6 l7 l8 l9 l10 l11 l12 l13 : Option VV} {S : MM} : rn xL_act (215, [l0, l1, l2, l3, l4, l5, l6, l7, l8, l9, l10, l11, l12, l13], [vI a1, vI a0], S) = ((kp fL_up) [vI a0, vI a1] S).bind (fun q => rn xL_act (218, [l0, l1, l2, l3, l4, l5, l6, l7, l8, l9, l10, l11, l12, l13], q.1.toList ++ [], q.2)) := q_callS (n := 2) (as := [vI a0, vI a1]) (rest := []) dL_act_215 rfl rfl rfl rfl
set_option maxRecDepth 100000 in
theorem eL_act_218 {a : Int} {l0 l1 l2 l3 l4 l5 l6 l7 l8 l9 l10 l11 l12 l13 : Option VV} (h : -2147483648 ≤ a ∧ a ≤ 2147483647) {S : MM} : rn xL_act (218, [l0, l1, l2, l3, l4, l5, l6, l7, l8, l9, l10, l11, l12, l13], [vI a], S) = if a = 0 then rn xL_act (221, [l0, l1, l2, l3, l4, l5, l6, l7, l8, l9, l10, l11, l12, l13], [], S) else rn xL_act (226, [l0, l1, l2, l3, l4, l5, l6, l7, l8, l9, l10, l11, l12, l13], [], S) := q_if_ne dL_act_218 (by decide) rfl h
set_option maxRecDepth 100000 in
theorem eL_act_221 {l0 l1 l2 l3 l4 l5 l6 l7 l8 l9 l10 l11 l12 l13 : Option VV} {S : MM} : rn xL_act (221, [l0, l1, l2, l3, l4, l5, l6, l7, l8, l9, l10, l11, l12, l13], [], S) = rn xL_act (223, [l0, l1, l2, l3, l4, l5, l6, l7, l8, l9, l10, l11, l12, l13], [vI (-6)], S) := rn_step dL_act_221 rfl rfl
set_option maxRecDepth 100000 in
theorem eL_act_223 {l0 l1 l2 l3 l4 l5 l6 l7 l8 l9 l10 l11 l12 l13 : Option VV} {v0 : VV} {S : MM} : rn xL_act (223, [l0, l1, l2, l3, l4, l5, l6, l7, l8, l9, l10, l11, l12, l13], [v0], S) = rn xL_act (228, [l0, l1, l2, l3, l4, l5, l6, l7, l8, l9, l10, l11, l12, l13], [v0], S) := rn_step dL_act_223 rfl rfl
set_option maxRecDepth 100000 in
theorem eL_act_226 {a : Int} {l0 l1 l2 l3 l4 l6 l7 l8 l9 l10 l11 l12 l13 : Option VV} {S : MM} : rn xL_act (226, [l0, l1, l2, l3, l4, some (vI a), l6, l7, l8, l9, l10, l11, l12, l13], [], S) = rn xL_act (228, [l0, l1, l2, l3, l4, some (vI a), l6, l7, l8, l9, l10, l11, l12, l13], [vI a], S) := rn_step dL_act_226 rfl rfl
set_option maxRecDepth 100000 in
theorem eL_act_228 {a : Int} {w : Int} {l0 l1 l2 l3 l4 l5 l7 l8 l9 l10 l11 l12 l13 : Option VV} {S : MM} : rn xL_act (228, [l0, l1, l2, l3, l4, l5, some (vI w), l7, l8, l9, l10, l11, l12, l13], [vI a], S) = rn xL_act (230, [l0, l1, l2, l3, l4, l5, some (vI w), some (vI a), l8, l9, l10, l11, l12, l13], [], S) := rn_step dL_act_228 rfl rfl
set_option maxRecDepth 100000 in
theorem eL_act_230 {a : Int} {l0 l1 l2 l3 l4 l5 l7 l8 l9 l10 l11 l12 l13 : Option VV} {S : MM} : rn xL_act (230, [l0, l1, l2, l3, l4, l5, some (vI a), l7, l8, l9, l10, l11, l12, l13], [], S) = rn xL_act (232, [l0, l1, l2, l3, l4, l5, some (vI a), l7, l8, l9, l10, l11, l12, l13], [vI a], S) := rn_step dL_act_230 rfl rfl
set_option maxRecDepth 100000 in
theorem eL_act_232 {a : Int} {l0 l1 l2 l3 l5 l6 l7 l8 l9 l10 l11 l12 l13 : Option VV} {v0 : VV} {S : MM} : rn xL_act (232, [l0, l1, l2, l3, some (vI a), l5, l6, l7, l8, l9, l10, l11, l12, l13], [v0], S) = rn xL_act (234, [l0, l1, l2, l3, some (vI a), l5, l6, l7, l8, l9, l10, l11, l12, l13], [vI a, v0], S) := rn_step dL_act_232 rfl rfl
set_option maxRecDepth 100000 in
theorem eL_act_234 {l0 l1 l2 l3 l4 l5 l6 l7 l8 l9 l10 l11 l12 l13 : Option VV} {v0 v1 : VV} {S : MM} : rn xL_act (234, [l0, l1, l2, l3, l4, l5, l6, l7, l8, l9, l10, l11, l12, l13], [v0, v1], S) = rn xL_act (235, [l0, l1, l2, l3, l4, l5, l6, l7, l8, l9, l10, l11, l12, l13], [vI 2, v0, v1], S) := rn_step dL_act_234 rfl rfl
set_option maxRecDepth 100000 in
theorem eL_act_235 {a : Int} {l0 l1 l2 l3 l4 l5 l6 l7 l8 l9 l10 l11 l12 l13 : Option VV} {v2 : VV} (h : -2147483648 ≤ a ∧ a ≤ 2147483647) {S : MM} : rn xL_act (235, [l0, l1, l2, l3, l4, l5, l6, l7, l8, l9, l10, l11, l12, l13], [vI 2, vI a, v2], S) = rn xL_act (236, [l0, l1, l2, l3, l4, l5, l6, l7, l8, l9, l10, l11, l12, l13], [vI (a / 4), v2], S) := q_ishrK dL_act_235 ⟨by decide, by decide⟩ rfl h
set_option maxRecDepth 100000 in
theorem eL_act_236 {a : Int} {l0 l1 l2 l3 l5 l6 l7 l8 l9 l10 l11 l12 l13 : Option VV} {v0 v1 : VV} {S : MM} : rn xL_act (236, [l0, l1, l2, l3, some (vI a), l5, l6, l7, l8, l9, l10, l11, l12, l13], [v0, v1], S) = rn xL_act (238, [l0, l1, l2, l3, some (vI a), l5, l6, l7, l8, l9, l10, l11, l12, l13], [vI a, v0, v1], S) := rn_step dL_act_236 rfl rfl
set_option maxRecDepth 100000 in
theorem eL_act_238 {l0 l1 l2 l3 l4 l5 l6 l7 l8 l9 l10 l11 l12 l13 : Option VV} {v0 v1 v2 : VV} {S : MM} : rn xL_act (238, [l0, l1, l2, l3, l4, l5, l6, l7, l8, l9, l10, l11, l12, l13], [v0, v1, v2], S) = rn xL_act (240, [l0, l1, l2, l3, l4, l5, l6, l7, l8, l9, l10, l11, l12, l13], [vI 9, v0, v1, v2], S) := rn_step dL_act_238 rfl rfl
set_option maxRecDepth 100000 in
theorem eL_act_240 {a : Int} {l0 l1 l2 l3 l4 l5 l6 l7 l8 l9 l10 l11 l12 l13 : Option VV} {v2 v3 : VV} (h : -2147483648 ≤ a ∧ a ≤ 2147483647) {S : MM} : rn xL_act (240, [l0, l1, l2, l3, l4, l5, l6, l7, l8, l9, l10, l11, l12, l13], [vI 9, vI a, v2, v3], S) = rn xL_act (241, [l0, l1, l2, l3, l4, l5, l6, l7, l8, l9, l10, l11, l12, l13], [vI (a / 512), v2, v3], S) := q_ishrK dL_act_240 ⟨by decide, by decide⟩ rfl h
set_option maxRecDepth 100000 in
theorem eL_act_241 {l0 l1 l2 l3 l4 l5 l6 l7 l8 l9 l10 l11 l12 l13 : Option VV} {v0 v1 v2 : VV} {S : MM} : rn xL_act (241, [l0, l1, l2, l3, l4, l5, l6, l7, l8, l9, l10, l11, l12, l13], [v0, v1, v2], S) = rn xL_act (242, [l0, l1, l2, l3, l4, l5, l6, l7, l8, l9, l10, l11, l12, l13], [vI 3, v0, v1, v2], S) := rn_step dL_act_241 rfl rfl
set_option maxRecDepth 100000 in
theorem eL_act_242 {a0 : Int} {a1 : Int} {l0 l1 l2 l3 l4 l5 l6 l7 l8 l9 l10 l11 l12 l13 : Option VV} {v2 v3 : VV} {S : MM} : rn xL_act (242, [l0, l1, l2, l3, l4, l5, l6, l7, l8, l9, l10, l11, l12, l13], [vI a1, vI a0, v2, v3], S) = ((kp fL_up) [vI a0, vI a1] S).bind (fun q => rn xL_act (245, [l0, l1, l2, l3, l4, l5, l6, l7, l8, l9, l10, l11, l12, l13], q.1.toList ++ [v2, v3], q.2)) := q_callS (n := 2) (as := [vI a0, vI a1]) (rest := [v2, v3]) dL_act_242 rfl rfl rfl rfl
set_option maxRecDepth 100000 in
theorem eL_act_245 {a : Int} {l0 l1 l2 l3 l4 l5 l6 l7 l8 l9 l10 l11 l12 l13 : Option VV} {v1 v2 : VV} (h : -2147483648 ≤ a ∧ a ≤ 2147483647) {S : MM} : rn xL_act (245, [l0, l1, l2, l3, l4, l5, l6, l7, l8, l9, l10, l11, l12, l13], [vI a, v1, v2], S) = if a = 0 then rn xL_act (248, [l0, l1, l2, l3, l4, l5, l6, l7, l8, l9, l10, l11, l12, l13], [v1, v2], S) else rn xL_act (253, [l0, l1, l2, l3, l4, l5, l6, l7, l8, l9, l10, l11, l12, l13], [v1, v2], S) := q_if_ne dL_act_245 (by decide) rfl h
set_option maxRecDepth 100000 in
theorem eL_act_248 {l0 l1 l2 l3 l4 l5 l6 l7 l8 l9 l10 l11 l12 l13 : Option VV} {v0 v1 : VV} {S : MM} : rn xL_act (248, [l0, l1, l2, l3, l4, l5, l6, l7, l8, l9, l10, l11, l12, l13], [v0, v1], S) = rn xL_act (250, [l0, l1, l2, l3, l4, l5, l6, l7, l8, l9, l10, l11, l12, l13], [vI 20, v0, v1], S) := rn_step dL_act_248 rfl rfl
set_option maxRecDepth 100000 in
theorem eL_act_250 {l0 l1 l2 l3 l4 l5 l6 l7 l8 l9 l10 l11 l12 l13 : Option VV} {v0 v1 v2 : VV} {S : MM} : rn xL_act (250, [l0, l1, l2, l3, l4, l5, l6, l7, l8, l9, l10, l11, l12, l13], [v0, v1, v2], S) = rn xL_act (254, [l0, l1, l2, l3, l4, l5, l6, l7, l8, l9, l10, l11, l12, l13], [v0, v1, v2], S) := rn_step dL_act_250 rfl rfl
set_option maxRecDepth 100000 in
theorem eL_act_253 {l0 l1 l2 l3 l4 l5 l6 l7 l8 l9 l10 l11 l12 l13 : Option VV} {v0 v1 : VV} {S : MM} : rn xL_act (253, [l0, l1, l2, l3, l4, l5, l6, l7, l8, l9, l10, l11, l12, l13], [v0, v1], S) = rn xL_act (254, [l0, l1, l2, l3, l4, l5, l6, l7, l8, l9, l10, l11, l12, l13], [vI 3, v0, v1], S) := rn_step dL_act_253 rfl rfl
set_option maxRecDepth 100000 in
theorem eL_act_254 {a0 : Int} {a1 : Int} {l0 l1 l2 l3 l4 l5 l6 l7 l8 l9 l10 l11 l12 l13 : Option VV} {v2 : VV} {S : MM} : rn xL_act (254, [l0, l1, l2, l3, l4, l5, l6, l7, l8, l9, l10, l11, l12, l13], [vI a1, vI a0, v2], S) = ((kp fL_up) [vI a0, vI a1] S).bind (fun q => rn xL_act (257, [l0, l1, l2, l3, l4, l5, l6, l7, l8, l9, l10, l11, l12, l13], q.1.toList ++ [v2], q.2)) := q_callS (n := 2) (as := [vI a0, vI a1]) (rest := [v2]) dL_act_254 rfl rfl rfl rfl
set_option maxRecDepth 100000 in
theorem eL_act_257 {a b : Int} {l0 l1 l2 l3 l4 l5 l6 l7 l8 l9 l10 l11 l12 l13 : Option VV} {S : MM} : rn xL_act (257, [l0, l1, l2, l3, l4, l5, l6, l7, l8, l9, l10, l11, l12, l13], [vI b, vI a], S) = rn xL_act (258, [l0, l1, l2, l3, l4, l5, l6, l7, l8, l9, l10, l11, l12, l13], [vI (a + b)], S) := rn_step dL_act_257 rfl rfl
set_option maxRecDepth 100000 in
theorem eL_act_258 {a : Int} {w : Int} {l0 l1 l2 l3 l4 l5 l6 l8 l9 l10 l11 l12 l13 : Option VV} {S : MM} : rn xL_act (258, [l0, l1, l2, l3, l4, l5, l6, some (vI w), l8, l9, l10, l11, l12, l13], [vI a], S) = rn xL_act (260, [l0, l1, l2, l3, l4, l5, l6, some (vI w), some (vI a), l9, l10, l11, l12, l13], [], S) := rn_step dL_act_258 rfl rfl
set_option maxRecDepth 100000 in
theorem eL_act_260 {a : Int} {l0 l1 l2 l3 l4 l5 l6 l7 l9 l10 l11 l12 l13 : Option VV} {S : MM} : rn xL_act (260, [l0, l1, l2, l3, l4, l5, l6, l7, some (vI a), l9, l10, l11, l12, l13], [], S) = rn xL_act (262, [l0, l1, l2, l3, l4, l5, l6, l7, some (vI a), l9, l10, l11, l12, l13], [vI a], S) := rn_step dL_act_260 rfl rfl
set_option maxRecDepth 100000 in
theorem eL_act_262 {l0 l1 l2 l3 l4 l5 l6 l7 l8 l9 l10 l11 l12 l13 : Option VV} {v0 : VV} {S : MM} : rn xL_act (262, [l0, l1, l2, l3, l4, l5, l6, l7, l8, l9, l10, l11, l12, l13], [v0], S) = rn xL_act (265, [l0, l1, l2, l3, l4, l5, l6, l7, l8, l9, l10, l11, l12, l13], [vI 299, v0], S) := rn_step dL_act_262 rfl rfl
set_option maxRecDepth 100000 in
theorem eL_act_265 {a b : Int} {l0 l1 l2 l3 l4 l5 l6 l7 l8 l9 l10 l11 l12 l13 : Option VV} (h : -2147483648 ≤ a ∧ a ≤ 2147483647) (h1 : -2147483648 ≤ b ∧ b ≤ 2147483647) {S : MM} : rn xL_act (265, [l0, l1, l2, l3, l4, l5, l6, l7, l8, l9, l10, l11, l12, l13], [vI b, vI a], S) = if b < a then rn xL_act (268, [l0, l1, l2, l3, l4, l5, l6, l7, l8, l9, l10, l11, l12, l13], [], S) else rn xL_act (289, [l0, l1, l2, l3, l4, l5, l6, l7, l8, l9, l10, l11, l12, l13], [], S) := q_icmp_le dL_act_265 (by decide) rfl h h1
set_option maxRecDepth 100000 in
theorem eL_act_268 {a : Option Nat} {l1 l2 l3 l4 l5 l6 l7 l8 l9 l10 l11 l12 l13 : Option VV} {S : MM} : rn xL_act (268, [some (.inr (.inl a)), l1, l2, l3, l4, l5, l6, l7, l8, l9, l10, l11, l12, l13], [], S) = rn xL_act (269, [some (.inr (.inl a)), l1, l2, l3, l4, l5, l6, l7, l8, l9, l10, l11, l12, l13], [.inr (.inl a)], S) := rn_step dL_act_268 rfl rfl
set_option maxRecDepth 100000 in
theorem eL_act_269 {a : Int} {l0 l1 l2 l3 l4 l5 l6 l8 l9 l10 l11 l12 l13 : Option VV} {v0 : VV} {S : MM} : rn xL_act (269, [l0, l1, l2, l3, l4, l5, l6, some (vI a), l8, l9, l10, l11, l12, l13], [v0], S) = rn xL_act (271, [l0, l1, l2, l3, l4, l5, l6, some (vI a), l8, l9, l10, l11, l12, l13], [vI a, v0], S) := rn_step dL_act_269 rfl rfl
set_option maxRecDepth 100000 in
theorem eL_act_271 {a : Int} {l0 l1 l2 l3 l4 l5 l7 l8 l9 l10 l11 l12 l13 : Option VV} {v0 v1 : VV} {S : MM} : rn xL_act (271, [l0, l1, l2, l3, l4, l5, some (vI a), l7, l8, l9, l10, l11, l12, l13], [v0, v1], S) = rn xL_act (273, [l0, l1, l2, l3, l4, l5, some (vI a), l7, l8, l9, l10, l11, l12, l13], [vI a, v0, v1], S) := rn_step dL_act_271 rfl rfl
set_option maxRecDepth 100000 in
theorem eL_act_273 {a : Int} {l0 l1 l2 l3 l4 l5 l6 l7 l9 l10 l11 l12 l13 : Option VV} {v0 v1 v2 : VV} {S : MM} : rn xL_act (273, [l0, l1, l2, l3, l4, l5, l6, l7, some (vI a), l9, l10, l11, l12, l13], [v0, v1, v2], S) = rn xL_act (275, [l0, l1, l2, l3, l4, l5, l6, l7, some (vI a), l9, l10, l11, l12, l13], [vI a, v0, v1, v2], S) := rn_step dL_act_273 rfl rfl
set_option maxRecDepth 100000 in
theorem eL_act_275 {a0 : Int} {a1 : Int} {a2 : Int} {l0 l1 l2 l3 l4 l5 l6 l7 l8 l9 l10 l11 l12 l13 : Option VV} {S : MM} : rn xL_act (275, [l0, l1, l2, l3, l4, l5, l6, l7, l8, l9, l10, l11, l12, l13], [vI a2, vI a1, vI a0, vR 0], S) = ((kp fX8_flood) [vR 0, vI a0, vI a1, vI a2] S).bind (fun q => rn xL_act (278, [l0, l1, l2, l3, l4, l5, l6, l7, l8, l9, l10, l11, l12, l13], q.1.toList ++ [], q.2)) := q_callV (n := 3) (as := [vI a0, vI a1, vI a2]) (rest := []) dL_act_275 rfl rfl rfl rfl kd0
set_option maxRecDepth 100000 in
theorem eL_act_278 {l0 l1 l2 l3 l4 l5 l6 l7 l8 l9 l10 l11 l12 l13 : Option VV} {v0 : VV} {S : MM} : rn xL_act (278, [l0, l1, l2, l3, l4, l5, l6, l7, l8, l9, l10, l11, l12, l13], [v0], S) = rn xL_act (280, [l0, l1, l2, l3, l4, l5, l6, l7, l8, l9, l10, l11, l12, l13], [vI (-2), v0], S) := rn_step dL_act_278 rfl rfl
set_option maxRecDepth 100000 in
theorem eL_act_280 {a b : Int} {l0 l1 l2 l3 l4 l5 l6 l7 l8 l9 l10 l11 l12 l13 : Option VV} (h : -2147483648 ≤ a ∧ a ≤ 2147483647) (h1 : -2147483648 ≤ b ∧ b ≤ 2147483647) {S : MM} : rn xL_act (280, [l0, l1, l2, l3, l4, l5, l6, l7, l8, l9, l10, l11, l12, l13], [vI b, vI a], S) = if a = b then rn xL_act (283, [l0, l1, l2, l3, l4, l5, l6, l7, l8, l9, l10, l11, l12, l13], [], S) else rn xL_act (287, [l0, l1, l2, l3, l4, l5, l6, l7, l8, l9, l10, l11, l12, l13], [], S) := q_icmp_ne dL_act_280 (by decide) rfl h h1
set_option maxRecDepth 100000 in
theorem eL_act_283 {l0 l1 l2 l3 l4 l5 l6 l7 l8 l9 l10 l11 l12 l13 : Option VV} {S : MM} : rn xL_act (283, [l0, l1, l2, l3, l4, l5, l6, l7, l8, l9, l10, l11, l12, l13], [], S) = rn xL_act (284, [l0, l1, l2, l3, l4, l5, l6, l7, l8, l9, l10, l11, l12, l13], [vI 1], S) := rn_step dL_act_283 rfl rfl
set_option maxRecDepth 100000 in
theorem eL_act_284 {l0 l1 l2 l3 l4 l5 l6 l7 l8 l9 l10 l11 l12 l13 : Option VV} {v0 : VV} {S : MM} : rn xL_act (284, [l0, l1, l2, l3, l4, l5, l6, l7, l8, l9, l10, l11, l12, l13], [v0], S) = rn xL_act (288, [l0, l1, l2, l3, l4, l5, l6, l7, l8, l9, l10, l11, l12, l13], [v0], S) := rn_step dL_act_284 rfl rfl
set_option maxRecDepth 100000 in
theorem eL_act_287 {l0 l1 l2 l3 l4 l5 l6 l7 l8 l9 l10 l11 l12 l13 : Option VV} {S : MM} : rn xL_act (287, [l0, l1, l2, l3, l4, l5, l6, l7, l8, l9, l10, l11, l12, l13], [], S) = rn xL_act (288, [l0, l1, l2, l3, l4, l5, l6, l7, l8, l9, l10, l11, l12, l13], [vI 0], S) := rn_step dL_act_287 rfl rfl
set_option maxRecDepth 100000 in
theorem eL_act_288 {z : Int} {l0 l1 l2 l3 l4 l5 l6 l7 l8 l9 l10 l11 l12 l13 : Option VV} (hz : z = 0 ∨ z = 1) {S : MM} : rn xL_act (288, [l0, l1, l2, l3, l4, l5, l6, l7, l8, l9, l10, l11, l12, l13], [vI z], S) = some (some (vI z), S) := q_retZ dL_act_288 rfl hz
set_option maxRecDepth 100000 in
theorem eL_act_289 {a : Option Nat} {l1 l2 l3 l4 l5 l6 l7 l8 l9 l10 l11 l12 l13 : Option VV} {S : MM} : rn xL_act (289, [some (.inr (.inl a)), l1, l2, l3, l4, l5, l6, l7, l8, l9, l10, l11, l12, l13], [], S) = rn xL_act (290, [some (.inr (.inl a)), l1, l2, l3, l4, l5, l6, l7, l8, l9, l10, l11, l12, l13], [.inr (.inl a)], S) := rn_step dL_act_289 rfl rfl
set_option maxRecDepth 100000 in
theorem eL_act_290 {a : Int} {l0 l1 l2 l3 l4 l5 l6 l8 l9 l10 l11 l12 l13 : Option VV} {v0 : VV} {S : MM} : rn xL_act (290, [l0, l1, l2, l3, l4, l5, l6, some (vI a), l8, l9, l10, l11, l12, l13], [v0], S) = rn xL_act (292, [l0, l1, l2, l3, l4, l5, l6, some (vI a), l8, l9, l10, l11, l12, l13], [vI a, v0], S) := rn_step dL_act_290 rfl rfl
set_option maxRecDepth 100000 in
theorem eL_act_292 {a : Int} {l0 l1 l2 l3 l4 l5 l7 l8 l9 l10 l11 l12 l13 : Option VV} {v0 v1 : VV} {S : MM} : rn xL_act (292, [l0, l1, l2, l3, l4, l5, some (vI a), l7, l8, l9, l10, l11, l12, l13], [v0, v1], S) = rn xL_act (294, [l0, l1, l2, l3, l4, l5, some (vI a), l7, l8, l9, l10, l11, l12, l13], [vI a, v0, v1], S) := rn_step dL_act_292 rfl rfl
set_option maxRecDepth 100000 in
theorem eL_act_294 {a : Int} {l0 l1 l2 l3 l4 l5 l6 l7 l9 l10 l11 l12 l13 : Option VV} {v0 v1 v2 : VV} {S : MM} : rn xL_act (294, [l0, l1, l2, l3, l4, l5, l6, l7, some (vI a), l9, l10, l11, l12, l13], [v0, v1, v2], S) = rn xL_act (296, [l0, l1, l2, l3, l4, l5, l6, l7, some (vI a), l9, l10, l11, l12, l13], [vI a, v0, v1, v2], S) := rn_step dL_act_294 rfl rfl
set_option maxRecDepth 100000 in
theorem eL_act_296 {a0 : Option Nat} {a1 : Int} {a2 : Int} {a3 : Int} {l0 l1 l2 l3 l4 l5 l6 l7 l8 l9 l10 l11 l12 l13 : Option VV} {S : MM} : rn xL_act (296, [l0, l1, l2, l3, l4, l5, l6, l7, l8, l9, l10, l11, l12, l13], [vI a3, vI a2, vI a1, .inr (.inl a0)], S) = (fL_flood [.inr (.inl a0), vI a1, vI a2, vI a3] S).bind (fun q => rn xL_act (299, [l0, l1, l2, l3, l4, l5, l6, l7, l8, l9, l10, l11, l12, l13], q.1.toList ++ [], q.2)) := q_callS (n := 4) (as := [.inr (.inl a0), vI a1, vI a2, vI a3]) (rest := []) dL_act_296 rfl rfl rfl rfl
set_option maxRecDepth 100000 in
theorem eL_act_299 {z : Int} {l0 l1 l2 l3 l4 l5 l6 l7 l8 l9 l10 l11 l12 l13 : Option VV} (hz : z = 0 ∨ z = 1) {S : MM} : rn xL_act (299, [l0, l1, l2, l3, l4, l5, l6, l7, l8, l9, l10, l11, l12, l13], [vI z], S) = some (some (vI z), S) := q_retZ dL_act_299 rfl hz
set_option maxRecDepth 100000 in
theorem eL_act_300 {a : Option Nat} {l1 l2 l3 l4 l5 l6 l7 l8 l9 l10 l11 l12 l13 : Option VV} {S : MM} : rn xL_act (300, [some (.inr (.inl a)), l1, l2, l3, l4, l5, l6, l7, l8, l9, l10, l11, l12, l13], [], S) = rn xL_act (301, [some (.inr (.inl a)), l1, l2, l3, l4, l5, l6, l7, l8, l9, l10, l11, l12, l13], [.inr (.inl a)], S) := rn_step dL_act_300 rfl rfl
set_option maxRecDepth 100000 in
theorem eL_act_301 {l0 l1 l2 l3 l4 l5 l6 l7 l8 l9 l10 l11 l12 l13 : Option VV} {v0 : VV} {S : MM} : rn xL_act (301, [l0, l1, l2, l3, l4, l5, l6, l7, l8, l9, l10, l11, l12, l13], [v0], S) = rn xL_act (302, [l0, l1, l2, l3, l4, l5, l6, l7, l8, l9, l10, l11, l12, l13], [vI 1, v0], S) := rn_step dL_act_301 rfl rfl
set_option maxRecDepth 100000 in
theorem eL_act_302 {a0 : Int} {l0 l1 l2 l3 l4 l5 l6 l7 l8 l9 l10 l11 l12 l13 : Option VV} {S : MM} : rn xL_act (302, [l0, l1, l2, l3, l4, l5, l6, l7, l8, l9, l10, l11, l12, l13], [vI a0, vR 0], S) = ((kp fX8_count) [vR 0, vI a0] S).bind (fun q => rn xL_act (305, [l0, l1, l2, l3, l4, l5, l6, l7, l8, l9, l10, l11, l12, l13], q.1.toList ++ [], q.2)) := q_callV (n := 1) (as := [vI a0]) (rest := []) dL_act_302 rfl rfl rfl rfl kd0
set_option maxRecDepth 100000 in
theorem eL_act_305 {a : Int} {w : Int} {l0 l1 l2 l3 l4 l5 l7 l8 l9 l10 l11 l12 l13 : Option VV} {S : MM} : rn xL_act (305, [l0, l1, l2, l3, l4, l5, some (vI w), l7, l8, l9, l10, l11, l12, l13], [vI a], S) = rn xL_act (307, [l0, l1, l2, l3, l4, l5, some (vI w), some (vI a), l8, l9, l10, l11, l12, l13], [], S) := rn_step dL_act_305 rfl rfl
set_option maxRecDepth 100000 in
theorem eL_act_307 {a : Option Nat} {l1 l2 l3 l4 l5 l6 l7 l8 l9 l10 l11 l12 l13 : Option VV} {S : MM} : rn xL_act (307, [some (.inr (.inl a)), l1, l2, l3, l4, l5, l6, l7, l8, l9, l10, l11, l12, l13], [], S) = rn xL_act (308, [some (.inr (.inl a)), l1, l2, l3, l4, l5, l6, l7, l8, l9, l10, l11, l12, l13], [.inr (.inl a)], S) := rn_step dL_act_307 rfl rfl
set_option maxRecDepth 100000 in
theorem eL_act_308 {l0 l1 l2 l3 l4 l5 l6 l7 l8 l9 l10 l11 l12 l13 : Option VV} {v0 : VV} {S : MM} : rn xL_act (308, [l0, l1, l2, l3, l4, l5, l6, l7, l8, l9, l10, l11, l12, l13], [v0], S) = rn xL_act (309, [l0, l1, l2, l3, l4, l5, l6, l7, l8, l9, l10, l11, l12, l13], [vI 0, v0], S) := rn_step dL_act_308 rfl rfl
set_option maxRecDepth 100000 in
theorem eL_act_309 {a0 : Int} {l0 l1 l2 l3 l4 l5 l6 l7 l8 l9 l10 l11 l12 l13 : Option VV} {S : MM} : rn xL_act (309, [l0, l1, l2, l3, l4, l5, l6, l7, l8, l9, l10, l11, l12, l13], [vI a0, vR 0], S) = ((kp fX8_count) [vR 0, vI a0] S).bind (fun q => rn xL_act (312, [l0, l1, l2, l3, l4, l5, l6, l7, l8, l9, l10, l11, l12, l13], q.1.toList ++ [], q.2)) := q_callV (n := 1) (as := [vI a0]) (rest := []) dL_act_309 rfl rfl rfl rfl kd0
set_option maxRecDepth 100000 in
theorem eL_act_312 {a : Int} {w : Int} {l0 l1 l2 l3 l4 l5 l6 l8 l9 l10 l11 l12 l13 : Option VV} {S : MM} : rn xL_act (312, [l0, l1, l2, l3, l4, l5, l6, some (vI w), l8, l9, l10, l11, l12, l13], [vI a], S) = rn xL_act (314, [l0, l1, l2, l3, l4, l5, l6, some (vI w), some (vI a), l9, l10, l11, l12, l13], [], S) := rn_step dL_act_312 rfl rfl
set_option maxRecDepth 100000 in
theorem eL_act_314 {a : Option Nat} {l1 l2 l3 l4 l5 l6 l7 l8 l9 l10 l11 l12 l13 : Option VV} {S : MM} : rn xL_act (314, [some (.inr (.inl a)), l1, l2, l3, l4, l5, l6, l7, l8, l9, l10, l11, l12, l13], [], S) = rn xL_act (315, [some (.inr (.inl a)), l1, l2, l3, l4, l5, l6, l7, l8, l9, l10, l11, l12, l13], [.inr (.inl a)], S) := rn_step dL_act_314 rfl rfl
set_option maxRecDepth 100000 in
theorem eL_act_315 {l0 l1 l2 l3 l4 l5 l6 l7 l8 l9 l10 l11 l12 l13 : Option VV} {S : MM} : rn xL_act (315, [l0, l1, l2, l3, l4, l5, l6, l7, l8, l9, l10, l11, l12, l13], [vR 0], S) = ((kp fX8_dry) [vR 0] S).bind (fun q => rn xL_act (318, [l0, l1, l2, l3, l4, l5, l6, l7, l8, l9, l10, l11, l12, l13], q.1.toList ++ [], q.2)) := q_callV (n := 0) (as := []) (rest := []) dL_act_315 rfl rfl rfl rfl kd0
set_option maxRecDepth 100000 in
theorem eL_act_318 {a : Int} {w : Int} {l0 l1 l2 l3 l4 l5 l6 l7 l9 l10 l11 l12 l13 : Option VV} {S : MM} : rn xL_act (318, [l0, l1, l2, l3, l4, l5, l6, l7, some (vI w), l9, l10, l11, l12, l13], [vI a], S) = rn xL_act (320, [l0, l1, l2, l3, l4, l5, l6, l7, some (vI w), some (vI a), l10, l11, l12, l13], [], S) := rn_step dL_act_318 rfl rfl
set_option maxRecDepth 100000 in
theorem eL_act_320 {a : Int} {l0 l1 l2 l3 l4 l5 l6 l8 l9 l10 l11 l12 l13 : Option VV} {S : MM} : rn xL_act (320, [l0, l1, l2, l3, l4, l5, l6, some (vI a), l8, l9, l10, l11, l12, l13], [], S) = rn xL_act (322, [l0, l1, l2, l3, l4, l5, l6, some (vI a), l8, l9, l10, l11, l12, l13], [vI a], S) := rn_step dL_act_320 rfl rfl
set_option maxRecDepth 100000 in
theorem eL_act_322 {a : Int} {l0 l1 l2 l3 l4 l5 l6 l7 l8 l9 l10 l11 l12 l13 : Option VV} (h : -2147483648 ≤ a ∧ a ≤ 2147483647) {S : MM} : rn xL_act (322, [l0, l1, l2, l3, l4, l5, l6, l7, l8, l9, l10, l11, l12, l13], [vI a], S) = if a = 0 then rn xL_act (325, [l0, l1, l2, l3, l4, l5, l6, l7, l8, l9, l10, l11, l12, l13], [], S) else rn xL_act (338, [l0, l1, l2, l3, l4, l5, l6, l7, l8, l9, l10, l11, l12, l13], [], S) := q_if_ne dL_act_322 (by decide) rfl h
set_option maxRecDepth 100000 in
theorem eL_act_325 {a : Int} {l0 l1 l2 l3 l4 l5 l6 l7 l8 l10 l11 l12 l13 : Option VV} {S : MM} : rn xL_act (325, [l0, l1, l2, l3, l4, l5, l6, l7, l8, some (vI a), l10, l11, l12, l13], [], S) = rn xL_act (327, [l0, l1, l2, l3, l4, l5, l6, l7, l8, some (vI a), l10, l11, l12, l13], [vI a], S) := rn_step dL_act_325 rfl rfl
set_option maxRecDepth 100000 in
theorem eL_act_327 {l0 l1 l2 l3 l4 l5 l6 l7 l8 l9 l10 l11 l12 l13 : Option VV} {v0 : VV} {S : MM} : rn xL_act (327, [l0, l1, l2, l3, l4, l5, l6, l7, l8, l9, l10, l11, l12, l13], [v0], S) = rn xL_act (329, [l0, l1, l2, l3, l4, l5, l6, l7, l8, l9, l10, l11, l12, l13], [vI (-5), v0], S) := rn_step dL_act_327 rfl rfl
set_option maxRecDepth 100000 in
theorem eL_act_329 {a b : Int} {l0 l1 l2 l3 l4 l5 l6 l7 l8 l9 l10 l11 l12 l13 : Option VV} (h : -2147483648 ≤ a ∧ a ≤ 2147483647) (h1 : -2147483648 ≤ b ∧ b ≤ 2147483647) {S : MM} : rn xL_act (329, [l0, l1, l2, l3, l4, l5, l6, l7, l8, l9, l10, l11, l12, l13], [vI b, vI a], S) = if a = b then rn xL_act (332, [l0, l1, l2, l3, l4, l5, l6, l7, l8, l9, l10, l11, l12, l13], [], S) else rn xL_act (336, [l0, l1, l2, l3, l4, l5, l6, l7, l8, l9, l10, l11, l12, l13], [], S) := q_icmp_ne dL_act_329 (by decide) rfl h h1
set_option maxRecDepth 100000 in
theorem eL_act_332 {l0 l1 l2 l3 l4 l5 l6 l7 l8 l9 l10 l11 l12 l13 : Option VV} {S : MM} : rn xL_act (332, [l0, l1, l2, l3, l4, l5, l6, l7, l8, l9, l10, l11, l12, l13], [], S) = rn xL_act (333, [l0, l1, l2, l3, l4, l5, l6, l7, l8, l9, l10, l11, l12, l13], [vI 1], S) := rn_step dL_act_332 rfl rfl
set_option maxRecDepth 100000 in
theorem eL_act_333 {l0 l1 l2 l3 l4 l5 l6 l7 l8 l9 l10 l11 l12 l13 : Option VV} {v0 : VV} {S : MM} : rn xL_act (333, [l0, l1, l2, l3, l4, l5, l6, l7, l8, l9, l10, l11, l12, l13], [v0], S) = rn xL_act (337, [l0, l1, l2, l3, l4, l5, l6, l7, l8, l9, l10, l11, l12, l13], [v0], S) := rn_step dL_act_333 rfl rfl
set_option maxRecDepth 100000 in
theorem eL_act_336 {l0 l1 l2 l3 l4 l5 l6 l7 l8 l9 l10 l11 l12 l13 : Option VV} {S : MM} : rn xL_act (336, [l0, l1, l2, l3, l4, l5, l6, l7, l8, l9, l10, l11, l12, l13], [], S) = rn xL_act (337, [l0, l1, l2, l3, l4, l5, l6, l7, l8, l9, l10, l11, l12, l13], [vI 0], S) := rn_step dL_act_336 rfl rfl
set_option maxRecDepth 100000 in
theorem eL_act_337 {z : Int} {l0 l1 l2 l3 l4 l5 l6 l7 l8 l9 l10 l11 l12 l13 : Option VV} (hz : z = 0 ∨ z = 1) {S : MM} : rn xL_act (337, [l0, l1, l2, l3, l4, l5, l6, l7, l8, l9, l10, l11, l12, l13], [vI z], S) = some (some (vI z), S) := q_retZ dL_act_337 rfl hz
set_option maxRecDepth 100000 in
theorem eL_act_338 {a : Int} {l0 l1 l2 l3 l4 l5 l6 l7 l8 l10 l11 l12 l13 : Option VV} {S : MM} : rn xL_act (338, [l0, l1, l2, l3, l4, l5, l6, l7, l8, some (vI a), l10, l11, l12, l13], [], S) = rn xL_act (340, [l0, l1, l2, l3, l4, l5, l6, l7, l8, some (vI a), l10, l11, l12, l13], [vI a], S) := rn_step dL_act_338 rfl rfl
set_option maxRecDepth 100000 in
theorem eL_act_340 {l0 l1 l2 l3 l4 l5 l6 l7 l8 l9 l10 l11 l12 l13 : Option VV} {v0 : VV} {S : MM} : rn xL_act (340, [l0, l1, l2, l3, l4, l5, l6, l7, l8, l9, l10, l11, l12, l13], [v0], S) = rn xL_act (342, [l0, l1, l2, l3, l4, l5, l6, l7, l8, l9, l10, l11, l12, l13], [vI (-4), v0], S) := rn_step dL_act_340 rfl rfl
set_option maxRecDepth 100000 in
theorem eL_act_342 {a b : Int} {l0 l1 l2 l3 l4 l5 l6 l7 l8 l9 l10 l11 l12 l13 : Option VV} (h : -2147483648 ≤ a ∧ a ≤ 2147483647) (h1 : -2147483648 ≤ b ∧ b ≤ 2147483647) {S : MM} : rn xL_act (342, [l0, l1, l2, l3, l4, l5, l6, l7, l8, l9, l10, l11, l12, l13], [vI b, vI a], S) = if a = b then rn xL_act (345, [l0, l1, l2, l3, l4, l5, l6, l7, l8, l9, l10, l11, l12, l13], [], S) else rn xL_act (371, [l0, l1, l2, l3, l4, l5, l6, l7, l8, l9, l10, l11, l12, l13], [], S) := q_icmp_ne dL_act_342 (by decide) rfl h h1
set_option maxRecDepth 100000 in
theorem eL_act_345 {a : Option Nat} {l1 l2 l3 l4 l5 l6 l7 l8 l9 l10 l11 l12 l13 : Option VV} {S : MM} : rn xL_act (345, [some (.inr (.inl a)), l1, l2, l3, l4, l5, l6, l7, l8, l9, l10, l11, l12, l13], [], S) = rn xL_act (346, [some (.inr (.inl a)), l1, l2, l3, l4, l5, l6, l7, l8, l9, l10, l11, l12, l13], [.inr (.inl a)], S) := rn_step dL_act_345 rfl rfl
set_option maxRecDepth 100000 in
theorem eL_act_346 {l0 l1 l2 l3 l4 l5 l6 l7 l8 l9 l10 l11 l12 l13 : Option VV} {v0 : VV} {S : MM} : rn xL_act (346, [l0, l1, l2, l3, l4, l5, l6, l7, l8, l9, l10, l11, l12, l13], [v0], S) = rn xL_act (347, [l0, l1, l2, l3, l4, l5, l6, l7, l8, l9, l10, l11, l12, l13], [vI 1, v0], S) := rn_step dL_act_346 rfl rfl
set_option maxRecDepth 100000 in
theorem eL_act_347 {a0 : Int} {l0 l1 l2 l3 l4 l5 l6 l7 l8 l9 l10 l11 l12 l13 : Option VV} {S : MM} : rn xL_act (347, [l0, l1, l2, l3, l4, l5, l6, l7, l8, l9, l10, l11, l12, l13], [vI a0, vR 0], S) = ((kp fX8_count) [vR 0, vI a0] S).bind (fun q => rn xL_act (350, [l0, l1, l2, l3, l4, l5, l6, l7, l8, l9, l10, l11, l12, l13], q.1.toList ++ [], q.2)) := q_callV (n := 1) (as := [vI a0]) (rest := []) dL_act_347 rfl rfl rfl rfl kd0
set_option maxRecDepth 100000 in
theorem eL_act_350 {a : Int} {l0 l1 l2 l3 l4 l5 l6 l8 l9 l10 l11 l12 l13 : Option VV} {v0 : VV} {S : MM} : rn xL_act (350, [l0, l1, l2, l3, l4, l5, l6, some (vI a), l8, l9, l10, l11, l12, l13], [v0], S) = rn xL_act (352, [l0, l1, l2, l3, l4, l5, l6, some (vI a), l8, l9, l10, l11, l12, l13], [vI a, v0], S) := rn_step dL_act_350 rfl rfl
set_option maxRecDepth 100000 in
theorem eL_act_352 {a b : Int} {l0 l1 l2 l3 l4 l5 l6 l7 l8 l9 l10 l11 l12 l13 : Option VV} (h : -2147483648 ≤ a ∧ a ≤ 2147483647) (h1 : -2147483648 ≤ b ∧ b ≤ 2147483647) {S : MM} : rn xL_act (352, [l0, l1, l2, l3, l4, l5, l6, l7, l8, l9, l10, l11, l12, l13], [vI b, vI a], S) = if a = b then rn xL_act (355, [l0, l1, l2, l3, l4, l5, l6, l7, l8, l9, l10, l11, l12, l13], [], S) else rn xL_act (369, [l0, l1, l2, l3, l4, l5, l6, l7, l8, l9, l10, l11, l12, l13], [], S) := q_icmp_ne dL_act_352 (by decide) rfl h h1
set_option maxRecDepth 100000 in
theorem eL_act_355 {a : Option Nat} {l1 l2 l3 l4 l5 l6 l7 l8 l9 l10 l11 l12 l13 : Option VV} {S : MM} : rn xL_act (355, [some (.inr (.inl a)), l1, l2, l3, l4, l5, l6, l7, l8, l9, l10, l11, l12, l13], [], S) = rn xL_act (356, [some (.inr (.inl a)), l1, l2, l3, l4, l5, l6, l7, l8, l9, l10, l11, l12, l13], [.inr (.inl a)], S) := rn_step dL_act_355 rfl rfl
set_option maxRecDepth 100000 in
theorem eL_act_356 {l0 l1 l2 l3 l4 l5 l6 l7 l8 l9 l10 l11 l12 l13 : Option VV} {v0 : VV} {S : MM} : rn xL_act (356, [l0, l1, l2, l3, l4, l5, l6, l7, l8, l9, l10, l11, l12, l13], [v0], S) = rn xL_act (357, [l0, l1, l2, l3, l4, l5, l6, l7, l8, l9, l10, l11, l12, l13], [vI 0, v0], S) := rn_step dL_act_356 rfl rfl
set_option maxRecDepth 100000 in
theorem eL_act_357 {a0 : Int} {l0 l1 l2 l3 l4 l5 l6 l7 l8 l9 l10 l11 l12 l13 : Option VV} {S : MM} : rn xL_act (357, [l0, l1, l2, l3, l4, l5, l6, l7, l8, l9, l10, l11, l12, l13], [vI a0, vR 0], S) = ((kp fX8_count) [vR 0, vI a0] S).bind (fun q => rn xL_act (360, [l0, l1, l2, l3, l4, l5, l6, l7, l8, l9, l10, l11, l12, l13], q.1.toList ++ [], q.2)) := q_callV (n := 1) (as := [vI a0]) (rest := []) dL_act_357 rfl rfl rfl rfl kd0
set_option maxRecDepth 100000 in
theorem eL_act_360 {a : Int} {l0 l1 l2 l3 l4 l5 l6 l7 l9 l10 l11 l12 l13 : Option VV} {v0 : VV} {S : MM} : rn xL_act (360, [l0, l1, l2, l3, l4, l5, l6, l7, some (vI a), l9, l10, l11, l12, l13], [v0], S) = rn xL_act (362, [l0, l1, l2, l3, l4, l5, l6, l7, some (vI a), l9, l10, l11, l12, l13], [vI a, v0], S) := rn_step dL_act_360 rfl rfl
set_option maxRecDepth 100000 in
theorem eL_act_362 {a b : Int} {l0 l1 l2 l3 l4 l5 l6 l7 l8 l9 l10 l11 l12 l13 : Option VV} (h : -2147483648 ≤ a ∧ a ≤ 2147483647) (h1 : -2147483648 ≤ b ∧ b ≤ 2147483647) {S : MM} : rn xL_act (362, [l0, l1, l2, l3, l4, l5, l6, l7, l8, l9, l10, l11, l12, l13], [vI b, vI a], S) = if a = b then rn xL_act (365, [l0, l1, l2, l3, l4, l5, l6, l7, l8, l9, l10, l11, l12, l13], [], S) else rn xL_act (369, [l0, l1, l2, l3, l4, l5, l6, l7, l8, l9, l10, l11, l12, l13], [], S) := q_icmp_ne dL_act_362 (by decide) rfl h h1
set_option maxRecDepth 100000 in
theorem eL_act_365 {l0 l1 l2 l3 l4 l5 l6 l7 l8 l9 l10 l11 l12 l13 : Option VV} {S : MM} : rn xL_act (365, [l0, l1, l2, l3, l4, l5, l6, l7, l8, l9, l10, l11, l12, l13], [], S) = rn xL_act (366, [l0, l1, l2, l3, l4, l5, l6, l7, l8, l9, l10, l11, l12, l13], [vI 1], S) := rn_step dL_act_365 rfl rfl
set_option maxRecDepth 100000 in
theorem eL_act_366 {l0 l1 l2 l3 l4 l5 l6 l7 l8 l9 l10 l11 l12 l13 : Option VV} {v0 : VV} {S : MM} : rn xL_act (366, [l0, l1, l2, l3, l4, l5, l6, l7, l8, l9, l10, l11, l12, l13], [v0], S) = rn xL_act (370, [l0, l1, l2, l3, l4, l5, l6, l7, l8, l9, l10, l11, l12, l13], [v0], S) := rn_step dL_act_366 rfl rfl
set_option maxRecDepth 100000 in
theorem eL_act_369 {l0 l1 l2 l3 l4 l5 l6 l7 l8 l9 l10 l11 l12 l13 : Option VV} {S : MM} : rn xL_act (369, [l0, l1, l2, l3, l4, l5, l6, l7, l8, l9, l10, l11, l12, l13], [], S) = rn xL_act (370, [l0, l1, l2, l3, l4, l5, l6, l7, l8, l9, l10, l11, l12, l13], [vI 0], S) := rn_step dL_act_369 rfl rfl
set_option maxRecDepth 100000 in
theorem eL_act_370 {z : Int} {l0 l1 l2 l3 l4 l5 l6 l7 l8 l9 l10 l11 l12 l13 : Option VV} (hz : z = 0 ∨ z = 1) {S : MM} : rn xL_act (370, [l0, l1, l2, l3, l4, l5, l6, l7, l8, l9, l10, l11, l12, l13], [vI z], S) = some (some (vI z), S) := q_retZ dL_act_370 rfl hz
set_option maxRecDepth 100000 in
theorem eL_act_371 {a : Int} {l0 l1 l2 l3 l4 l5 l6 l7 l8 l10 l11 l12 l13 : Option VV} {S : MM} : rn xL_act (371, [l0, l1, l2, l3, l4, l5, l6, l7, l8, some (vI a), l10, l11, l12, l13], [], S) = rn xL_act (373, [l0, l1, l2, l3, l4, l5, l6, l7, l8, some (vI a), l10, l11, l12, l13], [vI a], S) := rn_step dL_act_371 rfl rfl
set_option maxRecDepth 100000 in
theorem eL_act_373 {a : Int} {l0 l1 l2 l3 l4 l5 l6 l7 l8 l9 l10 l11 l12 l13 : Option VV} (h : -2147483648 ≤ a ∧ a ≤ 2147483647) {S : MM} : rn xL_act (373, [l0, l1, l2, l3, l4, l5, l6, l7, l8, l9, l10, l11, l12, l13], [vI a], S) = if a < 0 then rn xL_act (415, [l0, l1, l2, l3, l4, l5, l6, l7, l8, l9, l10, l11, l12, l13], [], S) else rn xL_act (376, [l0, l1, l2, l3, l4, l5, l6, l7, l8, l9, l10, l11, l12, l13], [], S) := q_if_lt dL_act_373 (by decide) rfl h
set_option maxRecDepth 100000 in
theorem eL_act_376 {a : Option Nat} {l1 l2 l3 l4 l5 l6 l7 l8 l9 l10 l11 l12 l13 : Option VV} {S : MM} : rn xL_act (376, [some (.inr (.inl a)), l1, l2, l3, l4, l5, l6, l7, l8, l9, l10, l11, l12, l13], [], S) = rn xL_act (377, [some (.inr (.inl a)), l1, l2, l3, l4, l5, l6, l7, l8, l9, l10, l11, l12, l13], [.inr (.inl a)], S) := rn_step dL_act_376 rfl rfl
set_option maxRecDepth 100000 in
theorem eL_act_377 {l0 l1 l2 l3 l4 l5 l6 l7 l8 l9 l10 l11 l12 l13 : Option VV} {v0 : VV} {S : MM} : rn xL_act (377, [l0, l1, l2, l3, l4, l5, l6, l7, l8, l9, l10, l11, l12, l13], [v0], S) = rn xL_act (378, [l0, l1, l2, l3, l4, l5, l6, l7, l8, l9, l10, l11, l12, l13], [vI 1, v0], S) := rn_step dL_act_377 rfl rfl
set_option maxRecDepth 100000 in
theorem eL_act_378 {a0 : Int} {l0 l1 l2 l3 l4 l5 l6 l7 l8 l9 l10 l11 l12 l13 : Option VV} {S : MM} : rn xL_act (378, [l0, l1, l2, l3, l4, l5, l6, l7, l8, l9, l10, l11, l12, l13], [vI a0, vR 0], S) = ((kp fX8_count) [vR 0, vI a0] S).bind (fun q => rn xL_act (381, [l0, l1, l2, l3, l4, l5, l6, l7, l8, l9, l10, l11, l12, l13], q.1.toList ++ [], q.2)) := q_callV (n := 1) (as := [vI a0]) (rest := []) dL_act_378 rfl rfl rfl rfl kd0
set_option maxRecDepth 100000 in
theorem eL_act_381 {a : Int} {l0 l1 l2 l3 l4 l5 l6 l8 l9 l10 l11 l12 l13 : Option VV} {v0 : VV} {S : MM} : rn xL_act (381, [l0, l1, l2, l3, l4, l5, l6, some (vI a), l8, l9, l10, l11, l12, l13], [v0], S) = rn xL_act (383, [l0, l1, l2, l3, l4, l5, l6, some (vI a), l8, l9, l10, l11, l12, l13], [vI a, v0], S) := rn_step dL_act_381 rfl rfl
set_option maxRecDepth 100000 in
theorem eL_act_383 {l0 l1 l2 l3 l4 l5 l6 l7 l8 l9 l10 l11 l12 l13 : Option VV} {v0 v1 : VV} {S : MM} : rn xL_act (383, [l0, l1, l2, l3, l4, l5, l6, l7, l8, l9, l10, l11, l12, l13], [v0, v1], S) = rn xL_act (384, [l0, l1, l2, l3, l4, l5, l6, l7, l8, l9, l10, l11, l12, l13], [vI 1, v0, v1], S) := rn_step dL_act_383 rfl rfl
set_option maxRecDepth 100000 in
theorem eL_act_384 {a b : Int} {l0 l1 l2 l3 l4 l5 l6 l7 l8 l9 l10 l11 l12 l13 : Option VV} {v2 : VV} {S : MM} : rn xL_act (384, [l0, l1, l2, l3, l4, l5, l6, l7, l8, l9, l10, l11, l12, l13], [vI b, vI a, v2], S) = rn xL_act (385, [l0, l1, l2, l3, l4, l5, l6, l7, l8, l9, l10, l11, l12, l13], [vI (a - b), v2], S) := rn_step dL_act_384 rfl rfl
set_option maxRecDepth 100000 in
theorem eL_act_385 {a b : Int} {l0 l1 l2 l3 l4 l5 l6 l7 l8 l9 l10 l11 l12 l13 : Option VV} (h : -2147483648 ≤ a ∧ a ≤ 2147483647) (h1 : -2147483648 ≤ b ∧ b ≤ 2147483647) {S : MM} : rn xL_act (385, [l0, l1, l2, l3, l4, l5, l6, l7, l8, l9, l10, l11, l12, l13], [vI b, vI a], S) = if a = b then rn xL_act (388, [l0, l1, l2, l3, l4, l5, l6, l7, l8, l9, l10, l11, l12, l13], [], S) else rn xL_act (415, [l0, l1, l2, l3, l4, l5, l6, l7, l8, l9, l10, l11, l12, l13], [], S) := q_icmp_ne dL_act_385 (by decide) rfl h h1
set_option maxRecDepth 100000 in
theorem eL_act_388 {a : Option Nat} {l1 l2 l3 l4 l5 l6 l7 l8 l9 l10 l11 l12 l13 : Option VV} {S : MM} : rn xL_act (388, [some (.inr (.inl a)), l1, l2, l3, l4, l5, l6, l7, l8, l9, l10, l11, l12, l13], [], S) = rn xL_act (389, [some (.inr (.inl a)), l1, l2, l3, l4, l5, l6, l7, l8, l9, l10, l11, l12, l13], [.inr (.inl a)], S) := rn_step dL_act_388 rfl rfl
set_option maxRecDepth 100000 in
theorem eL_act_389 {l0 l1 l2 l3 l4 l5 l6 l7 l8 l9 l10 l11 l12 l13 : Option VV} {v0 : VV} {S : MM} : rn xL_act (389, [l0, l1, l2, l3, l4, l5, l6, l7, l8, l9, l10, l11, l12, l13], [v0], S) = rn xL_act (390, [l0, l1, l2, l3, l4, l5, l6, l7, l8, l9, l10, l11, l12, l13], [vI 0, v0], S) := rn_step dL_act_389 rfl rfl
set_option maxRecDepth 100000 in
theorem eL_act_390 {a0 : Int} {l0 l1 l2 l3 l4 l5 l6 l7 l8 l9 l10 l11 l12 l13 : Option VV} {S : MM} : rn xL_act (390, [l0, l1, l2, l3, l4, l5, l6, l7, l8, l9, l10, l11, l12, l13], [vI a0, vR 0], S) = ((kp fX8_count) [vR 0, vI a0] S).bind (fun q => rn xL_act (393, [l0, l1, l2, l3, l4, l5, l6, l7, l8, l9, l10, l11, l12, l13], q.1.toList ++ [], q.2)) := q_callV (n := 1) (as := [vI a0]) (rest := []) dL_act_390 rfl rfl rfl rfl kd0
set_option maxRecDepth 100000 in
theorem eL_act_393 {a : Int} {l0 l1 l2 l3 l4 l5 l6 l7 l9 l10 l11 l12 l13 : Option VV} {v0 : VV} {S : MM} : rn xL_act (393, [l0, l1, l2, l3, l4, l5, l6, l7, some (vI a), l9, l10, l11, l12, l13], [v0], S) = rn xL_act (395, [l0, l1, l2, l3, l4, l5, l6, l7, some (vI a), l9, l10, l11, l12, l13], [vI a, v0], S) := rn_step dL_act_393 rfl rfl
set_option maxRecDepth 100000 in
theorem eL_act_395 {a b : Int} {l0 l1 l2 l3 l4 l5 l6 l7 l8 l9 l10 l11 l12 l13 : Option VV} (h : -2147483648 ≤ a ∧ a ≤ 2147483647) (h1 : -2147483648 ≤ b ∧ b ≤ 2147483647) {S : MM} : rn xL_act (395, [l0, l1, l2, l3, l4, l5, l6, l7, l8, l9, l10, l11, l12, l13], [vI b, vI a], S) = if a < b then rn xL_act (415, [l0, l1, l2, l3, l4, l5, l6, l7, l8, l9, l10, l11, l12, l13], [], S) else rn xL_act (398, [l0, l1, l2, l3, l4, l5, l6, l7, l8, l9, l10, l11, l12, l13], [], S) := q_icmp_lt dL_act_395 (by decide) rfl h h1
set_option maxRecDepth 100000 in
theorem eL_act_398 {a : Option Nat} {l1 l2 l3 l4 l5 l6 l7 l8 l9 l10 l11 l12 l13 : Option VV} {S : MM} : rn xL_act (398, [some (.inr (.inl a)), l1, l2, l3, l4, l5, l6, l7, l8, l9, l10, l11, l12, l13], [], S) = rn xL_act (399, [some (.inr (.inl a)), l1, l2, l3, l4, l5, l6, l7, l8, l9, l10, l11, l12, l13], [.inr (.inl a)], S) := rn_step dL_act_398 rfl rfl
set_option maxRecDepth 100000 in
theorem eL_act_399 {l0 l1 l2 l3 l4 l5 l6 l7 l8 l9 l10 l11 l12 l13 : Option VV} {v0 : VV} {S : MM} : rn xL_act (399, [l0, l1, l2, l3, l4, l5, l6, l7, l8, l9, l10, l11, l12, l13], [v0], S) = rn xL_act (400, [l0, l1, l2, l3, l4, l5, l6, l7, l8, l9, l10, l11, l12, l13], [vI 0, v0], S) := rn_step dL_act_399 rfl rfl
set_option maxRecDepth 100000 in
theorem eL_act_400 {a0 : Int} {l0 l1 l2 l3 l4 l5 l6 l7 l8 l9 l10 l11 l12 l13 : Option VV} {S : MM} : rn xL_act (400, [l0, l1, l2, l3, l4, l5, l6, l7, l8, l9, l10, l11, l12, l13], [vI a0, vR 0], S) = ((kp fX8_count) [vR 0, vI a0] S).bind (fun q => rn xL_act (403, [l0, l1, l2, l3, l4, l5, l6, l7, l8, l9, l10, l11, l12, l13], q.1.toList ++ [], q.2)) := q_callV (n := 1) (as := [vI a0]) (rest := []) dL_act_400 rfl rfl rfl rfl kd0
set_option maxRecDepth 100000 in
theorem eL_act_403 {a : Int} {l0 l1 l2 l3 l4 l5 l6 l7 l9 l10 l11 l12 l13 : Option VV} {v0 : VV} {S : MM} : rn xL_act (403, [l0, l1, l2, l3, l4, l5, l6, l7, some (vI a), l9, l10, l11, l12, l13], [v0], S) = rn xL_act (405, [l0, l1, l2, l3, l4, l5, l6, l7, some (vI a), l9, l10, l11, l12, l13], [vI a, v0], S) := rn_step dL_act_403 rfl rfl
set_option maxRecDepth 100000 in
theorem eL_act_405 {a : Int} {l0 l1 l2 l3 l4 l5 l6 l7 l8 l10 l11 l12 l13 : Option VV} {v0 v1 : VV} {S : MM} : rn xL_act (405, [l0, l1, l2, l3, l4, l5, l6, l7, l8, some (vI a), l10, l11, l12, l13], [v0, v1], S) = rn xL_act (407, [l0, l1, l2, l3, l4, l5, l6, l7, l8, some (vI a), l10, l11, l12, l13], [vI a, v0, v1], S) := rn_step dL_act_405 rfl rfl
set_option maxRecDepth 100000 in
theorem eL_act_407 {a b : Int} {l0 l1 l2 l3 l4 l5 l6 l7 l8 l9 l10 l11 l12 l13 : Option VV} {v2 : VV} {S : MM} : rn xL_act (407, [l0, l1, l2, l3, l4, l5, l6, l7, l8, l9, l10, l11, l12, l13], [vI b, vI a, v2], S) = rn xL_act (408, [l0, l1, l2, l3, l4, l5, l6, l7, l8, l9, l10, l11, l12, l13], [vI (a + b), v2], S) := rn_step dL_act_407 rfl rfl
set_option maxRecDepth 100000 in
theorem eL_act_408 {a b : Int} {l0 l1 l2 l3 l4 l5 l6 l7 l8 l9 l10 l11 l12 l13 : Option VV} (h : -2147483648 ≤ a ∧ a ≤ 2147483647) (h1 : -2147483648 ≤ b ∧ b ≤ 2147483647) {S : MM} : rn xL_act (408, [l0, l1, l2, l3, l4, l5, l6, l7, l8, l9, l10, l11, l12, l13], [vI b, vI a], S) = if b < a then rn xL_act (415, [l0, l1, l2, l3, l4, l5, l6, l7, l8, l9, l10, l11, l12, l13], [], S) else rn xL_act (411, [l0, l1, l2, l3, l4, l5, l6, l7, l8, l9, l10, l11, l12, l13], [], S) := q_icmp_gt dL_act_408 (by decide) rfl h h1
set_option maxRecDepth 100000 in
theorem eL_act_411 {l0 l1 l2 l3 l4 l5 l6 l7 l8 l9 l10 l11 l12 l13 : Option VV} {S : MM} : rn xL_act (411, [l0, l1, l2, l3, l4, l5, l6, l7, l8, l9, l10, l11, l12, l13], [], S) = rn xL_act (412, [l0, l1, l2, l3, l4, l5, l6, l7, l8, l9, l10, l11, l12, l13], [vI 1], S) := rn_step dL_act_411 rfl rfl
set_option maxRecDepth 100000 in
theorem eL_act_412 {l0 l1 l2 l3 l4 l5 l6 l7 l8 l9 l10 l11 l12 l13 : Option VV} {v0 : VV} {S : MM} : rn xL_act (412, [l0, l1, l2, l3, l4, l5, l6, l7, l8, l9, l10, l11, l12, l13], [v0], S) = rn xL_act (416, [l0, l1, l2, l3, l4, l5, l6, l7, l8, l9, l10, l11, l12, l13], [v0], S) := rn_step dL_act_412 rfl rfl
set_option maxRecDepth 100000 in
theorem eL_act_415 {l0 l1 l2 l3 l4 l5 l6 l7 l8 l9 l10 l11 l12 l13 : Option VV} {S : MM} : rn xL_act (415, [l0, l1, l2, l3, l4, l5, l6, l7, l8, l9, l10, l11, l12, l13], [], S) = rn xL_act (416, [l0, l1, l2, l3, l4, l5, l6, l7, l8, l9, l10, l11, l12, l13], [vI 0], S) := rn_step dL_act_415 rfl rfl
set_option maxRecDepth 100000 in
theorem eL_act_416 {z : Int} {l0 l1 l2 l3 l4 l5 l6 l7 l8 l9 l10 l11 l12 l13 : Option VV} (hz : z = 0 ∨ z = 1) {S : MM} : rn xL_act (416, [l0, l1, l2, l3, l4, l5, l6, l7, l8, l9, l10, l11, l12, l13], [vI z], S) = some (some (vI z), S) := q_retZ dL_act_416 rfl hz
set_option maxRecDepth 100000 in
theorem eL_act_417 {a : Option Nat} {l1 l2 l3 l4 l5 l6 l7 l8 l9 l10 l11 l12 l13 : Option VV} {S : MM} : rn xL_act (417, [some (.inr (.inl a)), l1, l2, l3, l4, l5, l6, l7, l8, l9, l10, l11, l12, l13], [], S) = rn xL_act (418, [some (.inr (.inl a)), l1, l2, l3, l4, l5, l6, l7, l8, l9, l10, l11, l12, l13], [.inr (.inl a)], S) := rn_step dL_act_417 rfl rfl
set_option maxRecDepth 100000 in
theorem eL_act_418 {l0 l1 l2 l3 l4 l5 l6 l7 l8 l9 l10 l11 l12 l13 : Option VV} {S : MM} : rn xL_act (418, [l0, l1, l2, l3, l4, l5, l6, l7, l8, l9, l10, l11, l12, l13], [vR 0], S) = ((kp fX8_begin) [vR 0] S).bind (fun q => rn xL_act (421, [l0, l1, l2, l3, l4, l5, l6, l7, l8, l9, l10, l11, l12, l13], q.1.toList ++ [], q.2)) := q_callV (n := 0) (as := []) (rest := []) dL_act_418 rfl rfl rfl rfl kd0
set_option maxRecDepth 100000 in
theorem eL_act_421 {a : Int} {w : Int} {l0 l1 l2 l3 l4 l5 l7 l8 l9 l10 l11 l12 l13 : Option VV} {S : MM} : rn xL_act (421, [l0, l1, l2, l3, l4, l5, some (vI w), l7, l8, l9, l10, l11, l12, l13], [vI a], S) = rn xL_act (423, [l0, l1, l2, l3, l4, l5, some (vI w), some (vI a), l8, l9, l10, l11, l12, l13], [], S) := rn_step dL_act_421 rfl rfl
set_option maxRecDepth 100000 in
theorem eL_act_423 {l0 l1 l2 l3 l4 l5 l6 l7 l8 l9 l10 l11 l12 l13 : Option VV} {S : MM} : rn xL_act (423, [l0, l1, l2, l3, l4, l5, l6, l7, l8, l9, l10, l11, l12, l13], [], S) = rn xL_act (424, [l0, l1, l2, l3, l4, l5, l6, l7, l8, l9, l10, l11, l12, l13], [vI 0], S) := rn_step dL_act_423 rfl rfl
set_option maxRecDepth 100000 in
theorem eL_act_424 {a : Int} {w : Int} {l0 l1 l2 l3 l4 l5 l6 l8 l9 l10 l11 l12 l13 : Option VV} {S : MM} : rn xL_act (424, [l0, l1, l2, l3, l4, l5, l6, some (vI w), l8, l9, l10, l11, l12, l13], [vI a], S) = rn xL_act (426, [l0, l1, l2, l3, l4, l5, l6, some (vI w), some (vI a), l9, l10, l11, l12, l13], [], S) := rn_step dL_act_424 rfl rfl
set_option maxRecDepth 100000 in
theorem eL_act_426 {a : Option Nat} {l1 l2 l3 l4 l5 l6 l7 l8 l9 l10 l11 l12 l13 : Option VV} {S : MM} : rn xL_act (426, [some (.inr (.inl a)), l1, l2, l3, l4, l5, l6, l7, l8, l9, l10, l11, l12, l13], [], S) = rn xL_act (427, [some (.inr (.inl a)), l1, l2, l3, l4, l5, l6, l7, l8, l9, l10, l11, l12, l13], [.inr (.inl a)], S) := rn_step dL_act_426 rfl rfl
set_option maxRecDepth 100000 in
theorem eL_act_427 {l0 l1 l2 l3 l4 l5 l6 l7 l8 l9 l10 l11 l12 l13 : Option VV} {v0 : VV} {S : MM} : rn xL_act (427, [l0, l1, l2, l3, l4, l5, l6, l7, l8, l9, l10, l11, l12, l13], [v0], S) = rn xL_act (428, [l0, l1, l2, l3, l4, l5, l6, l7, l8, l9, l10, l11, l12, l13], [vI 2, v0], S) := rn_step dL_act_427 rfl rfl
set_option maxRecDepth 100000 in
theorem eL_act_428 {a0 : Int} {l0 l1 l2 l3 l4 l5 l6 l7 l8 l9 l10 l11 l12 l13 : Option VV} {S : MM} : rn xL_act (428, [l0, l1, l2, l3, l4, l5, l6, l7, l8, l9, l10, l11, l12, l13], [vI a0, vR 0], S) = ((kp fX8_count) [vR 0, vI a0] S).bind (fun q => rn xL_act (431, [l0, l1, l2, l3, l4, l5, l6, l7, l8, l9, l10, l11, l12, l13], q.1.toList ++ [], q.2)) := q_callV (n := 1) (as := [vI a0]) (rest := []) dL_act_428 rfl rfl rfl rfl kd0
set_option maxRecDepth 100000 in
theorem eL_act_431 {a : Int} {w : Int} {l0 l1 l2 l3 l4 l5 l6 l7 l9 l10 l11 l12 l13 : Option VV} {S : MM} : rn xL_act (431, [l0, l1, l2, l3, l4, l5, l6, l7, some (vI w), l9, l10, l11, l12, l13], [vI a], S) = rn xL_act (433, [l0, l1, l2, l3, l4, l5, l6, l7, some (vI w), some (vI a), l10, l11, l12, l13], [], S) := rn_step dL_act_431 rfl rfl
set_option maxRecDepth 100000 in
theorem eL_act_433 {l0 l1 l2 l3 l4 l5 l6 l7 l8 l9 l10 l11 l12 l13 : Option VV} {S : MM} : rn xL_act (433, [l0, l1, l2, l3, l4, l5, l6, l7, l8, l9, l10, l11, l12, l13], [], S) = rn xL_act (434, [l0, l1, l2, l3, l4, l5, l6, l7, l8, l9, l10, l11, l12, l13], [vI 0], S) := rn_step dL_act_433 rfl rfl
set_option maxRecDepth 100000 in
theorem eL_act_434 {a : Int} {w : Int} {l0 l1 l2 l3 l4 l5 l6 l7 l8 l10 l11 l12 l13 : Option VV} {S : MM} : rn xL_act (434, [l0, l1, l2, l3, l4, l5, l6, l7, l8, some (vI w), l10, l11, l12, l13], [vI a], S) = rn xL_act (436, [l0, l1, l2, l3, l4, l5, l6, l7, l8, some (vI w), some (vI a), l11, l12, l13], [], S) := rn_step dL_act_434 rfl rfl
set_option maxRecDepth 100000 in
theorem eL_act_436 {l0 l1 l2 l3 l4 l5 l6 l7 l8 l9 l10 l11 l12 l13 : Option VV} {S : MM} : rn xL_act (436, [l0, l1, l2, l3, l4, l5, l6, l7, l8, l9, l10, l11, l12, l13], [], S) = rn xL_act (437, [l0, l1, l2, l3, l4, l5, l6, l7, l8, l9, l10, l11, l12, l13], [vI 0], S) := rn_step dL_act_436 rfl rfl
set_option maxRecDepth 100000 in
theorem eL_act_437 {a : Int} {w : Int} {l0 l1 l2 l3 l4 l5 l6 l7 l8 l9 l11 l12 l13 : Option VV} {S : MM} : rn xL_act (437, [l0, l1, l2, l3, l4, l5, l6, l7, l8, l9, some (vI w), l11, l12, l13], [vI a], S) = rn xL_act (439, [l0, l1, l2, l3, l4, l5, l6, l7, l8, l9, some (vI w), some (vI a), l12, l13], [], S) := rn_step dL_act_437 rfl rfl
set_option maxRecDepth 100000 in
theorem eL_act_439 {a : Int} {l0 l1 l2 l3 l4 l5 l6 l7 l8 l9 l10 l12 l13 : Option VV} {S : MM} : rn xL_act (439, [l0, l1, l2, l3, l4, l5, l6, l7, l8, l9, l10, some (vI a), l12, l13], [], S) = rn xL_act (441, [l0, l1, l2, l3, l4, l5, l6, l7, l8, l9, l10, some (vI a), l12, l13], [vI a], S) := rn_step dL_act_439 rfl rfl
set_option maxRecDepth 100000 in
theorem eL_act_441 {l0 l1 l2 l3 l4 l5 l6 l7 l8 l9 l10 l11 l12 l13 : Option VV} {v0 : VV} {S : MM} : rn xL_act (441, [l0, l1, l2, l3, l4, l5, l6, l7, l8, l9, l10, l11, l12, l13], [v0], S) = rn xL_act (442, [l0, l1, l2, l3, l4, l5, l6, l7, l8, l9, l10, l11, l12, l13], [vI 3, v0], S) := rn_step dL_act_441 rfl rfl
set_option maxRecDepth 100000 in
theorem eL_act_442 {a b : Int} {l0 l1 l2 l3 l4 l5 l6 l7 l8 l9 l10 l11 l12 l13 : Option VV} (h : -2147483648 ≤ a ∧ a ≤ 2147483647) (h1 : -2147483648 ≤ b ∧ b ≤ 2147483647) {S : MM} : rn xL_act (442, [l0, l1, l2, l3, l4, l5, l6, l7, l8, l9, l10, l11, l12, l13], [vI b, vI a], S) = if a < b then rn xL_act (445, [l0, l1, l2, l3, l4, l5, l6, l7, l8, l9, l10, l11, l12, l13], [], S) else rn xL_act (557, [l0, l1, l2, l3, l4, l5, l6, l7, l8, l9, l10, l11, l12, l13], [], S) := q_icmp_ge dL_act_442 (by decide) rfl h h1
set_option maxRecDepth 100000 in
theorem eL_act_445 {a : Option Nat} {l1 l2 l3 l4 l5 l6 l7 l8 l9 l10 l11 l12 l13 : Option VV} {S : MM} : rn xL_act (445, [some (.inr (.inl a)), l1, l2, l3, l4, l5, l6, l7, l8, l9, l10, l11, l12, l13], [], S) = rn xL_act (446, [some (.inr (.inl a)), l1, l2, l3, l4, l5, l6, l7, l8, l9, l10, l11, l12, l13], [.inr (.inl a)], S) := rn_step dL_act_445 rfl rfl
set_option maxRecDepth 100000 in
theorem eL_act_446 {a : Int} {l0 l1 l2 l3 l4 l5 l6 l7 l8 l9 l10 l12 l13 : Option VV} {v0 : VV} {S : MM} : rn xL_act (446, [l0, l1, l2, l3, l4, l5, l6, l7, l8, l9, l10, some (vI a), l12, l13], [v0], S) = rn xL_act (448, [l0, l1, l2, l3, l4, l5, l6, l7, l8, l9, l10, some (vI a), l12, l13], [vI a, v0], S) := rn_step dL_act_446 rfl rfl
set_option maxRecDepth 100000 in
theorem eL_act_448 {a : Option Nat} {l1 l2 l3 l4 l5 l6 l7 l8 l9 l10 l11 l12 l13 : Option VV} {v0 v1 : VV} {S : MM} : rn xL_act (448, [some (.inr (.inl a)), l1, l2, l3, l4, l5, l6, l7, l8, l9, l10, l11, l12, l13], [v0, v1], S) = rn xL_act (449, [some (.inr (.inl a)), l1, l2, l3, l4, l5, l6, l7, l8, l9, l10, l11, l12, l13], [.inr (.inl a), v0, v1], S) := rn_step dL_act_448 rfl rfl
set_option maxRecDepth 100000 in
theorem eL_act_449 {l0 l1 l2 l3 l4 l5 l6 l7 l8 l9 l10 l11 l12 l13 : Option VV} {v0 v1 v2 : VV} {S : MM} : rn xL_act (449, [l0, l1, l2, l3, l4, l5, l6, l7, l8, l9, l10, l11, l12, l13], [v0, v1, v2], S) = rn xL_act (450, [l0, l1, l2, l3, l4, l5, l6, l7, l8, l9, l10, l11, l12, l13], [vI 2, v0, v1, v2], S) := rn_step dL_act_449 rfl rfl
set_option maxRecDepth 100000 in
theorem eL_act_450 {a0 : Int} {l0 l1 l2 l3 l4 l5 l6 l7 l8 l9 l10 l11 l12 l13 : Option VV} {v2 v3 : VV} {S : MM} : rn xL_act (450, [l0, l1, l2, l3, l4, l5, l6, l7, l8, l9, l10, l11, l12, l13], [vI a0, vR 0, v2, v3], S) = ((kp fX8_count) [vR 0, vI a0] S).bind (fun q => rn xL_act (453, [l0, l1, l2, l3, l4, l5, l6, l7, l8, l9, l10, l11, l12, l13], q.1.toList ++ [v2, v3], q.2)) := q_callV (n := 1) (as := [vI a0]) (rest := [v2, v3]) dL_act_450 rfl rfl rfl rfl kd0
set_option maxRecDepth 100000 in
theorem eL_act_453 {a0 : Option Nat} {a1 : Int} {a2 : Int} {l0 l1 l2 l3 l4 l5 l6 l7 l8 l9 l10 l11 l12 l13 : Option VV} {S : MM} : rn xL_act (453, [l0, l1, l2, l3, l4, l5, l6, l7, l8, l9, l10, l11, l12, l13], [vI a2, vI a1, .inr (.inl a0)], S) = ((kp fL_from) [.inr (.inl a0), vI a1, vI a2] S).bind (fun q => rn xL_act (456, [l0, l1, l2, l3, l4, l5, l6, l7, l8, l9, l10, l11, l12, l13], q.1.toList ++ [], q.2)) := q_callS (n := 3) (as := [.inr (.inl a0), vI a1, vI a2]) (rest := []) dL_act_453 rfl rfl rfl rfl
set_option maxRecDepth 100000 in
theorem eL_act_456 {a : Int} {w : Int} {l0 l1 l2 l3 l4 l5 l6 l7 l8 l9 l10 l12 l13 : Option VV} {S : MM} : rn xL_act (456, [l0, l1, l2, l3, l4, l5, l6, l7, l8, l9, l10, some (vI w), l12, l13], [vI a], S) = rn xL_act (458, [l0, l1, l2, l3, l4, l5, l6, l7, l8, l9, l10, some (vI w), some (vI a), l13], [], S) := rn_step dL_act_456 rfl rfl
set_option maxRecDepth 100000 in
theorem eL_act_458 {a : Int} {l0 l1 l2 l3 l4 l5 l6 l7 l8 l9 l10 l11 l13 : Option VV} {S : MM} : rn xL_act (458, [l0, l1, l2, l3, l4, l5, l6, l7, l8, l9, l10, l11, some (vI a), l13], [], S) = rn xL_act (460, [l0, l1, l2, l3, l4, l5, l6, l7, l8, l9, l10, l11, some (vI a), l13], [vI a], S) := rn_step dL_act_458 rfl rfl
set_option maxRecDepth 100000 in
theorem eL_act_460 {a : Option Nat} {l1 l2 l3 l4 l5 l6 l7 l8 l9 l10 l11 l12 l13 : Option VV} {v0 : VV} {S : MM} : rn xL_act (460, [some (.inr (.inl a)), l1, l2, l3, l4, l5, l6, l7, l8, l9, l10, l11, l12, l13], [v0], S) = rn xL_act (461, [some (.inr (.inl a)), l1, l2, l3, l4, l5, l6, l7, l8, l9, l10, l11, l12, l13], [.inr (.inl a), v0], S) := rn_step dL_act_460 rfl rfl
set_option maxRecDepth 100000 in
theorem eL_act_461 {a : Int} {l0 l1 l2 l3 l4 l5 l6 l7 l8 l9 l10 l12 l13 : Option VV} {v0 v1 : VV} {S : MM} : rn xL_act (461, [l0, l1, l2, l3, l4, l5, l6, l7, l8, l9, l10, some (vI a), l12, l13], [v0, v1], S) = rn xL_act (463, [l0, l1, l2, l3, l4, l5, l6, l7, l8, l9, l10, some (vI a), l12, l13], [vI a, v0, v1], S) := rn_step dL_act_461 rfl rfl
set_option maxRecDepth 100000 in
theorem eL_act_463 {l0 l1 l2 l3 l4 l5 l6 l7 l8 l9 l10 l11 l12 l13 : Option VV} {v0 v1 v2 : VV} {S : MM} : rn xL_act (463, [l0, l1, l2, l3, l4, l5, l6, l7, l8, l9, l10, l11, l12, l13], [v0, v1, v2], S) = rn xL_act (464, [l0, l1, l2, l3, l4, l5, l6, l7, l8, l9, l10, l11, l12, l13], [vI 1, v0, v1, v2], S) := rn_step dL_act_463 rfl rfl
set_option maxRecDepth 100000 in
theorem eL_act_464 {a0 : Int} {a1 : Int} {l0 l1 l2 l3 l4 l5 l6 l7 l8 l9 l10 l11 l12 l13 : Option VV} {v3 : VV} {S : MM} : rn xL_act (464, [l0, l1, l2, l3, l4, l5, l6, l7, l8, l9, l10, l11, l12, l13], [vI a1, vI a0, vR 0, v3], S) = ((kp fX8_ofWalker) [vR 0, vI a0, vI a1] S).bind (fun q => rn xL_act (467, [l0, l1, l2, l3, l4, l5, l6, l7, l8, l9, l10, l11, l12, l13], q.1.toList ++ [v3], q.2)) := q_callV (n := 2) (as := [vI a0, vI a1]) (rest := [v3]) dL_act_464 rfl rfl rfl rfl kd0
set_option maxRecDepth 100000 in
theorem eL_act_467 {a b : Int} {l0 l1 l2 l3 l4 l5 l6 l7 l8 l9 l10 l11 l12 l13 : Option VV} (h : -2147483648 ≤ a ∧ a ≤ 2147483647) (h1 : -2147483648 ≤ b ∧ b ≤ 2147483647) {S : MM} : rn xL_act (467, [l0, l1, l2, l3, l4, l5, l6, l7, l8, l9, l10, l11, l12, l13], [vI b, vI a], S) = if a = b then rn xL_act (470, [l0, l1, l2, l3, l4, l5, l6, l7, l8, l9, l10, l11, l12, l13], [], S) else rn xL_act (511, [l0, l1, l2, l3, l4, l5, l6, l7, l8, l9, l10, l11, l12, l13], [], S) := q_icmp_ne dL_act_467 (by decide) rfl h h1
set_option maxRecDepth 100000 in
theorem eL_act_470 {a : Option Nat} {l1 l2 l3 l4 l5 l6 l7 l8 l9 l10 l11 l12 l13 : Option VV} {S : MM} : rn xL_act (470, [some (.inr (.inl a)), l1, l2, l3, l4, l5, l6, l7, l8, l9, l10, l11, l12, l13], [], S) = rn xL_act (471, [some (.inr (.inl a)), l1, l2, l3, l4, l5, l6, l7, l8, l9, l10, l11, l12, l13], [.inr (.inl a)], S) := rn_step dL_act_470 rfl rfl
set_option maxRecDepth 100000 in
theorem eL_act_471 {a : Int} {l0 l1 l2 l3 l4 l5 l6 l7 l8 l9 l10 l12 l13 : Option VV} {v0 : VV} {S : MM} : rn xL_act (471, [l0, l1, l2, l3, l4, l5, l6, l7, l8, l9, l10, some (vI a), l12, l13], [v0], S) = rn xL_act (473, [l0, l1, l2, l3, l4, l5, l6, l7, l8, l9, l10, some (vI a), l12, l13], [vI a, v0], S) := rn_step dL_act_471 rfl rfl
set_option maxRecDepth 100000 in
theorem eL_act_473 {l0 l1 l2 l3 l4 l5 l6 l7 l8 l9 l10 l11 l12 l13 : Option VV} {v0 v1 : VV} {S : MM} : rn xL_act (473, [l0, l1, l2, l3, l4, l5, l6, l7, l8, l9, l10, l11, l12, l13], [v0, v1], S) = rn xL_act (474, [l0, l1, l2, l3, l4, l5, l6, l7, l8, l9, l10, l11, l12, l13], [vI 3, v0, v1], S) := rn_step dL_act_473 rfl rfl
set_option maxRecDepth 100000 in
theorem eL_act_474 {a0 : Int} {a1 : Int} {l0 l1 l2 l3 l4 l5 l6 l7 l8 l9 l10 l11 l12 l13 : Option VV} {S : MM} : rn xL_act (474, [l0, l1, l2, l3, l4, l5, l6, l7, l8, l9, l10, l11, l12, l13], [vI a1, vI a0, vR 0], S) = ((kp fX8_ofWalker) [vR 0, vI a0, vI a1] S).bind (fun q => rn xL_act (477, [l0, l1, l2, l3, l4, l5, l6, l7, l8, l9, l10, l11, l12, l13], q.1.toList ++ [], q.2)) := q_callV (n := 2) (as := [vI a0, vI a1]) (rest := []) dL_act_474 rfl rfl rfl rfl kd0
set_option maxRecDepth 100000 in
theorem eL_act_477 {a : Int} {l0 l1 l2 l3 l4 l5 l6 l7 l8 l9 l10 l11 l12 l13 : Option VV} (h : -2147483648 ≤ a ∧ a ≤ 2147483647) {S : MM} : rn xL_act (477, [l0, l1, l2, l3, l4, l5, l6, l7, l8, l9, l10, l11, l12, l13], [vI a], S) = if a = 0 then rn xL_act (480, [l0, l1, l2, l3, l4, l5, l6, l7, l8, l9, l10, l11, l12, l13], [], S) else rn xL_act (511, [l0, l1, l2, l3, l4, l5, l6, l7, l8, l9, l10, l11, l12, l13], [], S) := q_if_ne dL_act_477 (by decide) rfl h
set_option maxRecDepth 100000 in
theorem eL_act_480 {a : Option Nat} {l1 l2 l3 l4 l5 l6 l7 l8 l9 l10 l11 l12 l13 : Option VV} {S : MM} : rn xL_act (480, [some (.inr (.inl a)), l1, l2, l3, l4, l5, l6, l7, l8, l9, l10, l11, l12, l13], [], S) = rn xL_act (481, [some (.inr (.inl a)), l1, l2, l3, l4, l5, l6, l7, l8, l9, l10, l11, l12, l13], [.inr (.inl a)], S) := rn_step dL_act_480 rfl rfl
set_option maxRecDepth 100000 in
theorem eL_act_481 {a : Int} {l0 l1 l2 l3 l4 l5 l6 l7 l8 l9 l10 l12 l13 : Option VV} {v0 : VV} {S : MM} : rn xL_act (481, [l0, l1, l2, l3, l4, l5, l6, l7, l8, l9, l10, some (vI a), l12, l13], [v0], S) = rn xL_act (483, [l0, l1, l2, l3, l4, l5, l6, l7, l8, l9, l10, some (vI a), l12, l13], [vI a, v0], S) := rn_step dL_act_481 rfl rfl
set_option maxRecDepth 100000 in
theorem eL_act_483 {l0 l1 l2 l3 l4 l5 l6 l7 l8 l9 l10 l11 l12 l13 : Option VV} {v0 v1 : VV} {S : MM} : rn xL_act (483, [l0, l1, l2, l3, l4, l5, l6, l7, l8, l9, l10, l11, l12, l13], [v0, v1], S) = rn xL_act (484, [l0, l1, l2, l3, l4, l5, l6, l7, l8, l9, l10, l11, l12, l13], [vI 4, v0, v1], S) := rn_step dL_act_483 rfl rfl
set_option maxRecDepth 100000 in
theorem eL_act_484 {a0 : Int} {a1 : Int} {l0 l1 l2 l3 l4 l5 l6 l7 l8 l9 l10 l11 l12 l13 : Option VV} {S : MM} : rn xL_act (484, [l0, l1, l2, l3, l4, l5, l6, l7, l8, l9, l10, l11, l12, l13], [vI a1, vI a0, vR 0], S) = ((kp fX8_ofWalker) [vR 0, vI a0, vI a1] S).bind (fun q => rn xL_act (487, [l0, l1, l2, l3, l4, l5, l6, l7, l8, l9, l10, l11, l12, l13], q.1.toList ++ [], q.2)) := q_callV (n := 2) (as := [vI a0, vI a1]) (rest := []) dL_act_484 rfl rfl rfl rfl kd0
set_option maxRecDepth 100000 in
theorem eL_act_487 {a : Int} {l0 l1 l2 l3 l4 l5 l6 l7 l8 l9 l10 l11 l12 l13 : Option VV} (h : -2147483648 ≤ a ∧ a ≤ 2147483647) {S : MM} : rn xL_act (487, [l0, l1, l2, l3, l4, l5, l6, l7, l8, l9, l10, l11, l12, l13], [vI a], S) = if a = 0 then rn xL_act (490, [l0, l1, l2, l3, l4, l5, l6, l7, l8, l9, l10, l11, l12, l13], [], S) else rn xL_act (511, [l0, l1, l2, l3, l4, l5, l6, l7, l8, l9, l10, l11, l12, l13], [], S) := q_if_ne dL_act_487 (by decide) rfl h
set_option maxRecDepth 100000 in
theorem eL_act_490 {a : Option Nat} {l1 l2 l3 l4 l5 l6 l7 l8 l9 l10 l11 l12 l13 : Option VV} {S : MM} : rn xL_act (490, [some (.inr (.inl a)), l1, l2, l3, l4, l5, l6, l7, l8, l9, l10, l11, l12, l13], [], S) = rn xL_act (491, [some (.inr (.inl a)), l1, l2, l3, l4, l5, l6, l7, l8, l9, l10, l11, l12, l13], [.inr (.inl a)], S) := rn_step dL_act_490 rfl rfl
set_option maxRecDepth 100000 in
theorem eL_act_491 {a : Int} {l0 l1 l2 l3 l4 l5 l6 l7 l8 l9 l10 l12 l13 : Option VV} {v0 : VV} {S : MM} : rn xL_act (491, [l0, l1, l2, l3, l4, l5, l6, l7, l8, l9, l10, some (vI a), l12, l13], [v0], S) = rn xL_act (493, [l0, l1, l2, l3, l4, l5, l6, l7, l8, l9, l10, some (vI a), l12, l13], [vI a, v0], S) := rn_step dL_act_491 rfl rfl
set_option maxRecDepth 100000 in
theorem eL_act_493 {l0 l1 l2 l3 l4 l5 l6 l7 l8 l9 l10 l11 l12 l13 : Option VV} {v0 v1 : VV} {S : MM} : rn xL_act (493, [l0, l1, l2, l3, l4, l5, l6, l7, l8, l9, l10, l11, l12, l13], [v0, v1], S) = rn xL_act (494, [l0, l1, l2, l3, l4, l5, l6, l7, l8, l9, l10, l11, l12, l13], [vI 5, v0, v1], S) := rn_step dL_act_493 rfl rfl
set_option maxRecDepth 100000 in
theorem eL_act_494 {a0 : Int} {a1 : Int} {l0 l1 l2 l3 l4 l5 l6 l7 l8 l9 l10 l11 l12 l13 : Option VV} {S : MM} : rn xL_act (494, [l0, l1, l2, l3, l4, l5, l6, l7, l8, l9, l10, l11, l12, l13], [vI a1, vI a0, vR 0], S) = ((kp fX8_ofWalker) [vR 0, vI a0, vI a1] S).bind (fun q => rn xL_act (497, [l0, l1, l2, l3, l4, l5, l6, l7, l8, l9, l10, l11, l12, l13], q.1.toList ++ [], q.2)) := q_callV (n := 2) (as := [vI a0, vI a1]) (rest := []) dL_act_494 rfl rfl rfl rfl kd0
set_option maxRecDepth 100000 in
theorem eL_act_497 {a : Int} {l0 l1 l2 l3 l4 l5 l6 l7 l8 l9 l10 l11 l12 l13 : Option VV} (h : -2147483648 ≤ a ∧ a ≤ 2147483647) {S : MM} : rn xL_act (497, [l0, l1, l2, l3, l4, l5, l6, l7, l8, l9, l10, l11, l12, l13], [vI a], S) = if a = 0 then rn xL_act (500, [l0, l1, l2, l3, l4, l5, l6, l7, l8, l9, l10, l11, l12, l13], [], S) else rn xL_act (511, [l0, l1, l2, l3, l4, l5, l6, l7, l8, l9, l10, l11, l12, l13], [], S) := q_if_ne dL_act_497 (by decide) rfl h
set_option maxRecDepth 100000 in
theorem eL_act_500 {a : Option Nat} {l1 l2 l3 l4 l5 l6 l7 l8 l9 l10 l11 l12 l13 : Option VV} {S : MM} : rn xL_act (500, [some (.inr (.inl a)), l1, l2, l3, l4, l5, l6, l7, l8, l9, l10, l11, l12, l13], [], S) = rn xL_act (501, [some (.inr (.inl a)), l1, l2, l3, l4, l5, l6, l7, l8, l9, l10, l11, l12, l13], [.inr (.inl a)], S) := rn_step dL_act_500 rfl rfl
set_option maxRecDepth 100000 in
theorem eL_act_501 {a : Int} {l0 l1 l2 l3 l4 l5 l6 l7 l8 l9 l10 l12 l13 : Option VV} {v0 : VV} {S : MM} : rn xL_act (501, [l0, l1, l2, l3, l4, l5, l6, l7, l8, l9, l10, some (vI a), l12, l13], [v0], S) = rn xL_act (503, [l0, l1, l2, l3, l4, l5, l6, l7, l8, l9, l10, some (vI a), l12, l13], [vI a, v0], S) := rn_step dL_act_501 rfl rfl
set_option maxRecDepth 100000 in
theorem eL_act_503 {l0 l1 l2 l3 l4 l5 l6 l7 l8 l9 l10 l11 l12 l13 : Option VV} {v0 v1 : VV} {S : MM} : rn xL_act (503, [l0, l1, l2, l3, l4, l5, l6, l7, l8, l9, l10, l11, l12, l13], [v0, v1], S) = rn xL_act (505, [l0, l1, l2, l3, l4, l5, l6, l7, l8, l9, l10, l11, l12, l13], [vI 6, v0, v1], S) := rn_step dL_act_503 rfl rfl
set_option maxRecDepth 100000 in
theorem eL_act_505 {a0 : Int} {a1 : Int} {l0 l1 l2 l3 l4 l5 l6 l7 l8 l9 l10 l11 l12 l13 : Option VV} {S : MM} : rn xL_act (505, [l0, l1, l2, l3, l4, l5, l6, l7, l8, l9, l10, l11, l12, l13], [vI a1, vI a0, vR 0], S) = ((kp fX8_ofWalker) [vR 0, vI a0, vI a1] S).bind (fun q => rn xL_act (508, [l0, l1, l2, l3, l4, l5, l6, l7, l8, l9, l10, l11, l12, l13], q.1.toList ++ [], q.2)) := q_callV (n := 2) (as := [vI a0, vI a1]) (rest := []) dL_act_505 rfl rfl rfl rfl kd0
set_option maxRecDepth 100000 in
theorem eL_act_508 {a : Int} {l0 l1 l2 l3 l4 l5 l6 l7 l8 l9 l10 l11 l12 l13 : Option VV} (h : -2147483648 ≤ a ∧ a ≤ 2147483647) {S : MM} : rn xL_act (508, [l0, l1, l2, l3, l4, l5, l6, l7, l8, l9, l10, l11, l12, l13], [vI a], S) = if a = 0 then rn xL_act (513, [l0, l1, l2, l3, l4, l5, l6, l7, l8, l9, l10, l11, l12, l13], [], S) else rn xL_act (511, [l0, l1, l2, l3, l4, l5, l6, l7, l8, l9, l10, l11, l12, l13], [], S) := q_if_eq dL_act_508 (by decide) rfl h
set_option maxRecDepth 100000 in
theorem eL_act_511 {l0 l1 l2 l3 l4 l5 l6 l7 l8 l9 l10 l11 l12 l13 : Option VV} {S : MM} : rn xL_act (511, [l0, l1, l2, l3, l4, l5, l6, l7, l8, l9, l10, l11, l12, l13], [], S) = rn xL_act (512, [l0, l1, l2, l3, l4, l5, l6, l7, l8, l9, l10, l11, l12, l13], [vI 0], S) := rn_step dL_act_511 rfl rfl
set_option maxRecDepth 100000 in
theorem eL_act_512 {z : Int} {l0 l1 l2 l3 l4 l5 l6 l7 l8 l9 l10 l11 l12 l13 : Option VV} (hz : z = 0 ∨ z = 1) {S : MM} : rn xL_act (512, [l0, l1, l2, l3, l4, l5, l6, l7, l8, l9, l10, l11, l12, l13], [vI z], S) = some (some (vI z), S) := q_retZ dL_act_512 rfl hz
set_option maxRecDepth 100000 in
theorem eL_act_513 {a : Option Nat} {l1 l2 l3 l4 l5 l6 l7 l8 l9 l10 l11 l12 l13 : Option VV} {S : MM} : rn xL_act (513, [some (.inr (.inl a)), l1, l2, l3, l4, l5, l6, l7, l8, l9, l10, l11, l12, l13], [], S) = rn xL_act (514, [some (.inr (.inl a)), l1, l2, l3, l4, l5, l6, l7, l8, l9, l10, l11, l12, l13], [.inr (.inl a)], S) := rn_step dL_act_513 rfl rfl
set_option maxRecDepth 100000 in
theorem eL_act_514 {a : Int} {l0 l1 l2 l3 l4 l5 l6 l7 l8 l9 l10 l12 l13 : Option VV} {v0 : VV} {S : MM} : rn xL_act (514, [l0, l1, l2, l3, l4, l5, l6, l7, l8, l9, l10, some (vI a), l12, l13], [v0], S) = rn xL_act (516, [l0, l1, l2, l3, l4, l5, l6, l7, l8, l9, l10, some (vI a), l12, l13], [vI a, v0], S) := rn_step dL_act_514 rfl rfl
set_option maxRecDepth 100000 in
theorem eL_act_516 {l0 l1 l2 l3 l4 l5 l6 l7 l8 l9 l10 l11 l12 l13 : Option VV} {v0 v1 : VV} {S : MM} : rn xL_act (516, [l0, l1, l2, l3, l4, l5, l6, l7, l8, l9, l10, l11, l12, l13], [v0, v1], S) = rn xL_act (517, [l0, l1, l2, l3, l4, l5, l6, l7, l8, l9, l10, l11, l12, l13], [vI 2, v0, v1], S) := rn_step dL_act_516 rfl rfl
set_option maxRecDepth 100000 in
theorem eL_act_517 {a0 : Int} {a1 : Int} {l0 l1 l2 l3 l4 l5 l6 l7 l8 l9 l10 l11 l12 l13 : Option VV} {S : MM} : rn xL_act (517, [l0, l1, l2, l3, l4, l5, l6, l7, l8, l9, l10, l11, l12, l13], [vI a1, vI a0, vR 0], S) = ((kp fX8_ofWalker) [vR 0, vI a0, vI a1] S).bind (fun q => rn xL_act (520, [l0, l1, l2, l3, l4, l5, l6, l7, l8, l9, l10, l11, l12, l13], q.1.toList ++ [], q.2)) := q_callV (n := 2) (as := [vI a0, vI a1]) (rest := []) dL_act_517 rfl rfl rfl rfl kd0
set_option maxRecDepth 100000 in
theorem eL_act_520 {a : Int} {w : Int} {l0 l1 l2 l3 l4 l5 l6 l7 l8 l9 l10 l11 l13 : Option VV} {S : MM} : rn xL_act (520, [l0, l1, l2, l3, l4, l5, l6, l7, l8, l9, l10, l11, some (vI w), l13], [vI a], S) = rn xL_act (522, [l0, l1, l2, l3, l4, l5, l6, l7, l8, l9, l10, l11, some (vI w), some (vI a)], [], S) := rn_step dL_act_520 rfl rfl
set_option maxRecDepth 100000 in
theorem eL_act_522 {a : Int} {l0 l1 l2 l3 l4 l5 l6 l7 l8 l9 l10 l11 l12 : Option VV} {S : MM} : rn xL_act (522, [l0, l1, l2, l3, l4, l5, l6, l7, l8, l9, l10, l11, l12, some (vI a)], [], S) = rn xL_act (524, [l0, l1, l2, l3, l4, l5, l6, l7, l8, l9, l10, l11, l12, some (vI a)], [vI a], S) := rn_step dL_act_522 rfl rfl
set_option maxRecDepth 100000 in
theorem eL_act_524 {a : Int} {l0 l1 l2 l3 l4 l5 l6 l7 l8 l9 l10 l11 l12 l13 : Option VV} (h : -2147483648 ≤ a ∧ a ≤ 2147483647) {S : MM} : rn xL_act (524, [l0, l1, l2, l3, l4, l5, l6, l7, l8, l9, l10, l11, l12, l13], [vI a], S) = if a < 0 then rn xL_act (537, [l0, l1, l2, l3, l4, l5, l6, l7, l8, l9, l10, l11, l12, l13], [], S) else rn xL_act (527, [l0, l1, l2, l3, l4, l5, l6, l7, l8, l9, l10, l11, l12, l13], [], S) := q_if_lt dL_act_524 (by decide) rfl h
set_option maxRecDepth 100000 in
theorem eL_act_527 {a : Int} {l0 l1 l2 l3 l4 l5 l6 l7 l8 l9 l10 l11 l12 : Option VV} {S : MM} : rn xL_act (527, [l0, l1, l2, l3, l4, l5, l6, l7, l8, l9, l10, l11, l12, some (vI a)], [], S) = rn xL_act (529, [l0, l1, l2, l3, l4, l5, l6, l7, l8, l9, l10, l11, l12, some (vI a)], [vI a], S) := rn_step dL_act_527 rfl rfl
set_option maxRecDepth 100000 in
theorem eL_act_529 {a : Option Nat} {l1 l2 l3 l4 l5 l6 l7 l8 l9 l10 l11 l12 l13 : Option VV} {v0 : VV} {S : MM} : rn xL_act (529, [some (.inr (.inl a)), l1, l2, l3, l4, l5, l6, l7, l8, l9, l10, l11, l12, l13], [v0], S) = rn xL_act (530, [some (.inr (.inl a)), l1, l2, l3, l4, l5, l6, l7, l8, l9, l10, l11, l12, l13], [.inr (.inl a), v0], S) := rn_step dL_act_529 rfl rfl
set_option maxRecDepth 100000 in
theorem eL_act_530 {l0 l1 l2 l3 l4 l5 l6 l7 l8 l9 l10 l11 l12 l13 : Option VV} {v0 v1 : VV} {S : MM} : rn xL_act (530, [l0, l1, l2, l3, l4, l5, l6, l7, l8, l9, l10, l11, l12, l13], [v0, v1], S) = rn xL_act (531, [l0, l1, l2, l3, l4, l5, l6, l7, l8, l9, l10, l11, l12, l13], [vI 3, v0, v1], S) := rn_step dL_act_530 rfl rfl
set_option maxRecDepth 100000 in
theorem eL_act_531 {a0 : Int} {l0 l1 l2 l3 l4 l5 l6 l7 l8 l9 l10 l11 l12 l13 : Option VV} {v2 : VV} {S : MM} : rn xL_act (531, [l0, l1, l2, l3, l4, l5, l6, l7, l8, l9, l10, l11, l12, l13], [vI a0, vR 0, v2], S) = ((kp fX8_count) [vR 0, vI a0] S).bind (fun q => rn xL_act (534, [l0, l1, l2, l3, l4, l5, l6, l7, l8, l9, l10, l11, l12, l13], q.1.toList ++ [v2], q.2)) := q_callV (n := 1) (as := [vI a0]) (rest := [v2]) dL_act_531 rfl rfl rfl rfl kd0
set_option maxRecDepth 100000 in
theorem eL_act_534 {a b : Int} {l0 l1 l2 l3 l4 l5 l6 l7 l8 l9 l10 l11 l12 l13 : Option VV} (h : -2147483648 ≤ a ∧ a ≤ 2147483647) (h1 : -2147483648 ≤ b ∧ b ≤ 2147483647) {S : MM} : rn xL_act (534, [l0, l1, l2, l3, l4, l5, l6, l7, l8, l9, l10, l11, l12, l13], [vI b, vI a], S) = if b < a then rn xL_act (537, [l0, l1, l2, l3, l4, l5, l6, l7, l8, l9, l10, l11, l12, l13], [], S) else rn xL_act (540, [l0, l1, l2, l3, l4, l5, l6, l7, l8, l9, l10, l11, l12, l13], [], S) := q_icmp_le dL_act_534 (by decide) rfl h h1
set_option maxRecDepth 100000 in
theorem eL_act_537 {l0 l1 l2 l3 l4 l5 l6 l7 l8 l9 l10 l11 l12 l13 : Option VV} {S : MM} : rn xL_act (537, [l0, l1, l2, l3, l4, l5, l6, l7, l8, l9, l10, l11, l12, l13], [], S) = rn xL_act (538, [l0, l1, l2, l3, l4, l5, l6, l7, l8, l9, l10, l11, l12, l13], [vI 1], S) := rn_step dL_act_537 rfl rfl
set_option maxRecDepth 100000 in
theorem eL_act_538 {a : Int} {w : Int} {l0 l1 l2 l3 l4 l5 l6 l8 l9 l10 l11 l12 l13 : Option VV} {S : MM} : rn xL_act (538, [l0, l1, l2, l3, l4, l5, l6, some (vI w), l8, l9, l10, l11, l12, l13], [vI a], S) = rn xL_act (540, [l0, l1, l2, l3, l4, l5, l6, some (vI w), some (vI a), l9, l10, l11, l12, l13], [], S) := rn_step dL_act_538 rfl rfl
set_option maxRecDepth 100000 in
theorem eL_act_540 {a : Int} {l0 l1 l2 l3 l4 l5 l6 l7 l8 l9 l10 l11 l12 : Option VV} {S : MM} : rn xL_act (540, [l0, l1, l2, l3, l4, l5, l6, l7, l8, l9, l10, l11, l12, some (vI a)], [], S) = rn xL_act (542, [l0, l1, l2, l3, l4, l5, l6, l7, l8, l9, l10, l11, l12, some (vI a)], [vI a], S) := rn_step dL_act_540 rfl rfl
set_option maxRecDepth 100000 in
theorem eL_act_542 {a : Int} {l0 l1 l2 l3 l4 l5 l6 l7 l8 l9 l11 l12 l13 : Option VV} {v0 : VV} {S : MM} : rn xL_act (542, [l0, l1, l2, l3, l4, l5, l6, l7, l8, l9, some (vI a), l11, l12, l13], [v0], S) = rn xL_act (544, [l0, l1, l2, l3, l4, l5, l6, l7, l8, l9, some (vI a), l11, l12, l13], [vI a, v0], S) := rn_step dL_act_542 rfl rfl
set_option maxRecDepth 100000 in
theorem eL_act_544 {a b : Int} {l0 l1 l2 l3 l4 l5 l6 l7 l8 l9 l10 l11 l12 l13 : Option VV} (h : -2147483648 ≤ a ∧ a ≤ 2147483647) (h1 : -2147483648 ≤ b ∧ b ≤ 2147483647) {S : MM} : rn xL_act (544, [l0, l1, l2, l3, l4, l5, l6, l7, l8, l9, l10, l11, l12, l13], [vI b, vI a], S) = if b < a then rn xL_act (547, [l0, l1, l2, l3, l4, l5, l6, l7, l8, l9, l10, l11, l12, l13], [], S) else rn xL_act (551, [l0, l1, l2, l3, l4, l5, l6, l7, l8, l9, l10, l11, l12, l13], [], S) := q_icmp_le dL_act_544 (by decide) rfl h h1
set_option maxRecDepth 100000 in
theorem eL_act_547 {a : Int} {l0 l1 l2 l3 l4 l5 l6 l7 l8 l9 l10 l11 l12 : Option VV} {S : MM} : rn xL_act (547, [l0, l1, l2, l3, l4, l5, l6, l7, l8, l9, l10, l11, l12, some (vI a)], [], S) = rn xL_act (549, [l0, l1, l2, l3, l4, l5, l6, l7, l8, l9, l10, l11, l12, some (vI a)], [vI a], S) := rn_step dL_act_547 rfl rfl
set_option maxRecDepth 100000 in
theorem eL_act_549 {a : Int} {w : Int} {l0 l1 l2 l3 l4 l5 l6 l7 l8 l10 l11 l12 l13 : Option VV} {S : MM} : rn xL_act (549, [l0, l1, l2, l3, l4, l5, l6, l7, l8, some (vI w), l10, l11, l12, l13], [vI a], S) = rn xL_act (551, [l0, l1, l2, l3, l4, l5, l6, l7, l8, some (vI w), some (vI a), l11, l12, l13], [], S) := rn_step dL_act_549 rfl rfl
set_option maxRecDepth 100000 in
theorem eL_act_551 {a : Int} {w : Int} {l0 l1 l2 l3 l4 l5 l6 l7 l8 l9 l12 l13 : Option VV} {S : MM} : rn xL_act (551, [l0, l1, l2, l3, l4, l5, l6, l7, l8, l9, some (vI w), some (vI a), l12, l13], [], S) = rn xL_act (554, [l0, l1, l2, l3, l4, l5, l6, l7, l8, l9, some (vI w), some (vI (a + 1)), l12, l13], [], S) := rn_step dL_act_551 rfl rfl
set_option maxRecDepth 100000 in
theorem eL_act_554 {l0 l1 l2 l3 l4 l5 l6 l7 l8 l9 l10 l11 l12 l13 : Option VV} {S : MM} : rn xL_act (554, [l0, l1, l2, l3, l4, l5, l6, l7, l8, l9, l10, l11, l12, l13], [], S) = rn xL_act (439, [l0, l1, l2, l3, l4, l5, l6, l7, l8, l9, l10, l11, l12, l13], [], S) := rn_step dL_act_554 rfl rfl
set_option maxRecDepth 100000 in
theorem eL_act_557 {a : Option Nat} {l1 l2 l3 l4 l5 l6 l7 l8 l9 l10 l11 l12 l13 : Option VV} {S : MM} : rn xL_act (557, [some (.inr (.inl a)), l1, l2, l3, l4, l5, l6, l7, l8, l9, l10, l11, l12, l13], [], S) = rn xL_act (558, [some (.inr (.inl a)), l1, l2, l3, l4, l5, l6, l7, l8, l9, l10, l11, l12, l13], [.inr (.inl a)], S) := rn_step dL_act_557 rfl rfl
set_option maxRecDepth 100000 in
theorem eL_act_558 {l0 l1 l2 l3 l4 l5 l6 l7 l8 l9 l10 l11 l12 l13 : Option VV} {v0 : VV} {S : MM} : rn xL_act (558, [l0, l1, l2, l3, l4, l5, l6, l7, l8, l9, l10, l11, l12, l13], [v0], S) = rn xL_act (559, [l0, l1, l2, l3, l4, l5, l6, l7, l8, l9, l10, l11, l12, l13], [vI 0, v0], S) := rn_step dL_act_558 rfl rfl
set_option maxRecDepth 100000 in
theorem eL_act_559 {l0 l1 l2 l3 l4 l5 l6 l7 l8 l9 l10 l11 l12 l13 : Option VV} {v0 v1 : VV} {S : MM} : rn xL_act (559, [l0, l1, l2, l3, l4, l5, l6, l7, l8, l9, l10, l11, l12, l13], [v0, v1], S) = rn xL_act (560, [l0, l1, l2, l3, l4, l5, l6, l7, l8, l9, l10, l11, l12, l13], [vI 2, v0, v1], S) := rn_step dL_act_559 rfl rfl
set_option maxRecDepth 100000 in
theorem eL_act_560 {a0 : Int} {a1 : Int} {l0 l1 l2 l3 l4 l5 l6 l7 l8 l9 l10 l11 l12 l13 : Option VV} {S : MM} : rn xL_act (560, [l0, l1, l2, l3, l4, l5, l6, l7, l8, l9, l10, l11, l12, l13], [vI a1, vI a0, vR 0], S) = ((kp fX8_ofWalker) [vR 0, vI a0, vI a1] S).bind (fun q => rn xL_act (563, [l0, l1, l2, l3, l4, l5, l6, l7, l8, l9, l10, l11, l12, l13], q.1.toList ++ [], q.2)) := q_callV (n := 2) (as := [vI a0, vI a1]) (rest := []) dL_act_560 rfl rfl rfl rfl kd0
set_option maxRecDepth 100000 in
theorem eL_act_563 {a : Option Nat} {l1 l2 l3 l4 l5 l6 l7 l8 l9 l10 l11 l12 l13 : Option VV} {v0 : VV} {S : MM} : rn xL_act (563, [some (.inr (.inl a)), l1, l2, l3, l4, l5, l6, l7, l8, l9, l10, l11, l12, l13], [v0], S) = rn xL_act (564, [some (.inr (.inl a)), l1, l2, l3, l4, l5, l6, l7, l8, l9, l10, l11, l12, l13], [.inr (.inl a), v0], S) := rn_step dL_act_563 rfl rfl
set_option maxRecDepth 100000 in
theorem eL_act_564 {l0 l1 l2 l3 l4 l5 l6 l7 l8 l9 l10 l11 l12 l13 : Option VV} {v0 v1 : VV} {S : MM} : rn xL_act (564, [l0, l1, l2, l3, l4, l5, l6, l7, l8, l9, l10, l11, l12, l13], [v0, v1], S) = rn xL_act (565, [l0, l1, l2, l3, l4, l5, l6, l7, l8, l9, l10, l11, l12, l13], [vI 1, v0, v1], S) := rn_step dL_act_564 rfl rfl
set_option maxRecDepth 100000 in
theorem eL_act_565 {l0 l1 l2 l3 l4 l5 l6 l7 l8 l9 l10 l11 l12 l13 : Option VV} {v0 v1 v2 : VV} {S : MM} : rn xL_act (565, [l0, l1, l2, l3, l4, l5, l6, l7, l8, l9, l10, l11, l12, l13], [v0, v1, v2], S) = rn xL_act (566, [l0, l1, l2, l3, l4, l5, l6, l7, l8, l9, l10, l11, l12, l13], [vI 2, v0, v1, v2], S) := rn_step dL_act_565 rfl rfl
set_option maxRecDepth 100000 in
theorem eL_act_566 {a0 : Int} {a1 : Int} {l0 l1 l2 l3 l4 l5 l6 l7 l8 l9 l10 l11 l12 l13 : Option VV} {v3 : VV} {S : MM} : rn xL_act (566, [l0, l1, l2, l3, l4, l5, l6, l7, l8, l9, l10, l11, l12, l13], [vI a1, vI a0, vR 0, v3], S) = ((kp fX8_ofWalker) [vR 0, vI a0, vI a1] S).bind (fun q => rn xL_act (569, [l0, l1, l2, l3, l4, l5, l6, l7, l8, l9, l10, l11, l12, l13], q.1.toList ++ [v3], q.2)) := q_callV (n := 2) (as := [vI a0, vI a1]) (rest := [v3]) dL_act_566 rfl rfl rfl rfl kd0
set_option maxRecDepth 100000 in
theorem eL_act_569 {a b : Int} {l0 l1 l2 l3 l4 l5 l6 l7 l8 l9 l10 l11 l12 l13 : Option VV} (h : -2147483648 ≤ a ∧ a ≤ 2147483647) (h1 : -2147483648 ≤ b ∧ b ≤ 2147483647) {S : MM} : rn xL_act (569, [l0, l1, l2, l3, l4, l5, l6, l7, l8, l9, l10, l11, l12, l13], [vI b, vI a], S) = if a = b then rn xL_act (572, [l0, l1, l2, l3, l4, l5, l6, l7, l8, l9, l10, l11, l12, l13], [], S) else rn xL_act (591, [l0, l1, l2, l3, l4, l5, l6, l7, l8, l9, l10, l11, l12, l13], [], S) := q_icmp_ne dL_act_569 (by decide) rfl h h1
set_option maxRecDepth 100000 in
theorem eL_act_572 {a : Option Nat} {l1 l2 l3 l4 l5 l6 l7 l8 l9 l10 l11 l12 l13 : Option VV} {S : MM} : rn xL_act (572, [some (.inr (.inl a)), l1, l2, l3, l4, l5, l6, l7, l8, l9, l10, l11, l12, l13], [], S) = rn xL_act (573, [some (.inr (.inl a)), l1, l2, l3, l4, l5, l6, l7, l8, l9, l10, l11, l12, l13], [.inr (.inl a)], S) := rn_step dL_act_572 rfl rfl
set_option maxRecDepth 100000 in
theorem eL_act_573 {l0 l1 l2 l3 l4 l5 l6 l7 l8 l9 l10 l11 l12 l13 : Option VV} {v0 : VV} {S : MM} : rn xL_act (573, [l0, l1, l2, l3, l4, l5, l6, l7, l8, l9, l10, l11, l12, l13], [v0], S) = rn xL_act (574, [l0, l1, l2, l3, l4, l5, l6, l7, l8, l9, l10, l11, l12, l13], [vI 1, v0], S) := rn_step dL_act_573 rfl rfl
set_option maxRecDepth 100000 in
theorem eL_act_574 {l0 l1 l2 l3 l4 l5 l6 l7 l8 l9 l10 l11 l12 l13 : Option VV} {v0 v1 : VV} {S : MM} : rn xL_act (574, [l0, l1, l2, l3, l4, l5, l6, l7, l8, l9, l10, l11, l12, l13], [v0, v1], S) = rn xL_act (575, [l0, l1, l2, l3, l4, l5, l6, l7, l8, l9, l10, l11, l12, l13], [vI 2, v0, v1], S) := rn_step dL_act_574 rfl rfl
set_option maxRecDepth 100000 in
theorem eL_act_575 {a0 : Int} {a1 : Int} {l0 l1 l2 l3 l4 l5 l6 l7 l8 l9 l10 l11 l12 l13 : Option VV} {S : MM} : rn xL_act (575, [l0, l1, l2, l3, l4, l5, l6, l7, l8, l9, l10, l11, l12, l13], [vI a1, vI a0, vR 0], S) = ((kp fX8_ofWalker) [vR 0, vI a0, vI a1] S).bind (fun q => rn xL_act (578, [l0, l1, l2, l3, l4, l5, l6, l7, l8, l9, l10, l11, l12, l13], q.1.toList ++ [], q.2)) := q_callV (n := 2) (as := [vI a0, vI a1]) (rest := []) dL_act_575 rfl rfl rfl rfl kd0
set_option maxRecDepth 100000 in
theorem eL_act_578 {a : Option Nat} {l1 l2 l3 l4 l5 l6 l7 l8 l9 l10 l11 l12 l13 : Option VV} {v0 : VV} {S : MM} : rn xL_act (578, [some (.inr (.inl a)), l1, l2, l3, l4, l5, l6, l7, l8, l9, l10, l11, l12, l13], [v0], S) = rn xL_act (579, [some (.inr (.inl a)), l1, l2, l3, l4, l5, l6, l7, l8, l9, l10, l11, l12, l13], [.inr (.inl a), v0], S) := rn_step dL_act_578 rfl rfl
set_option maxRecDepth 100000 in
theorem eL_act_579 {l0 l1 l2 l3 l4 l5 l6 l7 l8 l9 l10 l11 l12 l13 : Option VV} {v0 v1 : VV} {S : MM} : rn xL_act (579, [l0, l1, l2, l3, l4, l5, l6, l7, l8, l9, l10, l11, l12, l13], [v0, v1], S) = rn xL_act (580, [l0, l1, l2, l3, l4, l5, l6, l7, l8, l9, l10, l11, l12, l13], [vI 2, v0, v1], S) := rn_step dL_act_579 rfl rfl
set_option maxRecDepth 100000 in
theorem eL_act_580 {l0 l1 l2 l3 l4 l5 l6 l7 l8 l9 l10 l11 l12 l13 : Option VV} {v0 v1 v2 : VV} {S : MM} : rn xL_act (580, [l0, l1, l2, l3, l4, l5, l6, l7, l8, l9, l10, l11, l12, l13], [v0, v1, v2], S) = rn xL_act (581, [l0, l1, l2, l3, l4, l5, l6, l7, l8, l9, l10, l11, l12, l13], [vI 2, v0, v1, v2], S) := rn_step dL_act_580 rfl rfl
set_option maxRecDepth 100000 in
theorem eL_act_581 {a0 : Int} {a1 : Int} {l0 l1 l2 l3 l4 l5 l6 l7 l8 l9 l10 l11 l12 l13 : Option VV} {v3 : VV} {S : MM} : rn xL_act (581, [l0, l1, l2, l3, l4, l5, l6, l7, l8, l9, l10, l11, l12, l13], [vI a1, vI a0, vR 0, v3], S) = ((kp fX8_ofWalker) [vR 0, vI a0, vI a1] S).bind (fun q => rn xL_act (584, [l0, l1, l2, l3, l4, l5, l6, l7, l8, l9, l10, l11, l12, l13], q.1.toList ++ [v3], q.2)) := q_callV (n := 2) (as := [vI a0, vI a1]) (rest := [v3]) dL_act_581 rfl rfl rfl rfl kd0
set_option maxRecDepth 100000 in
theorem eL_act_584 {a b : Int} {l0 l1 l2 l3 l4 l5 l6 l7 l8 l9 l10 l11 l12 l13 : Option VV} (h : -2147483648 ≤ a ∧ a ≤ 2147483647) (h1 : -2147483648 ≤ b ∧ b ≤ 2147483647) {S : MM} : rn xL_act (584, [l0, l1, l2, l3, l4, l5, l6, l7, l8, l9, l10, l11, l12, l13], [vI b, vI a], S) = if a = b then rn xL_act (587, [l0, l1, l2, l3, l4, l5, l6, l7, l8, l9, l10, l11, l12, l13], [], S) else rn xL_act (591, [l0, l1, l2, l3, l4, l5, l6, l7, l8, l9, l10, l11, l12, l13], [], S) := q_icmp_ne dL_act_584 (by decide) rfl h h1
set_option maxRecDepth 100000 in
theorem eL_act_587 {l0 l1 l2 l3 l4 l5 l6 l7 l8 l9 l10 l11 l12 l13 : Option VV} {S : MM} : rn xL_act (587, [l0, l1, l2, l3, l4, l5, l6, l7, l8, l9, l10, l11, l12, l13], [], S) = rn xL_act (588, [l0, l1, l2, l3, l4, l5, l6, l7, l8, l9, l10, l11, l12, l13], [vI 1], S) := rn_step dL_act_587 rfl rfl
set_option maxRecDepth 100000 in
theorem eL_act_588 {l0 l1 l2 l3 l4 l5 l6 l7 l8 l9 l10 l11 l12 l13 : Option VV} {v0 : VV} {S : MM} : rn xL_act (588, [l0, l1, l2, l3, l4, l5, l6, l7, l8, l9, l10, l11, l12, l13], [v0], S) = rn xL_act (592, [l0, l1, l2, l3, l4, l5, l6, l7, l8, l9, l10, l11, l12, l13], [v0], S) := rn_step dL_act_588 rfl rfl
set_option maxRecDepth 100000 in
theorem eL_act_591 {l0 l1 l2 l3 l4 l5 l6 l7 l8 l9 l10 l11 l12 l13 : Option VV} {S : MM} : rn xL_act (591, [l0, l1, l2, l3, l4, l5, l6, l7, l8, l9, l10, l11, l12, l13], [], S) = rn xL_act (592, [l0, l1, l2, l3, l4, l5, l6, l7, l8, l9, l10, l11, l12, l13], [vI 0], S) := rn_step dL_act_591 rfl rfl
set_option maxRecDepth 100000 in
theorem eL_act_592 {a : Int} {w : Int} {l0 l1 l2 l3 l4 l5 l6 l7 l8 l9 l11 l12 l13 : Option VV} {S : MM} : rn xL_act (592, [l0, l1, l2, l3, l4, l5, l6, l7, l8, l9, some (vI w), l11, l12, l13], [vI a], S) = rn xL_act (594, [l0, l1, l2, l3, l4, l5, l6, l7, l8, l9, some (vI w), some (vI a), l12, l13], [], S) := rn_step dL_act_592 rfl rfl
set_option maxRecDepth 100000 in
theorem eL_act_594 {a : Int} {l0 l1 l2 l3 l4 l5 l6 l7 l9 l10 l11 l12 l13 : Option VV} {S : MM} : rn xL_act (594, [l0, l1, l2, l3, l4, l5, l6, l7, some (vI a), l9, l10, l11, l12, l13], [], S) = rn xL_act (596, [l0, l1, l2, l3, l4, l5, l6, l7, some (vI a), l9, l10, l11, l12, l13], [vI a], S) := rn_step dL_act_594 rfl rfl
set_option maxRecDepth 100000 in
theorem eL_act_596 {a : Int} {l0 l1 l2 l3 l4 l5 l6 l7 l8 l9 l10 l11 l12 l13 : Option VV} (h : -2147483648 ≤ a ∧ a ≤ 2147483647) {S : MM} : rn xL_act (596, [l0, l1, l2, l3, l4, l5, l6, l7, l8, l9, l10, l11, l12, l13], [vI a], S) = if a = 0 then rn xL_act (599, [l0, l1, l2, l3, l4, l5, l6, l7, l8, l9, l10, l11, l12, l13], [], S) else rn xL_act (627, [l0, l1, l2, l3, l4, l5, l6, l7, l8, l9, l10, l11, l12, l13], [], S) := q_if_ne dL_act_596 (by decide) rfl h
set_option maxRecDepth 100000 in
theorem eL_act_599 {a : Int} {l0 l1 l2 l3 l4 l5 l6 l7 l8 l9 l10 l12 l13 : Option VV} {S : MM} : rn xL_act (599, [l0, l1, l2, l3, l4, l5, l6, l7, l8, l9, l10, some (vI a), l12, l13], [], S) = rn xL_act (601, [l0, l1, l2, l3, l4, l5, l6, l7, l8, l9, l10, some (vI a), l12, l13], [vI a], S) := rn_step dL_act_599 rfl rfl
set_option maxRecDepth 100000 in
theorem eL_act_601 {a : Int} {l0 l1 l2 l3 l4 l5 l6 l7 l8 l9 l10 l11 l12 l13 : Option VV} (h : -2147483648 ≤ a ∧ a ≤ 2147483647) {S : MM} : rn xL_act (601, [l0, l1, l2, l3, l4, l5, l6, l7, l8, l9, l10, l11, l12, l13], [vI a], S) = if a = 0 then rn xL_act (611, [l0, l1, l2, l3, l4, l5, l6, l7, l8, l9, l10, l11, l12, l13], [], S) else rn xL_act (604, [l0, l1, l2, l3, l4, l5, l6, l7, l8, l9, l10, l11, l12, l13], [], S) := q_if_eq dL_act_601 (by decide) rfl h
set_option maxRecDepth 100000 in
theorem eL_act_604 {a : Int} {l0 l1 l2 l3 l4 l5 l6 l7 l8 l9 l11 l12 l13 : Option VV} {S : MM} : rn xL_act (604, [l0, l1, l2, l3, l4, l5, l6, l7, l8, l9, some (vI a), l11, l12, l13], [], S) = rn xL_act (606, [l0, l1, l2, l3, l4, l5, l6, l7, l8, l9, some (vI a), l11, l12, l13], [vI a], S) := rn_step dL_act_604 rfl rfl
set_option maxRecDepth 100000 in
theorem eL_act_606 {l0 l1 l2 l3 l4 l5 l6 l7 l8 l9 l10 l11 l12 l13 : Option VV} {v0 : VV} {S : MM} : rn xL_act (606, [l0, l1, l2, l3, l4, l5, l6, l7, l8, l9, l10, l11, l12, l13], [v0], S) = rn xL_act (607, [l0, l1, l2, l3, l4, l5, l6, l7, l8, l9, l10, l11, l12, l13], [vI 1, v0], S) := rn_step dL_act_606 rfl rfl
set_option maxRecDepth 100000 in
theorem eL_act_607 {a b : Int} {l0 l1 l2 l3 l4 l5 l6 l7 l8 l9 l10 l11 l12 l13 : Option VV} {S : MM} : rn xL_act (607, [l0, l1, l2, l3, l4, l5, l6, l7, l8, l9, l10, l11, l12, l13], [vI b, vI a], S) = rn xL_act (608, [l0, l1, l2, l3, l4, l5, l6, l7, l8, l9, l10, l11, l12, l13], [vI (a + b)], S) := rn_step dL_act_607 rfl rfl
set_option maxRecDepth 100000 in
theorem eL_act_608 {l0 l1 l2 l3 l4 l5 l6 l7 l8 l9 l10 l11 l12 l13 : Option VV} {v0 : VV} {S : MM} : rn xL_act (608, [l0, l1, l2, l3, l4, l5, l6, l7, l8, l9, l10, l11, l12, l13], [v0], S) = rn xL_act (625, [l0, l1, l2, l3, l4, l5, l6, l7, l8, l9, l10, l11, l12, l13], [v0], S) := rn_step dL_act_608 rfl rfl
set_option maxRecDepth 100000 in
theorem eL_act_611 {a : Int} {l0 l1 l2 l3 l4 l5 l6 l7 l8 l9 l11 l12 l13 : Option VV} {S : MM} : rn xL_act (611, [l0, l1, l2, l3, l4, l5, l6, l7, l8, l9, some (vI a), l11, l12, l13], [], S) = rn xL_act (613, [l0, l1, l2, l3, l4, l5, l6, l7, l8, l9, some (vI a), l11, l12, l13], [vI a], S) := rn_step dL_act_611 rfl rfl
set_option maxRecDepth 100000 in
theorem eL_act_613 {a : Int} {l0 l1 l2 l3 l4 l5 l6 l7 l8 l10 l11 l12 l13 : Option VV} {v0 : VV} {S : MM} : rn xL_act (613, [l0, l1, l2, l3, l4, l5, l6, l7, l8, some (vI a), l10, l11, l12, l13], [v0], S) = rn xL_act (615, [l0, l1, l2, l3, l4, l5, l6, l7, l8, some (vI a), l10, l11, l12, l13], [vI a, v0], S) := rn_step dL_act_613 rfl rfl
set_option maxRecDepth 100000 in
theorem eL_act_615 {a b : Int} {l0 l1 l2 l3 l4 l5 l6 l7 l8 l9 l10 l11 l12 l13 : Option VV} (h : -2147483648 ≤ a ∧ a ≤ 2147483647) (h1 : -2147483648 ≤ b ∧ b ≤ 2147483647) {S : MM} : rn xL_act (615, [l0, l1, l2, l3, l4, l5, l6, l7, l8, l9, l10, l11, l12, l13], [vI b, vI a], S) = if b < a then rn xL_act (618, [l0, l1, l2, l3, l4, l5, l6, l7, l8, l9, l10, l11, l12, l13], [], S) else rn xL_act (623, [l0, l1, l2, l3, l4, l5, l6, l7, l8, l9, l10, l11, l12, l13], [], S) := q_icmp_le dL_act_615 (by decide) rfl h h1
set_option maxRecDepth 100000 in
theorem eL_act_618 {a : Int} {l0 l1 l2 l3 l4 l5 l6 l7 l8 l9 l11 l12 l13 : Option VV} {S : MM} : rn xL_act (618, [l0, l1, l2, l3, l4, l5, l6, l7, l8, l9, some (vI a), l11, l12, l13], [], S) = rn xL_act (620, [l0, l1, l2, l3, l4, l5, l6, l7, l8, l9, some (vI a), l11, l12, l13], [vI a], S) := rn_step dL_act_618 rfl rfl
set_option maxRecDepth 100000 in
theorem eL_act_620 {l0 l1 l2 l3 l4 l5 l6 l7 l8 l9 l10 l11 l12 l13 : Option VV} {v0 : VV} {S : MM} : rn xL_act (620, [l0, l1, l2, l3, l4, l5, l6, l7, l8, l9, l10, l11, l12, l13], [v0], S) = rn xL_act (625, [l0, l1, l2, l3, l4, l5, l6, l7, l8, l9, l10, l11, l12, l13], [v0], S) := rn_step dL_act_620 rfl rfl
set_option maxRecDepth 100000 in
theorem eL_act_623 {a : Int} {l0 l1 l2 l3 l4 l5 l6 l7 l8 l10 l11 l12 l13 : Option VV} {S : MM} : rn xL_act (623, [l0, l1, l2, l3, l4, l5, l6, l7, l8, some (vI a), l10, l11, l12, l13], [], S) = rn xL_act (625, [l0, l1, l2, l3, l4, l5, l6, l7, l8, some (vI a), l10, l11, l12, l13], [vI a], S) := rn_step dL_act_623 rfl rfl
set_option maxRecDepth 100000 in
theorem eL_act_625 {a : Int} {w : Int} {l0 l1 l2 l3 l4 l5 l6 l7 l9 l10 l11 l12 l13 : Option VV} {S : MM} : rn xL_act (625, [l0, l1, l2, l3, l4, l5, l6, l7, some (vI w), l9, l10, l11, l12, l13], [vI a], S) = rn xL_act (627, [l0, l1, l2, l3, l4, l5, l6, l7, some (vI w), some (vI a), l10, l11, l12, l13], [], S) := rn_step dL_act_625 rfl rfl
set_option maxRecDepth 100000 in
theorem eL_act_627 {a : Int} {l0 l1 l2 l3 l4 l5 l6 l8 l9 l10 l11 l12 l13 : Option VV} {S : MM} : rn xL_act (627, [l0, l1, l2, l3, l4, l5, l6, some (vI a), l8, l9, l10, l11, l12, l13], [], S) = rn xL_act (629, [l0, l1, l2, l3, l4, l5, l6, some (vI a), l8, l9, l10, l11, l12, l13], [vI a], S) := rn_step dL_act_627 rfl rfl
set_option maxRecDepth 100000 in
theorem eL_act_629 {a : Int} {l0 l1 l2 l3 l4 l5 l6 l7 l9 l10 l11 l12 l13 : Option VV} {v0 : VV} {S : MM} : rn xL_act (629, [l0, l1, l2, l3, l4, l5, l6, l7, some (vI a), l9, l10, l11, l12, l13], [v0], S) = rn xL_act (631, [l0, l1, l2, l3, l4, l5, l6, l7, some (vI a), l9, l10, l11, l12, l13], [vI a, v0], S) := rn_step dL_act_629 rfl rfl
set_option maxRecDepth 100000 in
theorem eL_act_631 {a : Int} {l0 l1 l2 l3 l4 l5 l6 l7 l8 l9 l10 l11 l12 l13 : Option VV} {v1 : VV} (h : -2147483648 ≤ a ∧ a ≤ 2147483647) {S : MM} : rn xL_act (631, [l0, l1, l2, l3, l4, l5, l6, l7, l8, l9, l10, l11, l12, l13], [vI a, v1], S) = if a = 0 then rn xL_act (638, [l0, l1, l2, l3, l4, l5, l6, l7, l8, l9, l10, l11, l12, l13], [v1], S) else rn xL_act (634, [l0, l1, l2, l3, l4, l5, l6, l7, l8, l9, l10, l11, l12, l13], [v1], S) := q_if_eq dL_act_631 (by decide) rfl h
set_option maxRecDepth 100000 in
theorem eL_act_634 {l0 l1 l2 l3 l4 l5 l6 l7 l8 l9 l10 l11 l12 l13 : Option VV} {v0 : VV} {S : MM} : rn xL_act (634, [l0, l1, l2, l3, l4, l5, l6, l7, l8, l9, l10, l11, l12, l13], [v0], S) = rn xL_act (635, [l0, l1, l2, l3, l4, l5, l6, l7, l8, l9, l10, l11, l12, l13], [vI 1, v0], S) := rn_step dL_act_634 rfl rfl
set_option maxRecDepth 100000 in
theorem eL_act_635 {l0 l1 l2 l3 l4 l5 l6 l7 l8 l9 l10 l11 l12 l13 : Option VV} {v0 v1 : VV} {S : MM} : rn xL_act (635, [l0, l1, l2, l3, l4, l5, l6, l7, l8, l9, l10, l11, l12, l13], [v0, v1], S) = rn xL_act (639, [l0, l1, l2, l3, l4, l5, l6, l7, l8, l9, l10, l11, l12, l13], [v0, v1], S) := rn_step dL_act_635 rfl rfl
set_option maxRecDepth 100000 in
theorem eL_act_638 {l0 l1 l2 l3 l4 l5 l6 l7 l8 l9 l10 l11 l12 l13 : Option VV} {v0 : VV} {S : MM} : rn xL_act (638, [l0, l1, l2, l3, l4, l5, l6, l7, l8, l9, l10, l11, l12, l13], [v0], S) = rn xL_act (639, [l0, l1, l2, l3, l4, l5, l6, l7, l8, l9, l10, l11, l12, l13], [vI 0, v0], S) := rn_step dL_act_638 rfl rfl
set_option maxRecDepth 100000 in
theorem eL_act_639 {a b : Int} {l0 l1 l2 l3 l4 l5 l6 l7 l8 l9 l10 l11 l12 l13 : Option VV} (h : -2147483648 ≤ a ∧ a ≤ 2147483647) (h1 : -2147483648 ≤ b ∧ b ≤ 2147483647) {S : MM} : rn xL_act (639, [l0, l1, l2, l3, l4, l5, l6, l7, l8, l9, l10, l11, l12, l13], [vI b, vI a], S) = if a = b then rn xL_act (642, [l0, l1, l2, l3, l4, l5, l6, l7, l8, l9, l10, l11, l12, l13], [], S) else rn xL_act (706, [l0, l1, l2, l3, l4, l5, l6, l7, l8, l9, l10, l11, l12, l13], [], S) := q_icmp_ne dL_act_639 (by decide) rfl h h1
set_option maxRecDepth 100000 in
theorem eL_act_642 {a : Option Nat} {l1 l2 l3 l4 l5 l6 l7 l8 l9 l10 l11 l12 l13 : Option VV} {S : MM} : rn xL_act (642, [some (.inr (.inl a)), l1, l2, l3, l4, l5, l6, l7, l8, l9, l10, l11, l12, l13], [], S) = rn xL_act (643, [some (.inr (.inl a)), l1, l2, l3, l4, l5, l6, l7, l8, l9, l10, l11, l12, l13], [.inr (.inl a)], S) := rn_step dL_act_642 rfl rfl
set_option maxRecDepth 100000 in
theorem eL_act_643 {l0 l1 l2 l3 l4 l5 l6 l7 l8 l9 l10 l11 l12 l13 : Option VV} {v0 : VV} {S : MM} : rn xL_act (643, [l0, l1, l2, l3, l4, l5, l6, l7, l8, l9, l10, l11, l12, l13], [v0], S) = rn xL_act (644, [l0, l1, l2, l3, l4, l5, l6, l7, l8, l9, l10, l11, l12, l13], [vI 0, v0], S) := rn_step dL_act_643 rfl rfl
set_option maxRecDepth 100000 in
theorem eL_act_644 {a0 : Int} {l0 l1 l2 l3 l4 l5 l6 l7 l8 l9 l10 l11 l12 l13 : Option VV} {S : MM} : rn xL_act (644, [l0, l1, l2, l3, l4, l5, l6, l7, l8, l9, l10, l11, l12, l13], [vI a0, vR 0], S) = ((kp fX8_ofRun) [vR 0, vI a0] S).bind (fun q => rn xL_act (647, [l0, l1, l2, l3, l4, l5, l6, l7, l8, l9, l10, l11, l12, l13], q.1.toList ++ [], q.2)) := q_callV (n := 1) (as := [vI a0]) (rest := []) dL_act_644 rfl rfl rfl rfl kd0
set_option maxRecDepth 100000 in
theorem eL_act_647 {a : Int} {l0 l1 l2 l3 l4 l5 l6 l8 l9 l10 l11 l12 l13 : Option VV} {v0 : VV} {S : MM} : rn xL_act (647, [l0, l1, l2, l3, l4, l5, l6, some (vI a), l8, l9, l10, l11, l12, l13], [v0], S) = rn xL_act (649, [l0, l1, l2, l3, l4, l5, l6, some (vI a), l8, l9, l10, l11, l12, l13], [vI a, v0], S) := rn_step dL_act_647 rfl rfl
set_option maxRecDepth 100000 in
theorem eL_act_649 {a b : Int} {l0 l1 l2 l3 l4 l5 l6 l7 l8 l9 l10 l11 l12 l13 : Option VV} (h : -2147483648 ≤ a ∧ a ≤ 2147483647) (h1 : -2147483648 ≤ b ∧ b ≤ 2147483647) {S : MM} : rn xL_act (649, [l0, l1, l2, l3, l4, l5, l6, l7, l8, l9, l10, l11, l12, l13], [vI b, vI a], S) = if a = b then rn xL_act (652, [l0, l1, l2, l3, l4, l5, l6, l7, l8, l9, l10, l11, l12, l13], [], S) else rn xL_act (706, [l0, l1, l2, l3, l4, l5, l6, l7, l8, l9, l10, l11, l12, l13], [], S) := q_icmp_ne dL_act_649 (by decide) rfl h h1
set_option maxRecDepth 100000 in
theorem eL_act_652 {a : Option Nat} {l1 l2 l3 l4 l5 l6 l7 l8 l9 l10 l11 l12 l13 : Option VV} {S : MM} : rn xL_act (652, [some (.inr (.inl a)), l1, l2, l3, l4, l5, l6, l7, l8, l9, l10, l11, l12, l13], [], S) = rn xL_act (653, [some (.inr (.inl a)), l1, l2, l3, l4, l5, l6, l7, l8, l9, l10, l11, l12, l13], [.inr (.inl a)], S) := rn_step dL_act_652 rfl rfl
set_option maxRecDepth 100000 in
theorem eL_act_653 {l0 l1 l2 l3 l4 l5 l6 l7 l8 l9 l10 l11 l12 l13 : Option VV} {v0 : VV} {S : MM} : rn xL_act (653, [l0, l1, l2, l3, l4, l5, l6, l7, l8, l9, l10, l11, l12, l13], [v0], S) = rn xL_act (654, [l0, l1, l2, l3, l4, l5, l6, l7, l8, l9, l10, l11, l12, l13], [vI 1, v0], S) := rn_step dL_act_653 rfl rfl
set_option maxRecDepth 100000 in
theorem eL_act_654 {a0 : Int} {l0 l1 l2 l3 l4 l5 l6 l7 l8 l9 l10 l11 l12 l13 : Option VV} {S : MM} : rn xL_act (654, [l0, l1, l2, l3, l4, l5, l6, l7, l8, l9, l10, l11, l12, l13], [vI a0, vR 0], S) = ((kp fX8_ofRun) [vR 0, vI a0] S).bind (fun q => rn xL_act (657, [l0, l1, l2, l3, l4, l5, l6, l7, l8, l9, l10, l11, l12, l13], q.1.toList ++ [], q.2)) := q_callV (n := 1) (as := [vI a0]) (rest := []) dL_act_654 rfl rfl rfl rfl kd0
set_option maxRecDepth 100000 in
theorem eL_act_657 {a : Int} {l0 l1 l2 l3 l4 l5 l6 l7 l8 l10 l11 l12 l13 : Option VV} {v0 : VV} {S : MM} : rn xL_act (657, [l0, l1, l2, l3, l4, l5, l6, l7, l8, some (vI a), l10, l11, l12, l13], [v0], S) = rn xL_act (659, [l0, l1, l2, l3, l4, l5, l6, l7, l8, some (vI a), l10, l11, l12, l13], [vI a, v0], S) := rn_step dL_act_657 rfl rfl
set_option maxRecDepth 100000 in
theorem eL_act_659 {a b : Int} {l0 l1 l2 l3 l4 l5 l6 l7 l8 l9 l10 l11 l12 l13 : Option VV} (h : -2147483648 ≤ a ∧ a ≤ 2147483647) (h1 : -2147483648 ≤ b ∧ b ≤ 2147483647) {S : MM} : rn xL_act (659, [l0, l1, l2, l3, l4, l5, l6, l7, l8, l9, l10, l11, l12, l13], [vI b, vI a], S) = if a = b then rn xL_act (662, [l0, l1, l2, l3, l4, l5, l6, l7, l8, l9, l10, l11, l12, l13], [], S) else rn xL_act (706, [l0, l1, l2, l3, l4, l5, l6, l7, l8, l9, l10, l11, l12, l13], [], S) := q_icmp_ne dL_act_659 (by decide) rfl h h1
set_option maxRecDepth 100000 in
theorem eL_act_662 {a : Option Nat} {l1 l2 l3 l4 l5 l6 l7 l8 l9 l10 l11 l12 l13 : Option VV} {S : MM} : rn xL_act (662, [some (.inr (.inl a)), l1, l2, l3, l4, l5, l6, l7, l8, l9, l10, l11, l12, l13], [], S) = rn xL_act (663, [some (.inr (.inl a)), l1, l2, l3, l4, l5, l6, l7, l8, l9, l10, l11, l12, l13], [.inr (.inl a)], S) := rn_step dL_act_662 rfl rfl
set_option maxRecDepth 100000 in
theorem eL_act_663 {l0 l1 l2 l3 l4 l5 l6 l7 l8 l9 l10 l11 l12 l13 : Option VV} {v0 : VV} {S : MM} : rn xL_act (663, [l0, l1, l2, l3, l4, l5, l6, l7, l8, l9, l10, l11, l12, l13], [v0], S) = rn xL_act (664, [l0, l1, l2, l3, l4, l5, l6, l7, l8, l9, l10, l11, l12, l13], [vI 2, v0], S) := rn_step dL_act_663 rfl rfl
set_option maxRecDepth 100000 in
theorem eL_act_664 {a0 : Int} {l0 l1 l2 l3 l4 l5 l6 l7 l8 l9 l10 l11 l12 l13 : Option VV} {S : MM} : rn xL_act (664, [l0, l1, l2, l3, l4, l5, l6, l7, l8, l9, l10, l11, l12, l13], [vI a0, vR 0], S) = ((kp fX8_ofRun) [vR 0, vI a0] S).bind (fun q => rn xL_act (667, [l0, l1, l2, l3, l4, l5, l6, l7, l8, l9, l10, l11, l12, l13], q.1.toList ++ [], q.2)) := q_callV (n := 1) (as := [vI a0]) (rest := []) dL_act_664 rfl rfl rfl rfl kd0
set_option maxRecDepth 100000 in
theorem eL_act_667 {a : Option Nat} {l1 l2 l3 l4 l5 l6 l7 l8 l9 l10 l11 l12 l13 : Option VV} {v0 : VV} {S : MM} : rn xL_act (667, [some (.inr (.inl a)), l1, l2, l3, l4, l5, l6, l7, l8, l9, l10, l11, l12, l13], [v0], S) = rn xL_act (668, [some (.inr (.inl a)), l1, l2, l3, l4, l5, l6, l7, l8, l9, l10, l11, l12, l13], [.inr (.inl a), v0], S) := rn_step dL_act_667 rfl rfl
set_option maxRecDepth 100000 in
theorem eL_act_668 {l0 l1 l2 l3 l4 l5 l6 l7 l8 l9 l10 l11 l12 l13 : Option VV} {v0 v1 : VV} {S : MM} : rn xL_act (668, [l0, l1, l2, l3, l4, l5, l6, l7, l8, l9, l10, l11, l12, l13], [v0, v1], S) = rn xL_act (669, [l0, l1, l2, l3, l4, l5, l6, l7, l8, l9, l10, l11, l12, l13], [vI 5, v0, v1], S) := rn_step dL_act_668 rfl rfl
set_option maxRecDepth 100000 in
theorem eL_act_669 {a0 : Int} {l0 l1 l2 l3 l4 l5 l6 l7 l8 l9 l10 l11 l12 l13 : Option VV} {v2 : VV} {S : MM} : rn xL_act (669, [l0, l1, l2, l3, l4, l5, l6, l7, l8, l9, l10, l11, l12, l13], [vI a0, vR 0, v2], S) = ((kp fX8_count) [vR 0, vI a0] S).bind (fun q => rn xL_act (672, [l0, l1, l2, l3, l4, l5, l6, l7, l8, l9, l10, l11, l12, l13], q.1.toList ++ [v2], q.2)) := q_callV (n := 1) (as := [vI a0]) (rest := [v2]) dL_act_669 rfl rfl rfl rfl kd0
set_option maxRecDepth 100000 in
theorem eL_act_672 {l0 l1 l2 l3 l4 l5 l6 l7 l8 l9 l10 l11 l12 l13 : Option VV} {v0 v1 : VV} {S : MM} : rn xL_act (672, [l0, l1, l2, l3, l4, l5, l6, l7, l8, l9, l10, l11, l12, l13], [v0, v1], S) = rn xL_act (673, [l0, l1, l2, l3, l4, l5, l6, l7, l8, l9, l10, l11, l12, l13], [vI 0, v0, v1], S) := rn_step dL_act_672 rfl rfl
set_option maxRecDepth 100000 in
theorem eL_act_673 {a0 : Int} {a1 : Int} {l0 l1 l2 l3 l4 l5 l6 l7 l8 l9 l10 l11 l12 l13 : Option VV} {v2 : VV} {S : MM} : rn xL_act (673, [l0, l1, l2, l3, l4, l5, l6, l7, l8, l9, l10, l11, l12, l13], [vI a1, vI a0, v2], S) = ((kp fL_inTurn) [vI a0, vI a1] S).bind (fun q => rn xL_act (676, [l0, l1, l2, l3, l4, l5, l6, l7, l8, l9, l10, l11, l12, l13], q.1.toList ++ [v2], q.2)) := q_callS (n := 2) (as := [vI a0, vI a1]) (rest := [v2]) dL_act_673 rfl rfl rfl rfl
set_option maxRecDepth 100000 in
theorem eL_act_676 {a b : Int} {l0 l1 l2 l3 l4 l5 l6 l7 l8 l9 l10 l11 l12 l13 : Option VV} (h : -2147483648 ≤ a ∧ a ≤ 2147483647) (h1 : -2147483648 ≤ b ∧ b ≤ 2147483647) {S : MM} : rn xL_act (676, [l0, l1, l2, l3, l4, l5, l6, l7, l8, l9, l10, l11, l12, l13], [vI b, vI a], S) = if a = b then rn xL_act (679, [l0, l1, l2, l3, l4, l5, l6, l7, l8, l9, l10, l11, l12, l13], [], S) else rn xL_act (706, [l0, l1, l2, l3, l4, l5, l6, l7, l8, l9, l10, l11, l12, l13], [], S) := q_icmp_ne dL_act_676 (by decide) rfl h h1
set_option maxRecDepth 100000 in
theorem eL_act_679 {a : Option Nat} {l1 l2 l3 l4 l5 l6 l7 l8 l9 l10 l11 l12 l13 : Option VV} {S : MM} : rn xL_act (679, [some (.inr (.inl a)), l1, l2, l3, l4, l5, l6, l7, l8, l9, l10, l11, l12, l13], [], S) = rn xL_act (680, [some (.inr (.inl a)), l1, l2, l3, l4, l5, l6, l7, l8, l9, l10, l11, l12, l13], [.inr (.inl a)], S) := rn_step dL_act_679 rfl rfl
set_option maxRecDepth 100000 in
theorem eL_act_680 {l0 l1 l2 l3 l4 l5 l6 l7 l8 l9 l10 l11 l12 l13 : Option VV} {v0 : VV} {S : MM} : rn xL_act (680, [l0, l1, l2, l3, l4, l5, l6, l7, l8, l9, l10, l11, l12, l13], [v0], S) = rn xL_act (681, [l0, l1, l2, l3, l4, l5, l6, l7, l8, l9, l10, l11, l12, l13], [vI 3, v0], S) := rn_step dL_act_680 rfl rfl
set_option maxRecDepth 100000 in
theorem eL_act_681 {a0 : Int} {l0 l1 l2 l3 l4 l5 l6 l7 l8 l9 l10 l11 l12 l13 : Option VV} {S : MM} : rn xL_act (681, [l0, l1, l2, l3, l4, l5, l6, l7, l8, l9, l10, l11, l12, l13], [vI a0, vR 0], S) = ((kp fX8_ofRun) [vR 0, vI a0] S).bind (fun q => rn xL_act (684, [l0, l1, l2, l3, l4, l5, l6, l7, l8, l9, l10, l11, l12, l13], q.1.toList ++ [], q.2)) := q_callV (n := 1) (as := [vI a0]) (rest := []) dL_act_681 rfl rfl rfl rfl kd0
set_option maxRecDepth 100000 in
theorem eL_act_684 {a : Int} {l0 l1 l2 l3 l4 l5 l6 l7 l8 l9 l10 l12 l13 : Option VV} {v0 : VV} {S : MM} : rn xL_act (684, [l0, l1, l2, l3, l4, l5, l6, l7, l8, l9, l10, some (vI a), l12, l13], [v0], S) = rn xL_act (686, [l0, l1, l2, l3, l4, l5, l6, l7, l8, l9, l10, some (vI a), l12, l13], [vI a, v0], S) := rn_step dL_act_684 rfl rfl
set_option maxRecDepth 100000 in
theorem eL_act_686 {a : Int} {l0 l1 l2 l3 l4 l5 l6 l7 l8 l9 l10 l11 l12 l13 : Option VV} {v1 : VV} (h : -2147483648 ≤ a ∧ a ≤ 2147483647) {S : MM} : rn xL_act (686, [l0, l1, l2, l3, l4, l5, l6, l7, l8, l9, l10, l11, l12, l13], [vI a, v1], S) = if a = 0 then rn xL_act (698, [l0, l1, l2, l3, l4, l5, l6, l7, l8, l9, l10, l11, l12, l13], [v1], S) else rn xL_act (689, [l0, l1, l2, l3, l4, l5, l6, l7, l8, l9, l10, l11, l12, l13], [v1], S) := q_if_eq dL_act_686 (by decide) rfl h
set_option maxRecDepth 100000 in
theorem eL_act_689 {a : Int} {l0 l1 l2 l3 l4 l5 l6 l7 l9 l10 l11 l12 l13 : Option VV} {v0 : VV} {S : MM} : rn xL_act (689, [l0, l1, l2, l3, l4, l5, l6, l7, some (vI a), l9, l10, l11, l12, l13], [v0], S) = rn xL_act (691, [l0, l1, l2, l3, l4, l5, l6, l7, some (vI a), l9, l10, l11, l12, l13], [vI a, v0], S) := rn_step dL_act_689 rfl rfl
set_option maxRecDepth 100000 in
theorem eL_act_691 {a : Int} {l0 l1 l2 l3 l4 l5 l6 l7 l8 l9 l10 l11 l12 l13 : Option VV} {v1 : VV} (h : -2147483648 ≤ a ∧ a ≤ 2147483647) {S : MM} : rn xL_act (691, [l0, l1, l2, l3, l4, l5, l6, l7, l8, l9, l10, l11, l12, l13], [vI a, v1], S) = if a = 0 then rn xL_act (694, [l0, l1, l2, l3, l4, l5, l6, l7, l8, l9, l10, l11, l12, l13], [v1], S) else rn xL_act (698, [l0, l1, l2, l3, l4, l5, l6, l7, l8, l9, l10, l11, l12, l13], [v1], S) := q_if_ne dL_act_691 (by decide) rfl h
set_option maxRecDepth 100000 in
theorem eL_act_694 {l0 l1 l2 l3 l4 l5 l6 l7 l8 l9 l10 l11 l12 l13 : Option VV} {v0 : VV} {S : MM} : rn xL_act (694, [l0, l1, l2, l3, l4, l5, l6, l7, l8, l9, l10, l11, l12, l13], [v0], S) = rn xL_act (695, [l0, l1, l2, l3, l4, l5, l6, l7, l8, l9, l10, l11, l12, l13], [vI 1, v0], S) := rn_step dL_act_694 rfl rfl
set_option maxRecDepth 100000 in
theorem eL_act_695 {l0 l1 l2 l3 l4 l5 l6 l7 l8 l9 l10 l11 l12 l13 : Option VV} {v0 v1 : VV} {S : MM} : rn xL_act (695, [l0, l1, l2, l3, l4, l5, l6, l7, l8, l9, l10, l11, l12, l13], [v0, v1], S) = rn xL_act (699, [l0, l1, l2, l3, l4, l5, l6, l7, l8, l9, l10, l11, l12, l13], [v0, v1], S) := rn_step dL_act_695 rfl rfl
set_option maxRecDepth 100000 in
theorem eL_act_698 {l0 l1 l2 l3 l4 l5 l6 l7 l8 l9 l10 l11 l12 l13 : Option VV} {v0 : VV} {S : MM} : rn xL_act (698, [l0, l1, l2, l3, l4, l5, l6, l7, l8, l9, l10, l11, l12, l13], [v0], S) = rn xL_act (699, [l0, l1, l2, l3, l4, l5, l6, l7, l8, l9, l10, l11, l12, l13], [vI 0, v0], S) := rn_step dL_act_698 rfl rfl
set_option maxRecDepth 100000 in
theorem eL_act_699 {a b : Int} {l0 l1 l2 l3 l4 l5 l6 l7 l8 l9 l10 l11 l12 l13 : Option VV} (h : -2147483648 ≤ a ∧ a ≤ 2147483647) (h1 : -2147483648 ≤ b ∧ b ≤ 2147483647) {S : MM} : rn xL_act (699, [l0, l1, l2, l3, l4, l5, l6, l7, l8, l9, l10, l11, l12, l13], [vI b, vI a], S) = if a = b then rn xL_act (702, [l0, l1, l2, l3, l4, l5, l6, l7, l8, l9, l10, l11, l12, l13], [], S) else rn xL_act (706, [l0, l1, l2, l3, l4, l5, l6, l7, l8, l9, l10, l11, l12, l13], [], S) := q_icmp_ne dL_act_699 (by decide) rfl h h1
set_option maxRecDepth 100000 in
theorem eL_act_702 {l0 l1 l2 l3 l4 l5 l6 l7 l8 l9 l10 l11 l12 l13 : Option VV} {S : MM} : rn xL_act (702, [l0, l1, l2, l3, l4, l5, l6, l7, l8, l9, l10, l11, l12, l13], [], S) = rn xL_act (703, [l0, l1, l2, l3, l4, l5, l6, l7, l8, l9, l10, l11, l12, l13], [vI 1], S) := rn_step dL_act_702 rfl rfl
set_option maxRecDepth 100000 in
theorem eL_act_703 {l0 l1 l2 l3 l4 l5 l6 l7 l8 l9 l10 l11 l12 l13 : Option VV} {v0 : VV} {S : MM} : rn xL_act (703, [l0, l1, l2, l3, l4, l5, l6, l7, l8, l9, l10, l11, l12, l13], [v0], S) = rn xL_act (707, [l0, l1, l2, l3, l4, l5, l6, l7, l8, l9, l10, l11, l12, l13], [v0], S) := rn_step dL_act_703 rfl rfl
set_option maxRecDepth 100000 in
theorem eL_act_706 {l0 l1 l2 l3 l4 l5 l6 l7 l8 l9 l10 l11 l12 l13 : Option VV} {S : MM} : rn xL_act (706, [l0, l1, l2, l3, l4, l5, l6, l7, l8, l9, l10, l11, l12, l13], [], S) = rn xL_act (707, [l0, l1, l2, l3, l4, l5, l6, l7, l8, l9, l10, l11, l12, l13], [vI 0], S) := rn_step dL_act_706 rfl rfl
set_option maxRecDepth 100000 in
theorem eL_act_707 {z : Int} {l0 l1 l2 l3 l4 l5 l6 l7 l8 l9 l10 l11 l12 l13 : Option VV} (hz : z = 0 ∨ z = 1) {S : MM} : rn xL_act (707, [l0, l1, l2, l3, l4, l5, l6, l7, l8, l9, l10, l11, l12, l13], [vI z], S) = some (some (vI z), S) := q_retZ dL_act_707 rfl hz
set_option maxRecDepth 100000 in
theorem eL_act_708 {a : Option Nat} {l1 l2 l3 l4 l5 l6 l7 l8 l9 l10 l11 l12 l13 : Option VV} {S : MM} : rn xL_act (708, [some (.inr (.inl a)), l1, l2, l3, l4, l5, l6, l7, l8, l9, l10, l11, l12, l13], [], S) = rn xL_act (709, [some (.inr (.inl a)), l1, l2, l3, l4, l5, l6, l7, l8, l9, l10, l11, l12, l13], [.inr (.inl a)], S) := rn_step dL_act_708 rfl rfl
set_option maxRecDepth 100000 in
theorem eL_act_709 {l0 l1 l2 l3 l4 l5 l6 l7 l8 l9 l10 l11 l12 l13 : Option VV} {v0 : VV} {S : MM} : rn xL_act (709, [l0, l1, l2, l3, l4, l5, l6, l7, l8, l9, l10, l11, l12, l13], [v0], S) = rn xL_act (710, [l0, l1, l2, l3, l4, l5, l6, l7, l8, l9, l10, l11, l12, l13], [vI 0, v0], S) := rn_step dL_act_709 rfl rfl
set_option maxRecDepth 100000 in
theorem eL_act_710 {a0 : Int} {l0 l1 l2 l3 l4 l5 l6 l7 l8 l9 l10 l11 l12 l13 : Option VV} {S : MM} : rn xL_act (710, [l0, l1, l2, l3, l4, l5, l6, l7, l8, l9, l10, l11, l12, l13], [vI a0, vR 0], S) = ((kp fX8_ofRun) [vR 0, vI a0] S).bind (fun q => rn xL_act (713, [l0, l1, l2, l3, l4, l5, l6, l7, l8, l9, l10, l11, l12, l13], q.1.toList ++ [], q.2)) := q_callV (n := 1) (as := [vI a0]) (rest := []) dL_act_710 rfl rfl rfl rfl kd0
set_option maxRecDepth 100000 in
theorem eL_act_713 {a : Int} {l0 l1 l2 l3 l4 l5 l6 l7 l8 l9 l10 l11 l12 l13 : Option VV} (h : -2147483648 ≤ a ∧ a ≤ 2147483647) {S : MM} : rn xL_act (713, [l0, l1, l2, l3, l4, l5, l6, l7, l8, l9, l10, l11, l12, l13], [vI a], S) = if a = 0 then rn xL_act (740, [l0, l1, l2, l3, l4, l5, l6, l7, l8, l9, l10, l11, l12, l13], [], S) else rn xL_act (716, [l0, l1, l2, l3, l4, l5, l6, l7, l8, l9, l10, l11, l12, l13], [], S) := q_if_eq dL_act_713 (by decide) rfl h
set_option maxRecDepth 100000 in
theorem eL_act_716 {a : Option Nat} {l1 l2 l3 l4 l5 l6 l7 l8 l9 l10 l11 l12 l13 : Option VV} {S : MM} : rn xL_act (716, [some (.inr (.inl a)), l1, l2, l3, l4, l5, l6, l7, l8, l9, l10, l11, l12, l13], [], S) = rn xL_act (717, [some (.inr (.inl a)), l1, l2, l3, l4, l5, l6, l7, l8, l9, l10, l11, l12, l13], [.inr (.inl a)], S) := rn_step dL_act_716 rfl rfl
set_option maxRecDepth 100000 in
theorem eL_act_717 {l0 l1 l2 l3 l4 l5 l6 l7 l8 l9 l10 l11 l12 l13 : Option VV} {S : MM} : rn xL_act (717, [l0, l1, l2, l3, l4, l5, l6, l7, l8, l9, l10, l11, l12, l13], [vR 0], S) = ((kp fX8_leap) [vR 0] S).bind (fun q => rn xL_act (720, [l0, l1, l2, l3, l4, l5, l6, l7, l8, l9, l10, l11, l12, l13], q.1.toList ++ [], q.2)) := q_callV (n := 0) (as := []) (rest := []) dL_act_717 rfl rfl rfl rfl kd0
set_option maxRecDepth 100000 in
theorem eL_act_720 {l0 l1 l2 l3 l4 l5 l6 l7 l8 l9 l10 l11 l12 l13 : Option VV} {v0 : VV} {S : MM} : rn xL_act (720, [l0, l1, l2, l3, l4, l5, l6, l7, l8, l9, l10, l11, l12, l13], [v0], S) = rn xL_act (722, [l0, l1, l2, l3, l4, l5, l6, l7, l8, l9, l10, l11, l12, l13], [vI (-5), v0], S) := rn_step dL_act_720 rfl rfl
set_option maxRecDepth 100000 in
theorem eL_act_722 {a b : Int} {l0 l1 l2 l3 l4 l5 l6 l7 l8 l9 l10 l11 l12 l13 : Option VV} (h : -2147483648 ≤ a ∧ a ≤ 2147483647) (h1 : -2147483648 ≤ b ∧ b ≤ 2147483647) {S : MM} : rn xL_act (722, [l0, l1, l2, l3, l4, l5, l6, l7, l8, l9, l10, l11, l12, l13], [vI b, vI a], S) = if a = b then rn xL_act (725, [l0, l1, l2, l3, l4, l5, l6, l7, l8, l9, l10, l11, l12, l13], [], S) else rn xL_act (738, [l0, l1, l2, l3, l4, l5, l6, l7, l8, l9, l10, l11, l12, l13], [], S) := q_icmp_ne dL_act_722 (by decide) rfl h h1
set_option maxRecDepth 100000 in
theorem eL_act_725 {a : Option Nat} {l1 l2 l3 l4 l5 l6 l7 l8 l9 l10 l11 l12 l13 : Option VV} {S : MM} : rn xL_act (725, [some (.inr (.inl a)), l1, l2, l3, l4, l5, l6, l7, l8, l9, l10, l11, l12, l13], [], S) = rn xL_act (726, [some (.inr (.inl a)), l1, l2, l3, l4, l5, l6, l7, l8, l9, l10, l11, l12, l13], [.inr (.inl a)], S) := rn_step dL_act_725 rfl rfl
set_option maxRecDepth 100000 in
theorem eL_act_726 {l0 l1 l2 l3 l4 l5 l6 l7 l8 l9 l10 l11 l12 l13 : Option VV} {S : MM} : rn xL_act (726, [l0, l1, l2, l3, l4, l5, l6, l7, l8, l9, l10, l11, l12, l13], [vR 0], S) = ((kp fX8_run) [vR 0] S).bind (fun q => rn xL_act (729, [l0, l1, l2, l3, l4, l5, l6, l7, l8, l9, l10, l11, l12, l13], q.1.toList ++ [], q.2)) := q_callV (n := 0) (as := []) (rest := []) dL_act_726 rfl rfl rfl rfl kd0
set_option maxRecDepth 100000 in
theorem eL_act_729 {l0 l1 l2 l3 l4 l5 l6 l7 l8 l9 l10 l11 l12 l13 : Option VV} {v0 : VV} {S : MM} : rn xL_act (729, [l0, l1, l2, l3, l4, l5, l6, l7, l8, l9, l10, l11, l12, l13], [v0], S) = rn xL_act (731, [l0, l1, l2, l3, l4, l5, l6, l7, l8, l9, l10, l11, l12, l13], [vI (-5), v0], S) := rn_step dL_act_729 rfl rfl
set_option maxRecDepth 100000 in
theorem eL_act_731 {a b : Int} {l0 l1 l2 l3 l4 l5 l6 l7 l8 l9 l10 l11 l12 l13 : Option VV} (h : -2147483648 ≤ a ∧ a ≤ 2147483647) (h1 : -2147483648 ≤ b ∧ b ≤ 2147483647) {S : MM} : rn xL_act (731, [l0, l1, l2, l3, l4, l5, l6, l7, l8, l9, l10, l11, l12, l13], [vI b, vI a], S) = if a = b then rn xL_act (734, [l0, l1, l2, l3, l4, l5, l6, l7, l8, l9, l10, l11, l12, l13], [], S) else rn xL_act (738, [l0, l1, l2, l3, l4, l5, l6, l7, l8, l9, l10, l11, l12, l13], [], S) := q_icmp_ne dL_act_731 (by decide) rfl h h1
set_option maxRecDepth 100000 in
theorem eL_act_734 {l0 l1 l2 l3 l4 l5 l6 l7 l8 l9 l10 l11 l12 l13 : Option VV} {S : MM} : rn xL_act (734, [l0, l1, l2, l3, l4, l5, l6, l7, l8, l9, l10, l11, l12, l13], [], S) = rn xL_act (735, [l0, l1, l2, l3, l4, l5, l6, l7, l8, l9, l10, l11, l12, l13], [vI 1], S) := rn_step dL_act_734 rfl rfl
set_option maxRecDepth 100000 in
theorem eL_act_735 {l0 l1 l2 l3 l4 l5 l6 l7 l8 l9 l10 l11 l12 l13 : Option VV} {v0 : VV} {S : MM} : rn xL_act (735, [l0, l1, l2, l3, l4, l5, l6, l7, l8, l9, l10, l11, l12, l13], [v0], S) = rn xL_act (739, [l0, l1, l2, l3, l4, l5, l6, l7, l8, l9, l10, l11, l12, l13], [v0], S) := rn_step dL_act_735 rfl rfl
set_option maxRecDepth 100000 in
theorem eL_act_738 {l0 l1 l2 l3 l4 l5 l6 l7 l8 l9 l10 l11 l12 l13 : Option VV} {S : MM} : rn xL_act (738, [l0, l1, l2, l3, l4, l5, l6, l7, l8, l9, l10, l11, l12, l13], [], S) = rn xL_act (739, [l0, l1, l2, l3, l4, l5, l6, l7, l8, l9, l10, l11, l12, l13], [vI 0], S) := rn_step dL_act_738 rfl rfl
set_option maxRecDepth 100000 in
theorem eL_act_739 {z : Int} {l0 l1 l2 l3 l4 l5 l6 l7 l8 l9 l10 l11 l12 l13 : Option VV} (hz : z = 0 ∨ z = 1) {S : MM} : rn xL_act (739, [l0, l1, l2, l3, l4, l5, l6, l7, l8, l9, l10, l11, l12, l13], [vI z], S) = some (some (vI z), S) := q_retZ dL_act_739 rfl hz
set_option maxRecDepth 100000 in
theorem eL_act_740 {a : Option Nat} {l1 l2 l3 l4 l5 l6 l7 l8 l9 l10 l11 l12 l13 : Option VV} {S : MM} : rn xL_act (740, [some (.inr (.inl a)), l1, l2, l3, l4, l5, l6, l7, l8, l9, l10, l11, l12, l13], [], S) = rn xL_act (741, [some (.inr (.inl a)), l1, l2, l3, l4, l5, l6, l7, l8, l9, l10, l11, l12, l13], [.inr (.inl a)], S) := rn_step dL_act_740 rfl rfl
set_option maxRecDepth 100000 in
theorem eL_act_741 {a0 : Option Nat} {l0 l1 l2 l3 l4 l5 l6 l7 l8 l9 l10 l11 l12 l13 : Option VV} {S : MM} : rn xL_act (741, [l0, l1, l2, l3, l4, l5, l6, l7, l8, l9, l10, l11, l12, l13], [.inr (.inl a0)], S) = ((kp fL_leap) [.inr (.inl a0)] S).bind (fun q => rn xL_act (744, [l0, l1, l2, l3, l4, l5, l6, l7, l8, l9, l10, l11, l12, l13], q.1.toList ++ [], q.2)) := q_callS (n := 1) (as := [.inr (.inl a0)]) (rest := []) dL_act_741 rfl rfl rfl rfl
set_option maxRecDepth 100000 in
theorem eL_act_744 {z : Int} {l0 l1 l2 l3 l4 l5 l6 l7 l8 l9 l10 l11 l12 l13 : Option VV} (hz : z = 0 ∨ z = 1) {S : MM} : rn xL_act (744, [l0, l1, l2, l3, l4, l5, l6, l7, l8, l9, l10, l11, l12, l13], [vI z], S) = some (some (vI z), S) := q_retZ dL_act_744 rfl hz
set_option maxRecDepth 100000 in
theorem eL_act_745 {a : Option Nat} {l1 l2 l3 l4 l5 l6 l7 l8 l9 l10 l11 l12 l13 : Option VV} {S : MM} : rn xL_act (745, [some (.inr (.inl a)), l1, l2, l3, l4, l5, l6, l7, l8, l9, l10, l11, l12, l13], [], S) = rn xL_act (746, [some (.inr (.inl a)), l1, l2, l3, l4, l5, l6, l7, l8, l9, l10, l11, l12, l13], [.inr (.inl a)], S) := rn_step dL_act_745 rfl rfl
set_option maxRecDepth 100000 in
theorem eL_act_746 {l0 l1 l2 l3 l4 l5 l6 l7 l8 l9 l10 l11 l12 l13 : Option VV} {v0 : VV} {S : MM} : rn xL_act (746, [l0, l1, l2, l3, l4, l5, l6, l7, l8, l9, l10, l11, l12, l13], [v0], S) = rn xL_act (747, [l0, l1, l2, l3, l4, l5, l6, l7, l8, l9, l10, l11, l12, l13], [vI 0, v0], S) := rn_step dL_act_746 rfl rfl
set_option maxRecDepth 100000 in
theorem eL_act_747 {a0 : Int} {l0 l1 l2 l3 l4 l5 l6 l7 l8 l9 l10 l11 l12 l13 : Option VV} {S : MM} : rn xL_act (747, [l0, l1, l2, l3, l4, l5, l6, l7, l8, l9, l10, l11, l12, l13], [vI a0, vR 0], S) = ((kp fX8_ofRun) [vR 0, vI a0] S).bind (fun q => rn xL_act (750, [l0, l1, l2, l3, l4, l5, l6, l7, l8, l9, l10, l11, l12, l13], q.1.toList ++ [], q.2)) := q_callV (n := 1) (as := [vI a0]) (rest := []) dL_act_747 rfl rfl rfl rfl kd0
set_option maxRecDepth 100000 in
theorem eL_act_750 {a : Int} {l0 l1 l2 l3 l4 l5 l6 l7 l8 l9 l10 l11 l12 l13 : Option VV} (h : -2147483648 ≤ a ∧ a ≤ 2147483647) {S : MM} : rn xL_act (750, [l0, l1, l2, l3, l4, l5, l6, l7, l8, l9, l10, l11, l12, l13], [vI a], S) = if a = 0 then rn xL_act (768, [l0, l1, l2, l3, l4, l5, l6, l7, l8, l9, l10, l11, l12, l13], [], S) else rn xL_act (753, [l0, l1, l2, l3, l4, l5, l6, l7, l8, l9, l10, l11, l12, l13], [], S) := q_if_eq dL_act_750 (by decide) rfl h
set_option maxRecDepth 100000 in
theorem eL_act_753 {a : Option Nat} {l1 l2 l3 l4 l5 l6 l7 l8 l9 l10 l11 l12 l13 : Option VV} {S : MM} : rn xL_act (753, [some (.inr (.inl a)), l1, l2, l3, l4, l5, l6, l7, l8, l9, l10, l11, l12, l13], [], S) = rn xL_act (754, [some (.inr (.inl a)), l1, l2, l3, l4, l5, l6, l7, l8, l9, l10, l11, l12, l13], [.inr (.inl a)], S) := rn_step dL_act_753 rfl rfl
set_option maxRecDepth 100000 in
theorem eL_act_754 {l0 l1 l2 l3 l4 l5 l6 l7 l8 l9 l10 l11 l12 l13 : Option VV} {S : MM} : rn xL_act (754, [l0, l1, l2, l3, l4, l5, l6, l7, l8, l9, l10, l11, l12, l13], [vR 0], S) = ((kp fX8_run) [vR 0] S).bind (fun q => rn xL_act (757, [l0, l1, l2, l3, l4, l5, l6, l7, l8, l9, l10, l11, l12, l13], q.1.toList ++ [], q.2)) := q_callV (n := 0) (as := []) (rest := []) dL_act_754 rfl rfl rfl rfl kd0
set_option maxRecDepth 100000 in
theorem eL_act_757 {l0 l1 l2 l3 l4 l5 l6 l7 l8 l9 l10 l11 l12 l13 : Option VV} {v0 : VV} {S : MM} : rn xL_act (757, [l0, l1, l2, l3, l4, l5, l6, l7, l8, l9, l10, l11, l12, l13], [v0], S) = rn xL_act (759, [l0, l1, l2, l3, l4, l5, l6, l7, l8, l9, l10, l11, l12, l13], [vI (-5), v0], S) := rn_step dL_act_757 rfl rfl
set_option maxRecDepth 100000 in
theorem eL_act_759 {a b : Int} {l0 l1 l2 l3 l4 l5 l6 l7 l8 l9 l10 l11 l12 l13 : Option VV} (h : -2147483648 ≤ a ∧ a ≤ 2147483647) (h1 : -2147483648 ≤ b ∧ b ≤ 2147483647) {S : MM} : rn xL_act (759, [l0, l1, l2, l3, l4, l5, l6, l7, l8, l9, l10, l11, l12, l13], [vI b, vI a], S) = if a = b then rn xL_act (762, [l0, l1, l2, l3, l4, l5, l6, l7, l8, l9, l10, l11, l12, l13], [], S) else rn xL_act (766, [l0, l1, l2, l3, l4, l5, l6, l7, l8, l9, l10, l11, l12, l13], [], S) := q_icmp_ne dL_act_759 (by decide) rfl h h1
set_option maxRecDepth 100000 in
theorem eL_act_762 {l0 l1 l2 l3 l4 l5 l6 l7 l8 l9 l10 l11 l12 l13 : Option VV} {S : MM} : rn xL_act (762, [l0, l1, l2, l3, l4, l5, l6, l7, l8, l9, l10, l11, l12, l13], [], S) = rn xL_act (763, [l0, l1, l2, l3, l4, l5, l6, l7, l8, l9, l10, l11, l12, l13], [vI 1], S) := rn_step dL_act_762 rfl rfl
set_option maxRecDepth 100000 in
theorem eL_act_763 {l0 l1 l2 l3 l4 l5 l6 l7 l8 l9 l10 l11 l12 l13 : Option VV} {v0 : VV} {S : MM} : rn xL_act (763, [l0, l1, l2, l3, l4, l5, l6, l7, l8, l9, l10, l11, l12, l13], [v0], S) = rn xL_act (767, [l0, l1, l2, l3, l4, l5, l6, l7, l8, l9, l10, l11, l12, l13], [v0], S) := rn_step dL_act_763 rfl rfl
set_option maxRecDepth 100000 in
theorem eL_act_766 {l0 l1 l2 l3 l4 l5 l6 l7 l8 l9 l10 l11 l12 l13 : Option VV} {S : MM} : rn xL_act (766, [l0, l1, l2, l3, l4, l5, l6, l7, l8, l9, l10, l11, l12, l13], [], S) = rn xL_act (767, [l0, l1, l2, l3, l4, l5, l6, l7, l8, l9, l10, l11, l12, l13], [vI 0], S) := rn_step dL_act_766 rfl rfl
set_option maxRecDepth 100000 in
theorem eL_act_767 {z : Int} {l0 l1 l2 l3 l4 l5 l6 l7 l8 l9 l10 l11 l12 l13 : Option VV} (hz : z = 0 ∨ z = 1) {S : MM} : rn xL_act (767, [l0, l1, l2, l3, l4, l5, l6, l7, l8, l9, l10, l11, l12, l13], [vI z], S) = some (some (vI z), S) := q_retZ dL_act_767 rfl hz
set_option maxRecDepth 100000 in
theorem eL_act_768 {a : Option Nat} {l1 l2 l3 l4 l5 l6 l7 l8 l9 l10 l11 l12 l13 : Option VV} {S : MM} : rn xL_act (768, [some (.inr (.inl a)), l1, l2, l3, l4, l5, l6, l7, l8, l9, l10, l11, l12, l13], [], S) = rn xL_act (769, [some (.inr (.inl a)), l1, l2, l3, l4, l5, l6, l7, l8, l9, l10, l11, l12, l13], [.inr (.inl a)], S) := rn_step dL_act_768 rfl rfl
set_option maxRecDepth 100000 in
theorem eL_act_769 {l0 l1 l2 l3 l4 l5 l6 l7 l8 l9 l10 l11 l12 l13 : Option VV} {v0 : VV} {S : MM} : rn xL_act (769, [l0, l1, l2, l3, l4, l5, l6, l7, l8, l9, l10, l11, l12, l13], [v0], S) = rn xL_act (770, [l0, l1, l2, l3, l4, l5, l6, l7, l8, l9, l10, l11, l12, l13], [vI 5, v0], S) := rn_step dL_act_769 rfl rfl
set_option maxRecDepth 100000 in
theorem eL_act_770 {a0 : Int} {l0 l1 l2 l3 l4 l5 l6 l7 l8 l9 l10 l11 l12 l13 : Option VV} {S : MM} : rn xL_act (770, [l0, l1, l2, l3, l4, l5, l6, l7, l8, l9, l10, l11, l12, l13], [vI a0, vR 0], S) = ((kp fX8_ofRun) [vR 0, vI a0] S).bind (fun q => rn xL_act (773, [l0, l1, l2, l3, l4, l5, l6, l7, l8, l9, l10, l11, l12, l13], q.1.toList ++ [], q.2)) := q_callV (n := 1) (as := [vI a0]) (rest := []) dL_act_770 rfl rfl rfl rfl kd0
set_option maxRecDepth 100000 in
theorem eL_act_773 {a : Int} {w : Int} {l0 l1 l2 l3 l4 l5 l7 l8 l9 l10 l11 l12 l13 : Option VV} {S : MM} : rn xL_act (773, [l0, l1, l2, l3, l4, l5, some (vI w), l7, l8, l9, l10, l11, l12, l13], [vI a], S) = rn xL_act (775, [l0, l1, l2, l3, l4, l5, some (vI w), some (vI a), l8, l9, l10, l11, l12, l13], [], S) := rn_step dL_act_773 rfl rfl
set_option maxRecDepth 100000 in
theorem eL_act_775 {a : Option Nat} {l1 l2 l3 l4 l5 l6 l7 l8 l9 l10 l11 l12 l13 : Option VV} {S : MM} : rn xL_act (775, [some (.inr (.inl a)), l1, l2, l3, l4, l5, l6, l7, l8, l9, l10, l11, l12, l13], [], S) = rn xL_act (776, [some (.inr (.inl a)), l1, l2, l3, l4, l5, l6, l7, l8, l9, l10, l11, l12, l13], [.inr (.inl a)], S) := rn_step dL_act_775 rfl rfl
set_option maxRecDepth 100000 in
theorem eL_act_776 {l0 l1 l2 l3 l4 l5 l6 l7 l8 l9 l10 l11 l12 l13 : Option VV} {S : MM} : rn xL_act (776, [l0, l1, l2, l3, l4, l5, l6, l7, l8, l9, l10, l11, l12, l13], [vR 0], S) = ((kp fX8_run) [vR 0] S).bind (fun q => rn xL_act (779, [l0, l1, l2, l3, l4, l5, l6, l7, l8, l9, l10, l11, l12, l13], q.1.toList ++ [], q.2)) := q_callV (n := 0) (as := []) (rest := []) dL_act_776 rfl rfl rfl rfl kd0
set_option maxRecDepth 100000 in
theorem eL_act_779 {a : Int} {w : Int} {l0 l1 l2 l3 l4 l5 l6 l8 l9 l10 l11 l12 l13 : Option VV} {S : MM} : rn xL_act (779, [l0, l1, l2, l3, l4, l5, l6, some (vI w), l8, l9, l10, l11, l12, l13], [vI a], S) = rn xL_act (781, [l0, l1, l2, l3, l4, l5, l6, some (vI w), some (vI a), l9, l10, l11, l12, l13], [], S) := rn_step dL_act_779 rfl rfl
set_option maxRecDepth 100000 in
theorem eL_act_781 {a : Int} {l0 l1 l2 l3 l4 l5 l6 l7 l9 l10 l11 l12 l13 : Option VV} {S : MM} : rn xL_act (781, [l0, l1, l2, l3, l4, l5, l6, l7, some (vI a), l9, l10, l11, l12, l13], [], S) = rn xL_act (783, [l0, l1, l2, l3, l4, l5, l6, l7, some (vI a), l9, l10, l11, l12, l13], [vI a], S) := rn_step dL_act_781 rfl rfl
set_option maxRecDepth 100000 in
theorem eL_act_783 {a : Int} {l0 l1 l2 l3 l4 l5 l6 l7 l8 l9 l10 l11 l12 l13 : Option VV} (h : -2147483648 ≤ a ∧ a ≤ 2147483647) {S : MM} : rn xL_act (783, [l0, l1, l2, l3, l4, l5, l6, l7, l8, l9, l10, l11, l12, l13], [vI a], S) = if 0 < a then rn xL_act (786, [l0, l1, l2, l3, l4, l5, l6, l7, l8, l9, l10, l11, l12, l13], [], S) else rn xL_act (812, [l0, l1, l2, l3, l4, l5, l6, l7, l8, l9, l10, l11, l12, l13], [], S) := q_if_le dL_act_783 (by decide) rfl h
set_option maxRecDepth 100000 in
theorem eL_act_786 {a : Option Nat} {l1 l2 l3 l4 l5 l6 l7 l8 l9 l10 l11 l12 l13 : Option VV} {S : MM} : rn xL_act (786, [some (.inr (.inl a)), l1, l2, l3, l4, l5, l6, l7, l8, l9, l10, l11, l12, l13], [], S) = rn xL_act (787, [some (.inr (.inl a)), l1, l2, l3, l4, l5, l6, l7, l8, l9, l10, l11, l12, l13], [.inr (.inl a)], S) := rn_step dL_act_786 rfl rfl
set_option maxRecDepth 100000 in
theorem eL_act_787 {l0 l1 l2 l3 l4 l5 l6 l7 l8 l9 l10 l11 l12 l13 : Option VV} {v0 : VV} {S : MM} : rn xL_act (787, [l0, l1, l2, l3, l4, l5, l6, l7, l8, l9, l10, l11, l12, l13], [v0], S) = rn xL_act (788, [l0, l1, l2, l3, l4, l5, l6, l7, l8, l9, l10, l11, l12, l13], [vI 0, v0], S) := rn_step dL_act_787 rfl rfl
set_option maxRecDepth 100000 in
theorem eL_act_788 {a0 : Int} {l0 l1 l2 l3 l4 l5 l6 l7 l8 l9 l10 l11 l12 l13 : Option VV} {S : MM} : rn xL_act (788, [l0, l1, l2, l3, l4, l5, l6, l7, l8, l9, l10, l11, l12, l13], [vI a0, vR 0], S) = ((kp fX8_ofRun) [vR 0, vI a0] S).bind (fun q => rn xL_act (791, [l0, l1, l2, l3, l4, l5, l6, l7, l8, l9, l10, l11, l12, l13], q.1.toList ++ [], q.2)) := q_callV (n := 1) (as := [vI a0]) (rest := []) dL_act_788 rfl rfl rfl rfl kd0
set_option maxRecDepth 100000 in
theorem eL_act_791 {l0 l1 l2 l3 l4 l5 l6 l7 l8 l9 l10 l11 l12 l13 : Option VV} {v0 : VV} {S : MM} : rn xL_act (791, [l0, l1, l2, l3, l4, l5, l6, l7, l8, l9, l10, l11, l12, l13], [v0], S) = rn xL_act (792, [l0, l1, l2, l3, l4, l5, l6, l7, l8, l9, l10, l11, l12, l13], [vI 1, v0], S) := rn_step dL_act_791 rfl rfl
set_option maxRecDepth 100000 in
theorem eL_act_792 {a b : Int} {l0 l1 l2 l3 l4 l5 l6 l7 l8 l9 l10 l11 l12 l13 : Option VV} (h : -2147483648 ≤ a ∧ a ≤ 2147483647) (h1 : -2147483648 ≤ b ∧ b ≤ 2147483647) {S : MM} : rn xL_act (792, [l0, l1, l2, l3, l4, l5, l6, l7, l8, l9, l10, l11, l12, l13], [vI b, vI a], S) = if a = b then rn xL_act (795, [l0, l1, l2, l3, l4, l5, l6, l7, l8, l9, l10, l11, l12, l13], [], S) else rn xL_act (812, [l0, l1, l2, l3, l4, l5, l6, l7, l8, l9, l10, l11, l12, l13], [], S) := q_icmp_ne dL_act_792 (by decide) rfl h h1
set_option maxRecDepth 100000 in
theorem eL_act_795 {a : Option Nat} {l1 l2 l3 l4 l5 l6 l7 l8 l9 l10 l11 l12 l13 : Option VV} {S : MM} : rn xL_act (795, [some (.inr (.inl a)), l1, l2, l3, l4, l5, l6, l7, l8, l9, l10, l11, l12, l13], [], S) = rn xL_act (796, [some (.inr (.inl a)), l1, l2, l3, l4, l5, l6, l7, l8, l9, l10, l11, l12, l13], [.inr (.inl a)], S) := rn_step dL_act_795 rfl rfl
set_option maxRecDepth 100000 in
theorem eL_act_796 {l0 l1 l2 l3 l4 l5 l6 l7 l8 l9 l10 l11 l12 l13 : Option VV} {v0 : VV} {S : MM} : rn xL_act (796, [l0, l1, l2, l3, l4, l5, l6, l7, l8, l9, l10, l11, l12, l13], [v0], S) = rn xL_act (797, [l0, l1, l2, l3, l4, l5, l6, l7, l8, l9, l10, l11, l12, l13], [vI 5, v0], S) := rn_step dL_act_796 rfl rfl
set_option maxRecDepth 100000 in
theorem eL_act_797 {a0 : Int} {l0 l1 l2 l3 l4 l5 l6 l7 l8 l9 l10 l11 l12 l13 : Option VV} {S : MM} : rn xL_act (797, [l0, l1, l2, l3, l4, l5, l6, l7, l8, l9, l10, l11, l12, l13], [vI a0, vR 0], S) = ((kp fX8_ofRun) [vR 0, vI a0] S).bind (fun q => rn xL_act (800, [l0, l1, l2, l3, l4, l5, l6, l7, l8, l9, l10, l11, l12, l13], q.1.toList ++ [], q.2)) := q_callV (n := 1) (as := [vI a0]) (rest := []) dL_act_797 rfl rfl rfl rfl kd0
set_option maxRecDepth 100000 in
theorem eL_act_800 {a : Int} {l0 l1 l2 l3 l4 l5 l6 l8 l9 l10 l11 l12 l13 : Option VV} {v0 : VV} {S : MM} : rn xL_act (800, [l0, l1, l2, l3, l4, l5, l6, some (vI a), l8, l9, l10, l11, l12, l13], [v0], S) = rn xL_act (802, [l0, l1, l2, l3, l4, l5, l6, some (vI a), l8, l9, l10, l11, l12, l13], [vI a, v0], S) := rn_step dL_act_800 rfl rfl
set_option maxRecDepth 100000 in
theorem eL_act_802 {a : Int} {l0 l1 l2 l3 l4 l5 l6 l7 l9 l10 l11 l12 l13 : Option VV} {v0 v1 : VV} {S : MM} : rn xL_act (802, [l0, l1, l2, l3, l4, l5, l6, l7, some (vI a), l9, l10, l11, l12, l13], [v0, v1], S) = rn xL_act (804, [l0, l1, l2, l3, l4, l5, l6, l7, some (vI a), l9, l10, l11, l12, l13], [vI a, v0, v1], S) := rn_step dL_act_802 rfl rfl
set_option maxRecDepth 100000 in
theorem eL_act_804 {a b : Int} {l0 l1 l2 l3 l4 l5 l6 l7 l8 l9 l10 l11 l12 l13 : Option VV} {v2 : VV} {S : MM} : rn xL_act (804, [l0, l1, l2, l3, l4, l5, l6, l7, l8, l9, l10, l11, l12, l13], [vI b, vI a, v2], S) = rn xL_act (805, [l0, l1, l2, l3, l4, l5, l6, l7, l8, l9, l10, l11, l12, l13], [vI (a + b), v2], S) := rn_step dL_act_804 rfl rfl
set_option maxRecDepth 100000 in
theorem eL_act_805 {a b : Int} {l0 l1 l2 l3 l4 l5 l6 l7 l8 l9 l10 l11 l12 l13 : Option VV} (h : -2147483648 ≤ a ∧ a ≤ 2147483647) (h1 : -2147483648 ≤ b ∧ b ≤ 2147483647) {S : MM} : rn xL_act (805, [l0, l1, l2, l3, l4, l5, l6, l7, l8, l9, l10, l11, l12, l13], [vI b, vI a], S) = if a = b then rn xL_act (808, [l0, l1, l2, l3, l4, l5, l6, l7, l8, l9, l10, l11, l12, l13], [], S) else rn xL_act (812, [l0, l1, l2, l3, l4, l5, l6, l7, l8, l9, l10, l11, l12, l13], [], S) := q_icmp_ne dL_act_805 (by decide) rfl h h1
set_option maxRecDepth 100000 in
theorem eL_act_808 {l0 l1 l2 l3 l4 l5 l6 l7 l8 l9 l10 l11 l12 l13 : Option VV} {S : MM} : rn xL_act (808, [l0, l1, l2, l3, l4, l5, l6, l7, l8, l9, l10, l11, l12, l13], [], S) = rn xL_act (809, [l0, l1, l2, l3, l4, l5, l6, l7, l8, l9, l10, l11, l12, l13], [vI 1], S) := rn_step dL_act_808 rfl rfl
set_option maxRecDepth 100000 in
theorem eL_act_809 {l0 l1 l2 l3 l4 l5 l6 l7 l8 l9 l10 l11 l12 l13 : Option VV} {v0 : VV} {S : MM} : rn xL_act (809, [l0, l1, l2, l3, l4, l5, l6, l7, l8, l9, l10, l11, l12, l13], [v0], S) = rn xL_act (813, [l0, l1, l2, l3, l4, l5, l6, l7, l8, l9, l10, l11, l12, l13], [v0], S) := rn_step dL_act_809 rfl rfl
set_option maxRecDepth 100000 in
theorem eL_act_812 {l0 l1 l2 l3 l4 l5 l6 l7 l8 l9 l10 l11 l12 l13 : Option VV} {S : MM} : rn xL_act (812, [l0, l1, l2, l3, l4, l5, l6, l7, l8, l9, l10, l11, l12, l13], [], S) = rn xL_act (813, [l0, l1, l2, l3, l4, l5, l6, l7, l8, l9, l10, l11, l12, l13], [vI 0], S) := rn_step dL_act_812 rfl rfl
set_option maxRecDepth 100000 in
theorem eL_act_813 {z : Int} {l0 l1 l2 l3 l4 l5 l6 l7 l8 l9 l10 l11 l12 l13 : Option VV} (hz : z = 0 ∨ z = 1) {S : MM} : rn xL_act (813, [l0, l1, l2, l3, l4, l5, l6, l7, l8, l9, l10, l11, l12, l13], [vI z], S) = some (some (vI z), S) := q_retZ dL_act_813 rfl hz
set_option maxRecDepth 100000 in
theorem eL_act_814 {a : Int} {l0 l1 l2 l4 l5 l6 l7 l8 l9 l10 l11 l12 l13 : Option VV} {S : MM} : rn xL_act (814, [l0, l1, l2, some (vI a), l4, l5, l6, l7, l8, l9, l10, l11, l12, l13], [], S) = rn xL_act (815, [l0, l1, l2, some (vI a), l4, l5, l6, l7, l8, l9, l10, l11, l12, l13], [vI a], S) := rn_step dL_act_814 rfl rfl
set_option maxRecDepth 100000 in
theorem eL_act_815 {l0 l1 l2 l3 l4 l5 l6 l7 l8 l9 l10 l11 l12 l13 : Option VV} {v0 : VV} {S : MM} : rn xL_act (815, [l0, l1, l2, l3, l4, l5, l6, l7, l8, l9, l10, l11, l12, l13], [v0], S) = rn xL_act (816, [l0, l1, l2, l3, l4, l5, l6, l7, l8, l9, l10, l11, l12, l13], [vI 4, v0], S) := rn_step dL_act_815 rfl rfl
set_option maxRecDepth 100000 in
theorem eL_act_816 {a0 : Int} {a1 : Int} {l0 l1 l2 l3 l4 l5 l6 l7 l8 l9 l10 l11 l12 l13 : Option VV} {S : MM} : rn xL_act (816, [l0, l1, l2, l3, l4, l5, l6, l7, l8, l9, l10, l11, l12, l13], [vI a1, vI a0], S) = ((kp fL_up) [vI a0, vI a1] S).bind (fun q => rn xL_act (819, [l0, l1, l2, l3, l4, l5, l6, l7, l8, l9, l10, l11, l12, l13], q.1.toList ++ [], q.2)) := q_callS (n := 2) (as := [vI a0, vI a1]) (rest := []) dL_act_816 rfl rfl rfl rfl
set_option maxRecDepth 100000 in
theorem eL_act_819 {a : Int} {w : Int} {l0 l1 l2 l3 l4 l5 l7 l8 l9 l10 l11 l12 l13 : Option VV} {S : MM} : rn xL_act (819, [l0, l1, l2, l3, l4, l5, some (vI w), l7, l8, l9, l10, l11, l12, l13], [vI a], S) = rn xL_act (821, [l0, l1, l2, l3, l4, l5, some (vI w), some (vI a), l8, l9, l10, l11, l12, l13], [], S) := rn_step dL_act_819 rfl rfl
set_option maxRecDepth 100000 in
theorem eL_act_821 {a : Int} {l0 l1 l2 l3 l4 l5 l6 l8 l9 l10 l11 l12 l13 : Option VV} {S : MM} : rn xL_act (821, [l0, l1, l2, l3, l4, l5, l6, some (vI a), l8, l9, l10, l11, l12, l13], [], S) = rn xL_act (823, [l0, l1, l2, l3, l4, l5, l6, some (vI a), l8, l9, l10, l11, l12, l13], [vI a], S) := rn_step dL_act_821 rfl rfl
set_option maxRecDepth 100000 in
theorem eL_act_823 {l0 l1 l2 l3 l4 l5 l6 l7 l8 l9 l10 l11 l12 l13 : Option VV} {v0 : VV} {S : MM} : rn xL_act (823, [l0, l1, l2, l3, l4, l5, l6, l7, l8, l9, l10, l11, l12, l13], [v0], S) = rn xL_act (824, [l0, l1, l2, l3, l4, l5, l6, l7, l8, l9, l10, l11, l12, l13], [vI 2, v0], S) := rn_step dL_act_823 rfl rfl
set_option maxRecDepth 100000 in
theorem eL_act_824 {a b : Int} {l0 l1 l2 l3 l4 l5 l6 l7 l8 l9 l10 l11 l12 l13 : Option VV} (h : -2147483648 ≤ a ∧ a ≤ 2147483647) (h1 : -2147483648 ≤ b ∧ b ≤ 2147483647) {S : MM} : rn xL_act (824, [l0, l1, l2, l3, l4, l5, l6, l7, l8, l9, l10, l11, l12, l13], [vI b, vI a], S) = if a = b then rn xL_act (827, [l0, l1, l2, l3, l4, l5, l6, l7, l8, l9, l10, l11, l12, l13], [], S) else rn xL_act (836, [l0, l1, l2, l3, l4, l5, l6, l7, l8, l9, l10, l11, l12, l13], [], S) := q_icmp_ne dL_act_824 (by decide) rfl h h1
set_option maxRecDepth 100000 in
theorem eL_act_827 {a : Int} {l0 l1 l2 l3 l5 l6 l7 l8 l9 l10 l11 l12 l13 : Option VV} {S : MM} : rn xL_act (827, [l0, l1, l2, l3, some (vI a), l5, l6, l7, l8, l9, l10, l11, l12, l13], [], S) = rn xL_act (829, [l0, l1, l2, l3, some (vI a), l5, l6, l7, l8, l9, l10, l11, l12, l13], [vI a], S) := rn_step dL_act_827 rfl rfl
set_option maxRecDepth 100000 in
theorem eL_act_829 {l0 l1 l2 l3 l4 l5 l6 l7 l8 l9 l10 l11 l12 l13 : Option VV} {v0 : VV} {S : MM} : rn xL_act (829, [l0, l1, l2, l3, l4, l5, l6, l7, l8, l9, l10, l11, l12, l13], [v0], S) = rn xL_act (830, [l0, l1, l2, l3, l4, l5, l6, l7, l8, l9, l10, l11, l12, l13], [vI 3, v0], S) := rn_step dL_act_829 rfl rfl
set_option maxRecDepth 100000 in
theorem eL_act_830 {a0 : Int} {a1 : Int} {l0 l1 l2 l3 l4 l5 l6 l7 l8 l9 l10 l11 l12 l13 : Option VV} {S : MM} : rn xL_act (830, [l0, l1, l2, l3, l4, l5, l6, l7, l8, l9, l10, l11, l12, l13], [vI a1, vI a0], S) = ((kp fL_up) [vI a0, vI a1] S).bind (fun q => rn xL_act (833, [l0, l1, l2, l3, l4, l5, l6, l7, l8, l9, l10, l11, l12, l13], q.1.toList ++ [], q.2)) := q_callS (n := 2) (as := [vI a0, vI a1]) (rest := []) dL_act_830 rfl rfl rfl rfl
set_option maxRecDepth 100000 in
theorem eL_act_833 {l0 l1 l2 l3 l4 l5 l6 l7 l8 l9 l10 l11 l12 l13 : Option VV} {v0 : VV} {S : MM} : rn xL_act (833, [l0, l1, l2, l3, l4, l5, l6, l7, l8, l9, l10, l11, l12, l13], [v0], S) = rn xL_act (878, [l0, l1, l2, l3, l4, l5, l6, l7, l8, l9, l10, l11, l12, l13], [v0], S) := rn_step dL_act_833 rfl rfl
set_option maxRecDepth 100000 in
theorem eL_act_836 {a : Int} {l0 l1 l2 l3 l4 l5 l6 l8 l9 l10 l11 l12 l13 : Option VV} {S : MM} : rn xL_act (836, [l0, l1, l2, l3, l4, l5, l6, some (vI a), l8, l9, l10, l11, l12, l13], [], S) = rn xL_act (838, [l0, l1, l2, l3, l4, l5, l6, some (vI a), l8, l9, l10, l11, l12, l13], [vI a], S) := rn_step dL_act_836 rfl rfl
set_option maxRecDepth 100000 in
theorem eL_act_838 {l0 l1 l2 l3 l4 l5 l6 l7 l8 l9 l10 l11 l12 l13 : Option VV} {v0 : VV} {S : MM} : rn xL_act (838, [l0, l1, l2, l3, l4, l5, l6, l7, l8, l9, l10, l11, l12, l13], [v0], S) = rn xL_act (839, [l0, l1, l2, l3, l4, l5, l6, l7, l8, l9, l10, l11, l12, l13], [vI 3, v0], S) := rn_step dL_act_838 rfl rfl
set_option maxRecDepth 100000 in
theorem eL_act_839 {a b : Int} {l0 l1 l2 l3 l4 l5 l6 l7 l8 l9 l10 l11 l12 l13 : Option VV} (h : -2147483648 ≤ a ∧ a ≤ 2147483647) (h1 : -2147483648 ≤ b ∧ b ≤ 2147483647) {S : MM} : rn xL_act (839, [l0, l1, l2, l3, l4, l5, l6, l7, l8, l9, l10, l11, l12, l13], [vI b, vI a], S) = if a = b then rn xL_act (842, [l0, l1, l2, l3, l4, l5, l6, l7, l8, l9, l10, l11, l12, l13], [], S) else rn xL_act (852, [l0, l1, l2, l3, l4, l5, l6, l7, l8, l9, l10, l11, l12, l13], [], S) := q_icmp_ne dL_act_839 (by decide) rfl h h1
set_option maxRecDepth 100000 in
theorem eL_act_842 {a : Int} {l0 l1 l2 l3 l5 l6 l7 l8 l9 l10 l11 l12 l13 : Option VV} {S : MM} : rn xL_act (842, [l0, l1, l2, l3, some (vI a), l5, l6, l7, l8, l9, l10, l11, l12, l13], [], S) = rn xL_act (844, [l0, l1, l2, l3, some (vI a), l5, l6, l7, l8, l9, l10, l11, l12, l13], [vI a], S) := rn_step dL_act_842 rfl rfl
set_option maxRecDepth 100000 in
theorem eL_act_844 {l0 l1 l2 l3 l4 l5 l6 l7 l8 l9 l10 l11 l12 l13 : Option VV} {v0 : VV} {S : MM} : rn xL_act (844, [l0, l1, l2, l3, l4, l5, l6, l7, l8, l9, l10, l11, l12, l13], [v0], S) = rn xL_act (846, [l0, l1, l2, l3, l4, l5, l6, l7, l8, l9, l10, l11, l12, l13], [vI 6, v0], S) := rn_step dL_act_844 rfl rfl
set_option maxRecDepth 100000 in
theorem eL_act_846 {a0 : Int} {a1 : Int} {l0 l1 l2 l3 l4 l5 l6 l7 l8 l9 l10 l11 l12 l13 : Option VV} {S : MM} : rn xL_act (846, [l0, l1, l2, l3, l4, l5, l6, l7, l8, l9, l10, l11, l12, l13], [vI a1, vI a0], S) = ((kp fL_up) [vI a0, vI a1] S).bind (fun q => rn xL_act (849, [l0, l1, l2, l3, l4, l5, l6, l7, l8, l9, l10, l11, l12, l13], q.1.toList ++ [], q.2)) := q_callS (n := 2) (as := [vI a0, vI a1]) (rest := []) dL_act_846 rfl rfl rfl rfl
set_option maxRecDepth 100000 in
theorem eL_act_849 {l0 l1 l2 l3 l4 l5 l6 l7 l8 l9 l10 l11 l12 l13 : Option VV} {v0 : VV} {S : MM} : rn xL_act (849, [l0, l1, l2, l3, l4, l5, l6, l7, l8, l9, l10, l11, l12, l13], [v0], S) = rn xL_act (878, [l0, l1, l2, l3, l4, l5, l6, l7, l8, l9, l10, l11, l12, l13], [v0], S) := rn_step dL_act_849 rfl rfl
set_option maxRecDepth 100000 in
theorem eL_act_852 {a : Int} {l0 l1 l2 l3 l4 l5 l6 l8 l9 l10 l11 l12 l13 : Option VV} {S : MM} : rn xL_act (852, [l0, l1, l2, l3, l4, l5, l6, some (vI a), l8, l9, l10, l11, l12, l13], [], S) = rn xL_act (854, [l0, l1, l2, l3, l4, l5, l6, some (vI a), l8, l9, l10, l11, l12, l13], [vI a], S) := rn_step dL_act_852 rfl rfl
set_option maxRecDepth 100000 in
theorem eL_act_854 {a : Int} {l0 l1 l2 l3 l4 l5 l6 l7 l8 l9 l10 l11 l12 l13 : Option VV} (h : -2147483648 ≤ a ∧ a ≤ 2147483647) {S : MM} : rn xL_act (854, [l0, l1, l2, l3, l4, l5, l6, l7, l8, l9, l10, l11, l12, l13], [vI a], S) = if a = 0 then rn xL_act (857, [l0, l1, l2, l3, l4, l5, l6, l7, l8, l9, l10, l11, l12, l13], [], S) else rn xL_act (867, [l0, l1, l2, l3, l4, l5, l6, l7, l8, l9, l10, l11, l12, l13], [], S) := q_if_ne dL_act_854 (by decide) rfl h
set_option maxRecDepth 100000 in
theorem eL_act_857 {a : Int} {l0 l1 l2 l3 l5 l6 l7 l8 l9 l10 l11 l12 l13 : Option VV} {S : MM} : rn xL_act (857, [l0, l1, l2, l3, some (vI a), l5, l6, l7, l8, l9, l10, l11, l12, l13], [], S) = rn xL_act (859, [l0, l1, l2, l3, some (vI a), l5, l6, l7, l8, l9, l10, l11, l12, l13], [vI a], S) := rn_step dL_act_857 rfl rfl
set_option maxRecDepth 100000 in
theorem eL_act_859 {l0 l1 l2 l3 l4 l5 l6 l7 l8 l9 l10 l11 l12 l13 : Option VV} {v0 : VV} {S : MM} : rn xL_act (859, [l0, l1, l2, l3, l4, l5, l6, l7, l8, l9, l10, l11, l12, l13], [v0], S) = rn xL_act (861, [l0, l1, l2, l3, l4, l5, l6, l7, l8, l9, l10, l11, l12, l13], [vI 12, v0], S) := rn_step dL_act_859 rfl rfl
set_option maxRecDepth 100000 in
theorem eL_act_861 {a0 : Int} {a1 : Int} {l0 l1 l2 l3 l4 l5 l6 l7 l8 l9 l10 l11 l12 l13 : Option VV} {S : MM} : rn xL_act (861, [l0, l1, l2, l3, l4, l5, l6, l7, l8, l9, l10, l11, l12, l13], [vI a1, vI a0], S) = ((kp fL_up) [vI a0, vI a1] S).bind (fun q => rn xL_act (864, [l0, l1, l2, l3, l4, l5, l6, l7, l8, l9, l10, l11, l12, l13], q.1.toList ++ [], q.2)) := q_callS (n := 2) (as := [vI a0, vI a1]) (rest := []) dL_act_861 rfl rfl rfl rfl
set_option maxRecDepth 100000 in
theorem eL_act_864 {l0 l1 l2 l3 l4 l5 l6 l7 l8 l9 l10 l11 l12 l13 : Option VV} {v0 : VV} {S : MM} : rn xL_act (864, [l0, l1, l2, l3, l4, l5, l6, l7, l8, l9, l10, l11, l12, l13], [v0], S) = rn xL_act (878, [l0, l1, l2, l3, l4, l5, l6, l7, l8, l9, l10, l11, l12, l13], [v0], S) := rn_step dL_act_864 rfl rfl
set_option maxRecDepth 100000 in
theorem eL_act_867 {l0 l1 l2 l3 l4 l5 l6 l7 l8 l9 l10 l11 l12 l13 : Option VV} {S : MM} : rn xL_act (867, [l0, l1, l2, l3, l4, l5, l6, l7, l8, l9, l10, l11, l12, l13], [], S) = rn xL_act (869, [l0, l1, l2, l3, l4, l5, l6, l7, l8, l9, l10, l11, l12, l13], [vI 25], S) := rn_step dL_act_867 rfl rfl
set_option maxRecDepth 100000 in
theorem eL_act_869 {a : Int} {l0 l1 l2 l3 l5 l6 l7 l8 l9 l10 l11 l12 l13 : Option VV} {v0 : VV} {S : MM} : rn xL_act (869, [l0, l1, l2, l3, some (vI a), l5, l6, l7, l8, l9, l10, l11, l12, l13], [v0], S) = rn xL_act (871, [l0, l1, l2, l3, some (vI a), l5, l6, l7, l8, l9, l10, l11, l12, l13], [vI a, v0], S) := rn_step dL_act_869 rfl rfl
set_option maxRecDepth 100000 in
theorem eL_act_871 {l0 l1 l2 l3 l4 l5 l6 l7 l8 l9 l10 l11 l12 l13 : Option VV} {v0 v1 : VV} {S : MM} : rn xL_act (871, [l0, l1, l2, l3, l4, l5, l6, l7, l8, l9, l10, l11, l12, l13], [v0, v1], S) = rn xL_act (874, [l0, l1, l2, l3, l4, l5, l6, l7, l8, l9, l10, l11, l12, l13], [vI 275, v0, v1], S) := rn_step dL_act_871 rfl rfl
set_option maxRecDepth 100000 in
theorem eL_act_874 {a0 : Int} {a1 : Int} {l0 l1 l2 l3 l4 l5 l6 l7 l8 l9 l10 l11 l12 l13 : Option VV} {v2 : VV} {S : MM} : rn xL_act (874, [l0, l1, l2, l3, l4, l5, l6, l7, l8, l9, l10, l11, l12, l13], [vI a1, vI a0, v2], S) = ((kp fL_up) [vI a0, vI a1] S).bind (fun q => rn xL_act (877, [l0, l1, l2, l3, l4, l5, l6, l7, l8, l9, l10, l11, l12, l13], q.1.toList ++ [v2], q.2)) := q_callS (n := 2) (as := [vI a0, vI a1]) (rest := [v2]) dL_act_874 rfl rfl rfl rfl
set_option maxRecDepth 100000 in
theorem eL_act_877 {a b : Int} {l0 l1 l2 l3 l4 l5 l6 l7 l8 l9 l10 l11 l12 l13 : Option VV} {S : MM} : rn xL_act (877, [l0, l1, l2, l3, l4, l5, l6, l7, l8, l9, l10, l11, l12, l13], [vI b, vI a], S) = rn xL_act (878, [l0, l1, l2, l3, l4, l5, l6, l7, l8, l9, l10, l11, l12, l13], [vI (a + b)], S) := rn_step dL_act_877 rfl rfl
set_option maxRecDepth 100000 in
theorem eL_act_878 {a : Int} {w : Int} {l0 l1 l2 l3 l4 l5 l6 l8 l9 l10 l11 l12 l13 : Option VV} {S : MM} : rn xL_act (878, [l0, l1, l2, l3, l4, l5, l6, some (vI w), l8, l9, l10, l11, l12, l13], [vI a], S) = rn xL_act (880, [l0, l1, l2, l3, l4, l5, l6, some (vI w), some (vI a), l9, l10, l11, l12, l13], [], S) := rn_step dL_act_878 rfl rfl
set_option maxRecDepth 100000 in
theorem eL_act_880 {a : Option Nat} {l1 l2 l3 l4 l5 l6 l7 l8 l9 l10 l11 l12 l13 : Option VV} {S : MM} : rn xL_act (880, [some (.inr (.inl a)), l1, l2, l3, l4, l5, l6, l7, l8, l9, l10, l11, l12, l13], [], S) = rn xL_act (881, [some (.inr (.inl a)), l1, l2, l3, l4, l5, l6, l7, l8, l9, l10, l11, l12, l13], [.inr (.inl a)], S) := rn_step dL_act_880 rfl rfl
set_option maxRecDepth 100000 in
theorem eL_act_881 {l0 l1 l2 l3 l4 l5 l6 l7 l8 l9 l10 l11 l12 l13 : Option VV} {v0 : VV} {S : MM} : rn xL_act (881, [l0, l1, l2, l3, l4, l5, l6, l7, l8, l9, l10, l11, l12, l13], [v0], S) = rn xL_act (882, [l0, l1, l2, l3, l4, l5, l6, l7, l8, l9, l10, l11, l12, l13], [vI 2, v0], S) := rn_step dL_act_881 rfl rfl
set_option maxRecDepth 100000 in
theorem eL_act_882 {a : Int} {l0 l1 l2 l3 l4 l5 l6 l8 l9 l10 l11 l12 l13 : Option VV} {v0 v1 : VV} {S : MM} : rn xL_act (882, [l0, l1, l2, l3, l4, l5, l6, some (vI a), l8, l9, l10, l11, l12, l13], [v0, v1], S) = rn xL_act (884, [l0, l1, l2, l3, l4, l5, l6, some (vI a), l8, l9, l10, l11, l12, l13], [vI a, v0, v1], S) := rn_step dL_act_882 rfl rfl
set_option maxRecDepth 100000 in
theorem eL_act_884 {a b : Int} {l0 l1 l2 l3 l4 l5 l6 l7 l8 l9 l10 l11 l12 l13 : Option VV} {v2 : VV} {S : MM} : rn xL_act (884, [l0, l1, l2, l3, l4, l5, l6, l7, l8, l9, l10, l11, l12, l13], [vI b, vI a, v2], S) = rn xL_act (885, [l0, l1, l2, l3, l4, l5, l6, l7, l8, l9, l10, l11, l12, l13], [vI (a + b), v2], S) := rn_step dL_act_884 rfl rfl
set_option maxRecDepth 100000 in
theorem eL_act_885 {a0 : Int} {l0 l1 l2 l3 l4 l5 l6 l7 l8 l9 l10 l11 l12 l13 : Option VV} {S : MM} : rn xL_act (885, [l0, l1, l2, l3, l4, l5, l6, l7, l8, l9, l10, l11, l12, l13], [vI a0, vR 0], S) = ((kp fX8_count) [vR 0, vI a0] S).bind (fun q => rn xL_act (888, [l0, l1, l2, l3, l4, l5, l6, l7, l8, l9, l10, l11, l12, l13], q.1.toList ++ [], q.2)) := q_callV (n := 1) (as := [vI a0]) (rest := []) dL_act_885 rfl rfl rfl rfl kd0
set_option maxRecDepth 100000 in
theorem eL_act_888 {a : Int} {w : Int} {l0 l1 l2 l3 l4 l5 l6 l7 l9 l10 l11 l12 l13 : Option VV} {S : MM} : rn xL_act (888, [l0, l1, l2, l3, l4, l5, l6, l7, some (vI w), l9, l10, l11, l12, l13], [vI a], S) = rn xL_act (890, [l0, l1, l2, l3, l4, l5, l6, l7, some (vI w), some (vI a), l10, l11, l12, l13], [], S) := rn_step dL_act_888 rfl rfl
set_option maxRecDepth 100000 in
theorem eL_act_890 {a : Option Nat} {l1 l2 l3 l4 l5 l6 l7 l8 l9 l10 l11 l12 l13 : Option VV} {S : MM} : rn xL_act (890, [some (.inr (.inl a)), l1, l2, l3, l4, l5, l6, l7, l8, l9, l10, l11, l12, l13], [], S) = rn xL_act (891, [some (.inr (.inl a)), l1, l2, l3, l4, l5, l6, l7, l8, l9, l10, l11, l12, l13], [.inr (.inl a)], S) := rn_step dL_act_890 rfl rfl
set_option maxRecDepth 100000 in
theorem eL_act_891 {a : Int} {l0 l1 l2 l3 l4 l5 l6 l8 l9 l10 l11 l12 l13 : Option VV} {v0 : VV} {S : MM} : rn xL_act (891, [l0, l1, l2, l3, l4, l5, l6, some (vI a), l8, l9, l10, l11, l12, l13], [v0], S) = rn xL_act (893, [l0, l1, l2, l3, l4, l5, l6, some (vI a), l8, l9, l10, l11, l12, l13], [vI a, v0], S) := rn_step dL_act_891 rfl rfl
set_option maxRecDepth 100000 in
theorem eL_act_893 {a : Int} {l0 l1 l2 l3 l4 l5 l6 l7 l9 l10 l11 l12 l13 : Option VV} {v0 v1 : VV} {S : MM} : rn xL_act (893, [l0, l1, l2, l3, l4, l5, l6, l7, some (vI a), l9, l10, l11, l12, l13], [v0, v1], S) = rn xL_act (895, [l0, l1, l2, l3, l4, l5, l6, l7, some (vI a), l9, l10, l11, l12, l13], [vI a, v0, v1], S) := rn_step dL_act_893 rfl rfl
set_option maxRecDepth 100000 in
theorem eL_act_895 {a0 : Int} {a1 : Int} {l0 l1 l2 l3 l4 l5 l6 l7 l8 l9 l10 l11 l12 l13 : Option VV} {S : MM} : rn xL_act (895, [l0, l1, l2, l3, l4, l5, l6, l7, l8, l9, l10, l11, l12, l13], [vI a1, vI a0, vR 0], S) = ((kp fX8_set) [vR 0, vI a0, vI a1] S).bind (fun q => rn xL_act (898, [l0, l1, l2, l3, l4, l5, l6, l7, l8, l9, l10, l11, l12, l13], q.1.toList ++ [], q.2)) := q_callV (n := 2) (as := [vI a0, vI a1]) (rest := []) dL_act_895 rfl rfl rfl rfl kd0
set_option maxRecDepth 100000 in
theorem eL_act_898 {a : Int} {l0 l1 l2 l3 l4 l5 l6 l7 l8 l10 l11 l12 l13 : Option VV} {v0 : VV} {S : MM} : rn xL_act (898, [l0, l1, l2, l3, l4, l5, l6, l7, l8, some (vI a), l10, l11, l12, l13], [v0], S) = rn xL_act (900, [l0, l1, l2, l3, l4, l5, l6, l7, l8, some (vI a), l10, l11, l12, l13], [vI a, v0], S) := rn_step dL_act_898 rfl rfl
set_option maxRecDepth 100000 in
theorem eL_act_900 {a b : Int} {l0 l1 l2 l3 l4 l5 l6 l7 l8 l9 l10 l11 l12 l13 : Option VV} (h : -2147483648 ≤ a ∧ a ≤ 2147483647) (h1 : -2147483648 ≤ b ∧ b ≤ 2147483647) {S : MM} : rn xL_act (900, [l0, l1, l2, l3, l4, l5, l6, l7, l8, l9, l10, l11, l12, l13], [vI b, vI a], S) = if a = b then rn xL_act (903, [l0, l1, l2, l3, l4, l5, l6, l7, l8, l9, l10, l11, l12, l13], [], S) else rn xL_act (920, [l0, l1, l2, l3, l4, l5, l6, l7, l8, l9, l10, l11, l12, l13], [], S) := q_icmp_ne dL_act_900 (by decide) rfl h h1
set_option maxRecDepth 100000 in
theorem eL_act_903 {a : Option Nat} {l1 l2 l3 l4 l5 l6 l7 l8 l9 l10 l11 l12 l13 : Option VV} {S : MM} : rn xL_act (903, [some (.inr (.inl a)), l1, l2, l3, l4, l5, l6, l7, l8, l9, l10, l11, l12, l13], [], S) = rn xL_act (904, [some (.inr (.inl a)), l1, l2, l3, l4, l5, l6, l7, l8, l9, l10, l11, l12, l13], [.inr (.inl a)], S) := rn_step dL_act_903 rfl rfl
set_option maxRecDepth 100000 in
theorem eL_act_904 {l0 l1 l2 l3 l4 l5 l6 l7 l8 l9 l10 l11 l12 l13 : Option VV} {v0 : VV} {S : MM} : rn xL_act (904, [l0, l1, l2, l3, l4, l5, l6, l7, l8, l9, l10, l11, l12, l13], [v0], S) = rn xL_act (905, [l0, l1, l2, l3, l4, l5, l6, l7, l8, l9, l10, l11, l12, l13], [vI 2, v0], S) := rn_step dL_act_904 rfl rfl
set_option maxRecDepth 100000 in
theorem eL_act_905 {a : Int} {l0 l1 l2 l3 l4 l5 l6 l8 l9 l10 l11 l12 l13 : Option VV} {v0 v1 : VV} {S : MM} : rn xL_act (905, [l0, l1, l2, l3, l4, l5, l6, some (vI a), l8, l9, l10, l11, l12, l13], [v0, v1], S) = rn xL_act (907, [l0, l1, l2, l3, l4, l5, l6, some (vI a), l8, l9, l10, l11, l12, l13], [vI a, v0, v1], S) := rn_step dL_act_905 rfl rfl
set_option maxRecDepth 100000 in
theorem eL_act_907 {a b : Int} {l0 l1 l2 l3 l4 l5 l6 l7 l8 l9 l10 l11 l12 l13 : Option VV} {v2 : VV} {S : MM} : rn xL_act (907, [l0, l1, l2, l3, l4, l5, l6, l7, l8, l9, l10, l11, l12, l13], [vI b, vI a, v2], S) = rn xL_act (908, [l0, l1, l2, l3, l4, l5, l6, l7, l8, l9, l10, l11, l12, l13], [vI (a + b), v2], S) := rn_step dL_act_907 rfl rfl
set_option maxRecDepth 100000 in
theorem eL_act_908 {a0 : Int} {l0 l1 l2 l3 l4 l5 l6 l7 l8 l9 l10 l11 l12 l13 : Option VV} {S : MM} : rn xL_act (908, [l0, l1, l2, l3, l4, l5, l6, l7, l8, l9, l10, l11, l12, l13], [vI a0, vR 0], S) = ((kp fX8_count) [vR 0, vI a0] S).bind (fun q => rn xL_act (911, [l0, l1, l2, l3, l4, l5, l6, l7, l8, l9, l10, l11, l12, l13], q.1.toList ++ [], q.2)) := q_callV (n := 1) (as := [vI a0]) (rest := []) dL_act_908 rfl rfl rfl rfl kd0
set_option maxRecDepth 100000 in
theorem eL_act_911 {a : Int} {l0 l1 l2 l3 l4 l5 l6 l7 l9 l10 l11 l12 l13 : Option VV} {v0 : VV} {S : MM} : rn xL_act (911, [l0, l1, l2, l3, l4, l5, l6, l7, some (vI a), l9, l10, l11, l12, l13], [v0], S) = rn xL_act (913, [l0, l1, l2, l3, l4, l5, l6, l7, some (vI a), l9, l10, l11, l12, l13], [vI a, v0], S) := rn_step dL_act_911 rfl rfl
set_option maxRecDepth 100000 in
theorem eL_act_913 {a b : Int} {l0 l1 l2 l3 l4 l5 l6 l7 l8 l9 l10 l11 l12 l13 : Option VV} (h : -2147483648 ≤ a ∧ a ≤ 2147483647) (h1 : -2147483648 ≤ b ∧ b ≤ 2147483647) {S : MM} : rn xL_act (913, [l0, l1, l2, l3, l4, l5, l6, l7, l8, l9, l10, l11, l12, l13], [vI b, vI a], S) = if a = b then rn xL_act (916, [l0, l1, l2, l3, l4, l5, l6, l7, l8, l9, l10, l11, l12, l13], [], S) else rn xL_act (920, [l0, l1, l2, l3, l4, l5, l6, l7, l8, l9, l10, l11, l12, l13], [], S) := q_icmp_ne dL_act_913 (by decide) rfl h h1
set_option maxRecDepth 100000 in
theorem eL_act_916 {l0 l1 l2 l3 l4 l5 l6 l7 l8 l9 l10 l11 l12 l13 : Option VV} {S : MM} : rn xL_act (916, [l0, l1, l2, l3, l4, l5, l6, l7, l8, l9, l10, l11, l12, l13], [], S) = rn xL_act (917, [l0, l1, l2, l3, l4, l5, l6, l7, l8, l9, l10, l11, l12, l13], [vI 1], S) := rn_step dL_act_916 rfl rfl
set_option maxRecDepth 100000 in
theorem eL_act_917 {l0 l1 l2 l3 l4 l5 l6 l7 l8 l9 l10 l11 l12 l13 : Option VV} {v0 : VV} {S : MM} : rn xL_act (917, [l0, l1, l2, l3, l4, l5, l6, l7, l8, l9, l10, l11, l12, l13], [v0], S) = rn xL_act (921, [l0, l1, l2, l3, l4, l5, l6, l7, l8, l9, l10, l11, l12, l13], [v0], S) := rn_step dL_act_917 rfl rfl
set_option maxRecDepth 100000 in
theorem eL_act_920 {l0 l1 l2 l3 l4 l5 l6 l7 l8 l9 l10 l11 l12 l13 : Option VV} {S : MM} : rn xL_act (920, [l0, l1, l2, l3, l4, l5, l6, l7, l8, l9, l10, l11, l12, l13], [], S) = rn xL_act (921, [l0, l1, l2, l3, l4, l5, l6, l7, l8, l9, l10, l11, l12, l13], [vI 0], S) := rn_step dL_act_920 rfl rfl
set_option maxRecDepth 100000 in
theorem eL_act_921 {z : Int} {l0 l1 l2 l3 l4 l5 l6 l7 l8 l9 l10 l11 l12 l13 : Option VV} (hz : z = 0 ∨ z = 1) {S : MM} : rn xL_act (921, [l0, l1, l2, l3, l4, l5, l6, l7, l8, l9, l10, l11, l12, l13], [vI z], S) = some (some (vI z), S) := q_retZ dL_act_921 rfl hz
set_option maxRecDepth 100000 in
theorem eL_act_922 {a : Option Nat} {l1 l2 l3 l4 l5 l6 l7 l8 l9 l10 l11 l12 l13 : Option VV} {S : MM} : rn xL_act (922, [some (.inr (.inl a)), l1, l2, l3, l4, l5, l6, l7, l8, l9, l10, l11, l12, l13], [], S) = rn xL_act (923, [some (.inr (.inl a)), l1, l2, l3, l4, l5, l6, l7, l8, l9, l10, l11, l12, l13], [.inr (.inl a)], S) := rn_step dL_act_922 rfl rfl
set_option maxRecDepth 100000 in
theorem eL_act_923 {a : Int} {l0 l1 l2 l4 l5 l6 l7 l8 l9 l10 l11 l12 l13 : Option VV} {v0 : VV} {S : MM} : rn xL_act (923, [l0, l1, l2, some (vI a), l4, l5, l6, l7, l8, l9, l10, l11, l12, l13], [v0], S) = rn xL_act (924, [l0, l1, l2, some (vI a), l4, l5, l6, l7, l8, l9, l10, l11, l12, l13], [vI a, v0], S) := rn_step dL_act_923 rfl rfl
set_option maxRecDepth 100000 in
theorem eL_act_924 {a : Int} {l0 l1 l2 l3 l5 l6 l7 l8 l9 l10 l11 l12 l13 : Option VV} {v0 v1 : VV} {S : MM} : rn xL_act (924, [l0, l1, l2, l3, some (vI a), l5, l6, l7, l8, l9, l10, l11, l12, l13], [v0, v1], S) = rn xL_act (926, [l0, l1, l2, l3, some (vI a), l5, l6, l7, l8, l9, l10, l11, l12, l13], [vI a, v0, v1], S) := rn_step dL_act_924 rfl rfl
set_option maxRecDepth 100000 in
theorem eL_act_926 {a0 : Option Nat} {a1 : Int} {a2 : Int} {l0 l1 l2 l3 l4 l5 l6 l7 l8 l9 l10 l11 l12 l13 : Option VV} {S : MM} : rn xL_act (926, [l0, l1, l2, l3, l4, l5, l6, l7, l8, l9, l10, l11, l12, l13], [vI a2, vI a1, .inr (.inl a0)], S) = ((kp fL_text) [.inr (.inl a0), vI a1, vI a2] S).bind (fun q => rn xL_act (929, [l0, l1, l2, l3, l4, l5, l6, l7, l8, l9, l10, l11, l12, l13], q.1.toList ++ [], q.2)) := q_callS (n := 3) (as := [.inr (.inl a0), vI a1, vI a2]) (rest := []) dL_act_926 rfl rfl rfl rfl
set_option maxRecDepth 100000 in
theorem eL_act_929 {z : Int} {l0 l1 l2 l3 l4 l5 l6 l7 l8 l9 l10 l11 l12 l13 : Option VV} (hz : z = 0 ∨ z = 1) {S : MM} : rn xL_act (929, [l0, l1, l2, l3, l4, l5, l6, l7, l8, l9, l10, l11, l12, l13], [vI z], S) = some (some (vI z), S) := q_retZ dL_act_929 rfl hz

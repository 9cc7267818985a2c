/-! the constructors: a meaning is kept -/
def fnC (X : XC) (nL : Nat) (M : Nat × Nat) : FC := fun as E => if (lay as).length ≤ nL then evC X M 2000 (0, lay as ++ List.replicate (nL - (lay as).length) none, [], E, 0, 0) else none
theorem conC_of {y : MethodName} {own : String} {X : XC} {maxL : Nat} {rm : Room} (hy : plainName y.cls = true) (hown : y.cls = own) (hnm : y.name = "<init>") (hLK : LOK own X.2.1) (hCL : CALLS own X maxL rm) (hR : 1 ≤ rm.frames ∧ 20 ≤ rm.locals) : ConC y X.1 maxL rm (fnC X maxL (rm.cells, rm.slots)) := by
  intro l G SX as E E' hf
  unfold fnC at hf
  split at hf
  next hlen =>
    refine Met.ofW (cc := X.1) (maxL := maxL) (ret := none) hy rfl ?_
    intro p e s m args below meth c s₁ B hml hv
    obtain ⟨rfl, hK, hP, hE, hN, hA, hz, hb⟩ := hv
    have hts := atoms_spec (ws := Cond.code y X.1 maxL none :: lw_g) B.pre
    have ho : s.vm.findClass own = some m.cls := by rw [← hown]; exact findClass_of_methodNamed B.named
    have C : CTXC p s m (as.map (cv G)).toArray meth c own X maxL G := ⟨B.exec, B.bytes, hml, ho, fun w hw => hts w (List.mem_cons_of_mem _ hw), hN, hA, fun _ => (name_of_methodNamed B.named B.method).1.trans hnm, hb⟩
    have hr := B.returns
    rw [lg_entry_eq]
    refine evC_sound (R := rm) (Q := MQ below (QGC G SX E') (as.map (cv G)).toArray s rm.cells rm.slots (fun q => G.2.1 ≤ q)) C hLK hCL hR (E' := E') ?_ 2000 (0, lay as ++ List.replicate (maxL - (lay as).length) none, [], E, 0, 0) hf s.heap [] _ ⟨hK, hP, va_S.rf, hE, hz⟩ (LV_entry hlen)
    intro pc L c1 s1 hd h1 h2 H locs ls hw hl
    have hfin : ∀ t : State, t.heap = H → s.WarmedH t.vm → QGC G SX E' (as.map (cv G)).toArray s (.returned none) t := fun t ht hW => ⟨rfl, GW.toWC hw hN hA hb ht hW, hw.2.2.1.F ht⟩
    have hfr : ∀ q ∈ locs, (fun q => G.2.1 ≤ q) q.base := hw.2.2.1.2.2
    refine W.widen (k := rm.cells) (n := rm.slots) h1 h2 ?_
    exact W.vret C.1 C.2.1 hr hfin hfr hd
  next => cases hf

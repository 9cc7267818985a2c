/-! the start: the world that the constructors made -/
def A0 : Nat → Int := fun j => if j = 1 then 299 else if j = 2 then 1 else 0
def isS (i : Nat) : Bool := (kd i == 10 && alen i == 4) || i == 594
def iv (i j : Nat) : Int := if isS i = true then A0 j else if kd i = 4 ∧ j = 0 then (if i = 66 then 6 else 4) else 0
def la : List (Nat × VV) := [(3, vI 0), (2, vI 1), (1, vI 299), (0, vI 0)]
def lb : List (Nat × VV) := [(2, vI 1), (1, vI 299)]
def chk (i : Nat) (c : CD) : Bool :=
  c.1 == kd i && (if c.1 < 10 then (List.range (nfl c.1)).all (fun j => decide (cdv c.1 c.2.2 j = if fk c.1 j = 8 then vR (fref i j) else vI (iv i j)))
    else c.2.1 == alen i && (if c.1 < 13 then (if isS i = true then c.1 == 10 && (@decide (c.2.2 = la) (decLV _ _) || @decide (c.2.2 = lb) (decLV _ _)) else c.2.2.isEmpty && !(kd i == 4))
      else (List.range c.2.1).all (fun j => decide (cdv c.1 c.2.2 j = vR (fref i j)))))
set_option maxRecDepth 1000000 in
theorem ELlen : EL.length = 593 := by decide +kernel
set_option maxRecDepth 1000000 in
theorem ELck : (List.range 593).all (fun i => match EL[i]? with | some c => chk i c | none => false) = true := by decide +kernel

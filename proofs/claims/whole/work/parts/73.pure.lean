def vxR (a : Int32) (x : UInt64) : Bool := inR a (nI 0) (nI 11) && (dge x 13904980397738950656 && dle x 4681608360884174848)
def egR (a b : Int32) (x : UInt64) : Bool := inR a (nI 0) (nI 11) && (inR b (nI 0) (nI 11) && (dge x FP.dconst0 && dle x 4652007308841189376))
def mcnt (th : Nat → Bool) (mc : Nat → Nat) (st : Nat) (sv : Bool) (ss k : Nat) : Nat := if k = 0 then st else if k = 1 then ss else if k = 2 then cnt th 12 else if k = 3 then (if sv then 1 else 0) else msC th st mc 12

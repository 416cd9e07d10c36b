def mfC (st : Nat) (mc : Nat → Nat) : Nat → Nat
  | 0 => 0
  | n + 1 => mfC st mc n + (if st = 0 then 0 else mc n)

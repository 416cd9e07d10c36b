theorem inM_nat {a : Int32} {n : Nat} (hn : n ≤ 12) (h0 : ¬ a < 0) (h1 : a < nI n) : ∃ j : Nat, (j < n) ∧ a = nI j := by
  have hp : a.toInt = ((a.toNatClampNeg : Nat) : Int) := by
    have : (0 : Int32) ≤ a := Int32.not_lt.mp h0
    rw [Int32.le_iff_toInt_le] at this
    have e0 : (0 : Int32).toInt = 0 := by decide
    rw [e0] at this
    show a.toInt = ((a.toInt.toNat : Nat) : Int)
    omega
  rw [Int32.lt_iff_toInt_lt, nI_toInt (by omega), hp] at h1
  refine ⟨a.toNatClampNeg, by omega, ?_⟩
  apply Int32.toInt_inj.mp
  rw [nI_toInt (by omega)]
  exact hp
def ccnt (th : Nat → Bool) (mc : Nat → Nat) (st : Nat) (hc : Bool) (ss k : Nat) : Nat := if k = 0 then st else if k = 1 then ss else if k = 2 then cnt th 12 else if k = 3 then (if hc then 1 else 0) else mfC st mc 12

def stR (a b : Int32) : Bool := inR a (nI 0) (nI 3) && inR b (nI 0) (nI 30)
theorem knC_rg {th : Nat → Bool} {a : Int32} {rg : Bool} (h : knC th a rg = 0) : rg = true := by
  unfold knC at h
  split at h
  · next c => exact c.2
  · exact absurd h (by decide)
def abt (eC tO : Nat → Nat) (aW : Nat → Bool) (mS : Nat → Nat) (st k w : Nat) : Int32 := if w = 0 then nI (eC k) else if w = 1 then nI (if st = 0 then 0 else mS k) else if w = 2 then bI (decide (st ≠ 0) && aW k) else tof eC tO k (w - 3)
theorem bI_1 : nI 1 = bI true := by decide +kernel
theorem bI_0 : nI 0 = bI false := by decide +kernel
theorem inR_m {a : Int32} {m : Nat} (hm : m ≤ 12) (h : inR a (nI 0) (nI m - nI 1) = true) : ∃ j : Nat, j < m ∧ a = nI j := by
  cases m with
  | zero =>
    exfalso
    unfold inR at h
    simp only [Bool.and_eq_true, Bool.not_eq_true', decide_eq_false_iff_not] at h
    obtain ⟨h1, h2⟩ := h
    rw [Int32.lt_iff_toInt_lt] at h1 h2
    have e1 : (nI 0 - nI 1).toInt = -1 := by decide +kernel
    have e2 : (nI 0).toInt = 0 := by decide +kernel
    rw [e1] at h2; rw [e2] at h1
    omega
  | succ m =>
    have e : nI (m + 1) - nI 1 = nI m := nI_pred m
    rw [e] at h
    obtain ⟨j, hj, ej⟩ := inR_nat (by omega) h (by decide)
    exact ⟨j, by omega, ej⟩

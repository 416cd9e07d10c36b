theorem knC_in {th : Nat → Bool} {a : Int32} {rg : Bool} (h : knC th a rg = 0) : inR a (nI 0) (nI 11) = true := by
  unfold knC at h
  split at h
  · next c => exact c.1
  · exact absurd h (by decide)
/-- mail for all that are there -/
def msC (th : Nat → Bool) (st : Nat) (mc : Nat → Nat) : Nat → Nat
  | 0 => 0
  | n + 1 => if th n = true ∧ st ≠ 0 then msC th st mc n + mc n else msC th st mc n
theorem msC_le {th : Nat → Bool} {st : Nat} {mc : Nat → Nat} (h : ∀ j, j < 12 → mc j ≤ 12) : ∀ n, n ≤ 12 → msC th st mc n ≤ 12 * n
  | 0, _ => Nat.le_refl _
  | n + 1, hn => by
    have := msC_le (th := th) (st := st) h n (by omega)
    have := h n (by omega)
    unfold msC
    split <;> omega

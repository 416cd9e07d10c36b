/-! the reference's own pure parts -/
def inR (a lo hi : Int32) : Bool := !decide (a < lo) && !decide (hi < a)
theorem inR_nat {v : Int32} {lo hi : Nat} (hh : hi < 2 ^ 31) (h : inR v (nI lo) (nI hi) = true) (hl : lo < 2 ^ 31) : ∃ k : Nat, (lo ≤ k ∧ k ≤ hi) ∧ v = nI k := by
  unfold inR at h
  simp only [Bool.and_eq_true, Bool.not_eq_true', decide_eq_false_iff_not] at h
  obtain ⟨h1, h2⟩ := h
  rcases pk_ix v (n := 2 ^ 31 - 1) (by decide) with q | q | ⟨j, hj, rfl⟩
  · exfalso; apply h1
    rw [Int32.lt_iff_toInt_lt] at q ⊢
    rw [nI_toInt hl]
    have : (0 : Int32).toInt = 0 := rfl
    omega
  · by_cases e : v = nI (2 ^ 31 - 1)
    · subst e
      refine ⟨2 ^ 31 - 1, ⟨?_, ?_⟩, rfl⟩
      · exact Nat.le_of_not_lt (fun c => h1 (nI_lt c hl))
      · exact Nat.le_of_not_lt (fun c => h2 (nI_lt c (by decide)))
    · exfalso
      rw [Int32.le_iff_toInt_le, nI_toInt (by decide)] at q
      have hb := v.toInt_lt
      apply e
      apply Int32.toInt_inj.mp
      rw [nI_toInt (by decide)]
      omega
  · refine ⟨j, ⟨?_, ?_⟩, rfl⟩
    · exact Nat.le_of_not_lt (fun c => h1 (nI_lt c hl))
    · exact Nat.le_of_not_lt (fun c => h2 (nI_lt c (by omega)))
/-- the edges to v cut from the rows of those of the first n that are there -/
def takS (th : Nat → Bool) (ec tg : Nat → Nat) (le : Nat → UInt64) (v : Nat) : Nat → (Nat → Nat) × (Nat → Nat) × (Nat → UInt64)
  | 0 => (ec, tg, le)
  | n + 1 => if n = v then takS th ec tg le v n else if th n then (cutEc (takS th ec tg le v n).1 (takS th ec tg le v n).2.1 n v, cutF (takS th ec tg le v n).1 (takS th ec tg le v n).2.1 (takS th ec tg le v n).2.1 n v, cutF (takS th ec tg le v n).1 (takS th ec tg le v n).2.1 (takS th ec tg le v n).2.2 n v) else takS th ec tg le v n
def takC (th : Nat → Bool) (ec tg : Nat → Nat) (le : Nat → UInt64) (v : Nat) : Nat → Nat
  | 0 => 0
  | n + 1 => takC th ec tg le v n + (if n = v then 0 else if th n then (if cutR (takS th ec tg le v n).1 (takS th ec tg le v n).2.1 n v then 1 else 0) else 0)
theorem takS_inv {th : Nat → Bool} {ec tg : Nat → Nat} {le : Nat → UInt64} {v : Nat} (hE : ∀ j, ec j ≤ 12) (hT : ∀ j, tg j < 12) : ∀ n, (∀ j, (takS th ec tg le v n).1 j ≤ 12) ∧ ∀ j, (takS th ec tg le v n).2.1 j < 12
  | 0 => ⟨hE, hT⟩
  | n + 1 => by
    have ih := takS_inv (th := th) (le := le) (v := v) hE hT n
    unfold takS
    split
    · exact ih
    · split
      · exact ⟨cutEc_all ih.1, cutF_all (P := fun z => z < 12) ih.2⟩
      · exact ih
/-- zero and a number that is not below zero -/
theorem zadd {x : UInt64} (h : nn x) : FP.dadd FP.dconst0 x = x := by
  have e : FP.dadd FP.dconst0 x = FP.Core.dadd x FP.Core.dconst0 := FP.Core.dadd_comm _ _
  rw [e]
  refine FP.Core.dadd_zero (nn_nu h) (fun q => ?_)
  rw [q] at h
  unfold nn at h
  rw [FP.Core.val64_dzeroNeg] at h
  exact absurd (show true = false from h) (by decide)

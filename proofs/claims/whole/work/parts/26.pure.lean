/-! the removed ones dropped -/
abbrev DS : Type := (Nat → Bool) × (Nat → Nat) × (Nat → Nat) × (Nat → UInt64) × (Nat → Bool) × (Nat → Nat)
def drop1 (k : Nat) (s : DS) (v : Nat) : DS := (va_up s.1 v false, (dropS (va_up s.2.1 v 0) s.2.2.1 s.2.2.2.1 v k).1, (dropS (va_up s.2.1 v 0) s.2.2.1 s.2.2.2.1 v k).2.1, (dropS (va_up s.2.1 v 0) s.2.2.1 s.2.2.2.1 v k).2.2, va_up s.2.2.2.2.1 v false, va_up s.2.2.2.2.2 v 0)
def drmS (rm : Nat → Bool) (s : DS) : Nat → DS
  | 0 => s
  | n + 1 => if rm n then drop1 12 (drmS rm s n) n else drmS rm s n
theorem drop1_inv {k : Nat} {s : DS} {v : Nat} (hE : ∀ j, s.2.1 j ≤ 12) (hT : ∀ j, s.2.2.1 j < 12) : (∀ j, (drop1 k s v).2.1 j ≤ 12) ∧ ∀ j, (drop1 k s v).2.2.1 j < 12 := by
  have h := dropS_inv (v := v) (le := s.2.2.2.1) (va_up_all (P := fun z => z ≤ 12) (k := v) hE (Nat.zero_le 12)) hT k
  exact h
theorem drmS_inv {rm : Nat → Bool} {th : Nat → Bool} {ec tg : Nat → Nat} {le : Nat → UInt64} {aw : Nat → Bool} {mc : Nat → Nat} (hE : ∀ j, ec j ≤ 12) (hT : ∀ j, tg j < 12) : ∀ n, (∀ j, (drmS rm (th, ec, tg, le, aw, mc) n).2.1 j ≤ 12) ∧ ∀ j, (drmS rm (th, ec, tg, le, aw, mc) n).2.2.1 j < 12
  | 0 => ⟨hE, hT⟩
  | n + 1 => by
    have ih := drmS_inv (rm := rm) (th := th) (le := le) (aw := aw) (mc := mc) hE hT n
    cases h : rm n with
    | true =>
      have e : drmS rm (th, ec, tg, le, aw, mc) (n + 1) = drop1 12 (drmS rm (th, ec, tg, le, aw, mc) n) n := by rw [drmS, if_pos h]
      rw [e]
      exact drop1_inv ih.1 ih.2
    | false =>
      have e : drmS rm (th, ec, tg, le, aw, mc) (n + 1) = drmS rm (th, ec, tg, le, aw, mc) n := by rw [drmS, h]; rfl
      rw [e]
      exact ih

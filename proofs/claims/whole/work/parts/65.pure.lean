/-! the reference's removal of vertices -/
def tak1 (k : Nat) (s : DS) (v : Nat) : DS := (va_up s.1 v false, (takS (va_up s.1 v false) s.2.1 s.2.2.1 s.2.2.2.1 v k).1, (takS (va_up s.1 v false) s.2.1 s.2.2.1 s.2.2.2.1 v k).2.1, (takS (va_up s.1 v false) s.2.1 s.2.2.1 s.2.2.2.1 v k).2.2, va_up s.2.2.2.2.1 v false, va_up s.2.2.2.2.2 v 0)
def drkS (rm : Nat → Bool) (s : DS) : Nat → DS
  | 0 => s
  | n + 1 => if rm n then tak1 12 (drkS rm s n) n else drkS rm s n
theorem drkS_t {rm : Nat → Bool} {s : DS} {n : Nat} (h : rm n = true) : drkS rm s (n + 1) = tak1 12 (drkS rm s n) n := by rw [drkS, if_pos h]
theorem drkS_f {rm : Nat → Bool} {s : DS} {n : Nat} (h : rm n = false) : drkS rm s (n + 1) = drkS rm s n := by rw [drkS, h]; rfl
theorem tak1_inv {k : Nat} {s : DS} {v : Nat} (hE : ∀ j, s.2.1 j ≤ 12) (hT : ∀ j, s.2.2.1 j < 12) : (∀ j, (tak1 k s v).2.1 j ≤ 12) ∧ ∀ j, (tak1 k s v).2.2.1 j < 12 := by
  have h := takS_inv (th := va_up s.1 v false) (v := v) (le := s.2.2.2.1) hE hT k
  exact h
theorem drkS_inv {rm : Nat → Bool} {s : DS} (hE : ∀ j, s.2.1 j ≤ 12) (hT : ∀ j, s.2.2.1 j < 12) : ∀ n, (∀ j, (drkS rm s n).2.1 j ≤ 12) ∧ ∀ j, (drkS rm s n).2.2.1 j < 12
  | 0 => ⟨hE, hT⟩
  | n + 1 => by
    have ih := drkS_inv (rm := rm) hE hT n
    cases h : rm n with
    | true => rw [drkS_t h]; exact tak1_inv ih.1 ih.2
    | false => rw [drkS_f h]; exact ih
theorem tak1_mc {k : Nat} {s : DS} {v : Nat} (j : Nat) : (tak1 k s v).2.2.2.2.2 j ≤ s.2.2.2.2.2 j := by
  show va_up s.2.2.2.2.2 v 0 j ≤ s.2.2.2.2.2 j
  unfold va_up; split
  · exact Nat.zero_le _
  · exact Nat.le_refl _
theorem drkS_mc {rm : Nat → Bool} {s : DS} : ∀ n j, (drkS rm s n).2.2.2.2.2 j ≤ s.2.2.2.2.2 j
  | 0, _ => Nat.le_refl _
  | n + 1, j => by
    have ih := drkS_mc (rm := rm) (s := s) n j
    cases h : rm n with
    | true => rw [drkS_t h]; exact Nat.le_trans (tak1_mc j) ih
    | false => rw [drkS_f h]; exact ih
theorem dlvC_le {fi : Nat → Bool} {mc : Nat → Nat} : ∀ n j, j < n → dlvC fi mc n j ≤ 12
  | 0, _, h => absurd h (Nat.not_lt_zero _)
  | n + 1, j, h => by
    by_cases e : j = n
    · subst e; rw [dlvC, va_up_self]; exact delC_le fi (j * 12) 12
    · rw [dlvC, va_up_ne _ _ e]; exact dlvC_le n j (by omega)
theorem dcC_le {fi : Nat → Bool} {mc : Nat → Nat} : ∀ n j, j < n → dcC fi mc n j ≤ 12
  | 0, _, h => absurd h (Nat.not_lt_zero _)
  | n + 1, j, h => by
    by_cases e : j = n
    · subst e; rw [dcC, va_up_self]; have := wcC_le fi (j * 12) 3; omega
    · rw [dcC, va_up_ne _ _ e]; exact dcC_le n j (by omega)
theorem rcv_le {cb : Bool} {fi : Nat → Bool} {mc : Nat → Nat} {j : Nat} (h : j < 12) : (if cb then dcC fi mc 12 else dlvC fi mc 12) j ≤ 12 := by
  cases cb
  · exact dlvC_le 12 j h
  · exact dcC_le 12 j h

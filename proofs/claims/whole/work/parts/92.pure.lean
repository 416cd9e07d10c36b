theorem drmS_t {rm : Nat → Bool} {s : DS} {n : Nat} (h : rm n = true) : drmS rm s (n + 1) = drop1 12 (drmS rm s n) n := by rw [drmS, if_pos h]
theorem drmS_f {rm : Nat → Bool} {s : DS} {n : Nat} (h : rm n = false) : drmS rm s (n + 1) = drmS rm s n := by rw [drmS, h]; rfl
theorem drop1_mc {k : Nat} {s : DS} {v : Nat} (j : Nat) : (drop1 k s v).2.2.2.2.2 j ≤ s.2.2.2.2.2 j := by
  show va_up s.2.2.2.2.2 v 0 j ≤ _
  unfold va_up; split
  · exact Nat.zero_le _
  · exact Nat.le_refl _
theorem drmS_mc {rm : Nat → Bool} {s : DS} : ∀ n j, (drmS rm s n).2.2.2.2.2 j ≤ s.2.2.2.2.2 j
  | 0, _ => Nat.le_refl _
  | n + 1, j => by
    have ih := drmS_mc (rm := rm) (s := s) n j
    cases h : rm n with
    | true => rw [drmS_t h]; exact Nat.le_trans (drop1_mc j) ih
    | false => rw [drmS_f h]; exact ih

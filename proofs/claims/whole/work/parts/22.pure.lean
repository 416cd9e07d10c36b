/-- all vertices' letters delivered, the first n -/
def dlvC (fi : Nat → Bool) (mc : Nat → Nat) : Nat → Nat → Nat
  | 0 => mc
  | n + 1 => va_up (dlvC fi mc n) n (delC fi (n * 12) 12)
def dlvM (fi : Nat → Bool) (lt ml : Nat → UInt64) : Nat → Nat → UInt64
  | 0 => ml
  | n + 1 => delM fi lt (dlvM fi lt ml n) (n * 12) 12
theorem dlvC_ge {fi : Nat → Bool} {mc : Nat → Nat} : ∀ n j, n ≤ j → dlvC fi mc n j = mc j
  | 0, _, _ => rfl
  | n + 1, j, h => by rw [dlvC, va_up_ne _ _ (by omega), dlvC_ge n j (by omega)]
theorem va_up_id {α : Type} {f : Nat → α} {k : Nat} {x : α} (h : f k = x) : va_up f k x = f := by
  funext j; unfold va_up; split
  · next e => rw [e, h]
  · rfl
theorem dlvC_up {fi : Nat → Bool} {mc : Nat → Nat} (h : ∀ j, mc j = 0) {n : Nat} : va_up (dlvC fi mc n) n 0 = dlvC fi mc n := va_up_id (by rw [dlvC_ge n n (Nat.le_refl n), h])
/-- two messages made one: the least in program 1, the greatest in 2, else the sum -/
def mrg (pg : Nat) (a b : UInt64) : UInt64 := if pg = 1 then (if dlt b a then b else a) else if pg = 2 then (if dgt b a then b else a) else FP.dadd a b

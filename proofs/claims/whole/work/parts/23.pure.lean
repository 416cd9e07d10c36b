/-- of one worker: whether there is a letter among its first n, and what they are together -/
def cwA (fi : Nat → Bool) (b wk : Nat) : Nat → Bool
  | 0 => false
  | n + 1 => cwA fi b wk n || fi (b + (wk + 3 * n))
def cwX (pg : Nat) (fi : Nat → Bool) (lt : Nat → UInt64) (b wk : Nat) : Nat → UInt64
  | 0 => FP.dconst0
  | n + 1 => if fi (b + (wk + 3 * n)) then (if cwA fi b wk n then mrg pg (cwX pg fi lt b wk n) (lt (b + (wk + 3 * n))) else lt (b + (wk + 3 * n))) else cwX pg fi lt b wk n
def wcC (fi : Nat → Bool) (b : Nat) : Nat → Nat
  | 0 => 0
  | n + 1 => wcC fi b n + (if cwA fi b n 4 then 1 else 0)
def wcM (pg : Nat) (fi : Nat → Bool) (lt ml : Nat → UInt64) (b : Nat) : Nat → Nat → UInt64
  | 0 => ml
  | n + 1 => if cwA fi b n 4 then va_up (wcM pg fi lt ml b n) (b + wcC fi b n) (cwX pg fi lt b n 4) else wcM pg fi lt ml b n
theorem wcC_le (fi : Nat → Bool) (b : Nat) : ∀ n, wcC fi b n ≤ n
  | 0 => Nat.le_refl 0
  | n + 1 => by have := wcC_le fi b n; unfold wcC; split <;> omega
def dcC (fi : Nat → Bool) (mc : Nat → Nat) : Nat → Nat → Nat
  | 0 => mc
  | n + 1 => va_up (dcC fi mc n) n (wcC fi (n * 12) 3)
def dcM (pg : Nat) (fi : Nat → Bool) (lt ml : Nat → UInt64) : Nat → Nat → UInt64
  | 0 => ml
  | n + 1 => wcM pg fi lt (dcM pg fi lt ml n) (n * 12) 3
theorem dcC_ge {fi : Nat → Bool} {mc : Nat → Nat} : ∀ n j, n ≤ j → dcC fi mc n j = mc j
  | 0, _, _ => rfl
  | n + 1, j, h => by rw [dcC, va_up_ne _ _ (by omega), dcC_ge n j (by omega)]
theorem dcC_up {fi : Nat → Bool} {mc : Nat → Nat} (h : ∀ j, mc j = 0) {n : Nat} : va_up (dcC fi mc n) n 0 = dcC fi mc n := va_up_id (by rw [dcC_ge n n (Nat.le_refl n), h])
/-- the messages of a vertex made one, from x on -/
def mgM (pg : Nat) (f : Nat → UInt64) (x : UInt64) : Nat → UInt64
  | 0 => x
  | n + 1 => mrg pg (mgM pg f x n) (f n)
/-- the first n of a row's targets get y -/
def sndF {α : Type} (tg : Nat → Nat) (v : Nat) (f y : Nat → α) : Nat → Nat → α
  | 0 => f
  | n + 1 => va_up (sndF tg v f y n) (tg (v * 12 + n) * 12 + v) (y n)

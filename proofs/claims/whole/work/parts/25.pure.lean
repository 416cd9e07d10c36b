/-! a step's state: values, awake, letters there, letters, removed, failed, offered, offers -/
abbrev PS : Type := (Nat → UInt64) × (Nat → Bool) × (Nat → Bool) × (Nat → UInt64) × (Nat → Bool) × Bool × Bool × UInt64
abbrev FAR : UInt64 := 4696837146684686336
def rkX (pg pr ss : Nat) (mc : Nat → Nat) (ml : Nat → UInt64) (v : Nat) : UInt64 := if ss = 0 then FP.ddiv FP.dconst1 (FP.i2d (nI pr)) else FP.dadd (FP.ddiv 4594572339843380019 (FP.i2d (nI pr))) (FP.dmul 4605831338911806259 (mgM pg (fun j => ml (v * 12 + j)) FP.dconst0 (mc v)))
def offX (pg : Nat) (of : Bool) (ox x : UInt64) : UInt64 := if of then mrg pg ox x else x
def sdF (y : Nat → UInt64) (fl : Bool) : Nat → Bool
  | 0 => fl
  | n + 1 => sdF y fl n || dgt (y n) 4654311885213007872
def rkS (pg nb pr ss : Nat) (ec tg mc : Nat → Nat) (ml : Nat → UInt64) (v : Nat) (s : PS) : PS :=
  (va_up s.1 v (rkX pg pr ss mc ml v), (if nb ≤ ss then va_up s.2.1 v false else s.2.1), (if nb ≤ ss then s.2.2.1 else sndF tg v s.2.2.1 (fun _ => true) (ec v)), (if nb ≤ ss then s.2.2.2.1 else sndF tg v s.2.2.2.1 (fun _ => FP.ddiv (rkX pg pr ss mc ml v) (FP.i2d (nI (ec v)))) (ec v)), s.2.2.2.2.1, s.2.2.2.2.2.1, true, offX pg s.2.2.2.2.2.2.1 s.2.2.2.2.2.2.2 (rkX pg pr ss mc ml v))
def neX (pg nb ss : Nat) (mc : Nat → Nat) (ml : Nat → UInt64) (v : Nat) : UInt64 := mgM pg (fun j => ml (v * 12 + j)) (if ss = 0 ∧ v = nb then FP.dconst0 else FAR) (mc v)
def ne0 (ss : Nat) (va : Nat → UInt64) (v : Nat) : Nat → UInt64 := if ss = 0 then va_up va v FAR else va
def neS (pg nb ss : Nat) (ec tg : Nat → Nat) (le : Nat → UInt64) (mc : Nat → Nat) (ml : Nat → UInt64) (v : Nat) (s : PS) : PS :=
  if dlt (neX pg nb ss mc ml v) (ne0 ss s.1 v v) then
    (va_up (ne0 ss s.1 v) v (neX pg nb ss mc ml v), va_up s.2.1 v false, sndF tg v s.2.2.1 (fun _ => true) (ec v), sndF tg v s.2.2.2.1 (fun n => FP.dadd (neX pg nb ss mc ml v) (le (v * 12 + n))) (ec v), s.2.2.2.2.1, sdF (fun n => FP.dadd (neX pg nb ss mc ml v) (le (v * 12 + n))) s.2.2.2.2.2.1 (ec v), true, offX pg s.2.2.2.2.2.2.1 s.2.2.2.2.2.2.2 (neX pg nb ss mc ml v))
  else (ne0 ss s.1 v, va_up s.2.1 v false, s.2.2.1, s.2.2.2.1, s.2.2.2.2.1, s.2.2.2.2.2.1, s.2.2.2.2.2.2.1, s.2.2.2.2.2.2.2)
def grX (pg : Nat) (mc : Nat → Nat) (ml : Nat → UInt64) (va : Nat → UInt64) (v : Nat) : UInt64 := mgM pg (fun j => ml (v * 12 + j)) (va v) (mc v)
def grS (pg ss : Nat) (ec tg mc : Nat → Nat) (ml : Nat → UInt64) (v : Nat) (s : PS) : PS :=
  (va_up s.1 v (grX pg mc ml s.1 v), va_up s.2.1 v false, (if dgt (grX pg mc ml s.1 v) (s.1 v) = true ∨ ss = 0 then sndF tg v s.2.2.1 (fun _ => true) (ec v) else s.2.2.1), (if dgt (grX pg mc ml s.1 v) (s.1 v) = true ∨ ss = 0 then sndF tg v s.2.2.2.1 (fun _ => grX pg mc ml s.1 v) (ec v) else s.2.2.2.1), s.2.2.2.2.1, s.2.2.2.2.2.1, true, offX pg s.2.2.2.2.2.2.1 s.2.2.2.2.2.2.2 (grX pg mc ml s.1 v))
def coX (pg : Nat) (mc : Nat → Nat) (ml : Nat → UInt64) (v : Nat) : UInt64 := mgM pg (fun j => ml (v * 12 + j)) FP.dconst0 (mc v)
def coS (pg nb ss : Nat) (ag : UInt64) (ec tg mc : Nat → Nat) (ml : Nat → UInt64) (v : Nat) (s : PS) : PS :=
  if ss % 2 = 0 then (s.1, s.2.1, sndF tg v s.2.2.1 (fun _ => true) (ec v), sndF tg v s.2.2.2.1 (fun _ => FP.dconst1) (ec v), s.2.2.2.2.1, s.2.2.2.2.2.1, s.2.2.2.2.2.2.1, s.2.2.2.2.2.2.2)
  else if dlt (coX pg mc ml v) (FP.i2d (nI nb)) then (s.1, (if deq ag FP.dconst0 then va_up s.2.1 v false else s.2.1), s.2.2.1, s.2.2.2.1, va_up s.2.2.2.2.1 v true, s.2.2.2.2.2.1, true, offX pg s.2.2.2.2.2.2.1 s.2.2.2.2.2.2.2 FP.dconst1)
  else (va_up s.1 v (coX pg mc ml v), (if deq ag FP.dconst0 then va_up s.2.1 v false else s.2.1), s.2.2.1, s.2.2.2.1, s.2.2.2.2.1, s.2.2.2.2.2.1, s.2.2.2.2.2.2.1, s.2.2.2.2.2.2.2)
def cmS (pg nb pr ss : Nat) (ag : UInt64) (ec tg : Nat → Nat) (le : Nat → UInt64) (mc : Nat → Nat) (ml : Nat → UInt64) (v : Nat) (s : PS) : PS :=
  if pg = 0 then rkS pg nb pr ss ec tg mc ml v s else if pg = 1 then neS pg nb ss ec tg le mc ml v s else if pg = 2 then grS pg ss ec tg mc ml v s else coS pg nb ss ag ec tg mc ml v s
def nag (pg ss : Nat) (ag : UInt64) (of : Bool) (ox : UInt64) : UInt64 := if pg = 3 ∧ ss % 2 = 0 then ag else if of then ox else if pg = 1 then FAR else FP.dconst0

/-- whether NEAREST offers -/
def neO (pg nb ss : Nat) (mc : Nat → Nat) (ml : Nat → UInt64) (va : Nat → UInt64) (v : Nat) : Bool := dlt (neX pg nb ss mc ml v) (ne0 ss va v v)
theorem mrg_s {pg : Nat} (h1 : pg ≠ 1) (h2 : pg ≠ 2) : ∀ a b, mrg pg a b = FP.dadd a b := fun a b => by simp [mrg, h1, h2]
theorem mrg_1 {pg : Nat} (h1 : pg = 1) : ∀ a b, mrg pg a b = if dlt b a then b else a := fun a b => by simp [mrg, h1]
theorem mrg_2 {pg : Nat} (h1 : pg = 2) : ∀ a b, mrg pg a b = if dgt b a then b else a := fun a b => by simp [mrg, h1]

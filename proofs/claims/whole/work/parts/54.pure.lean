theorem mgM_sum {pg : Nat} (h1 : pg ≠ 1) (h2 : pg ≠ 2) {f : Nat → UInt64} {x : UInt64} : ∀ {n : Nat}, mgM pg f x n = mgM 0 f x n
  | 0 => rfl
  | n + 1 => by
    have ih := mgM_sum h1 h2 (f := f) (x := x) (n := n)
    unfold mgM
    rw [ih]
    simp [mrg, h1, h2]
/-- whether CORE offers -/
def coO (pg nb ss : Nat) (mc : Nat → Nat) (ml : Nat → UInt64) (v : Nat) : Bool := decide (ss % 2 ≠ 0) && dlt (coX pg mc ml v) (FP.i2d (nI nb))
theorem dge_dlt {x y : UInt64} (hx : nu x) (hy : nu y) : dge x y = !dlt x y := by
  obtain ⟨o, ho⟩ := FP.Core.dcmp_of_notNaN ((FP.Core.notNaN_iff x).mpr hx) ((FP.Core.notNaN_iff y).mpr hy)
  unfold dge dlt
  rw [show FP.dcmp x y = FP.Core.dcmp x y from rfl, ho]
  cases o <;> rfl

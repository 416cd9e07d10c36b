/-- n places from fr on copied to to -/
def blk {α : Type} (f : Nat → α) (fr to n : Nat) : Nat → α := fun j => if to ≤ j ∧ j < to + n then f (fr + (j - to)) else f j
theorem blk_0 {α : Type} (f : Nat → α) (fr to : Nat) : blk f fr to 0 = f := by
  funext j; unfold blk; rw [if_neg (by omega)]
theorem blk_s {α : Type} (f : Nat → α) {fr to n : Nat} (h : fr + n < to ∨ to + n ≤ fr + n) : va_up (blk f fr to n) (to + n) (blk f fr to n (fr + n)) = blk f fr to (n + 1) := by
  have e : blk f fr to n (fr + n) = f (fr + n) := by unfold blk; rw [if_neg (by omega)]
  rw [e]
  funext j
  unfold va_up
  by_cases c : j = to + n
  · subst c; rw [if_pos rfl]; unfold blk; rw [if_pos (by omega)]; congr 1; omega
  · rw [if_neg c]; unfold blk
    by_cases c2 : to ≤ j ∧ j < to + n
    · rw [if_pos c2, if_pos (by omega)]
    · rw [if_neg c2, if_neg (by omega)]
section NID
variable {p : Program} {l : Launch} {e : Env} {R : Room} {s : State} {m : MethodId} {args : Array Value} {below : List Frame} {meth : Method} {c : Code} {H : Heap} {locs : List Loc} {cells slots : Nat} {Q : State → Prop} {cc : ByteArray} {pc : Nat} {ls : Array Slot} {rest : List Value}
theorem nw_idiv (hx : p.tables.exec = Jvm.exec) (hb : c.code = cc) {x y : Nat} (hx1 : x < 2 ^ 31) (hy0 : 0 < y) (hy1 : y < 2 ^ 31) (hdg : decode cc pc = .ok (.idiv, 1)) (k : W p l e R s m args below meth c H locs cells slots Q (F0 m (pc + 1) ls (.int (nI (x / y)) :: rest))) : W p l e R s m args below meth c H locs cells slots Q (F0 m pc ls (.int (nI y) :: .int (nI x) :: rest)) :=
  lv_idiv hx hb hdg (nI_ne0 hy0 hy1) (by rw [pk_div hx1 hy0 hy1]; exact k)
end NID
/-- the code that 'known' lays -/
def knC (th : Nat → Bool) (a : Int32) (rg : Bool) : Nat := if inR a (nI 0) (nI 11) = true ∧ rg = true then (if th a.toNatClampNeg then 0 else 2) else 1

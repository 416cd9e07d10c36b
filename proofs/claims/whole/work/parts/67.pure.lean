/-! a step's loop as the reference asks: who is active by the state before -/
theorem cm_aw {pg nb pr ss : Nat} {ag : UInt64} {ec tg : Nat → Nat} {le : Nat → UInt64} {mc : Nat → Nat} {ml : Nat → UInt64} {v : Nat} {s : PS} {j : Nat} (h : j ≠ v) : (cmS pg nb pr ss ag ec tg le mc ml v s).2.1 j = s.2.1 j := by
  unfold cmS rkS neS grS coS
  repeat' split
  all_goals first | rfl | (dsimp only; exact va_up_ne _ _ h) | (dsimp only; split <;> first | rfl | exact va_up_ne _ _ h)
theorem bt_aw {pg nb pr ss : Nat} {ag : UInt64} {th : Nat → Bool} {ec tg : Nat → Nat} {le : Nat → UInt64} {mc : Nat → Nat} {ml : Nat → UInt64} {s : PS} : ∀ n j, n ≤ j → (btS pg nb pr ss ag th ec tg le mc ml s n).2.1 j = s.2.1 j
  | 0, _, _ => rfl
  | n + 1, j, h => by
    have ih := bt_aw (pg := pg) (nb := nb) (pr := pr) (ss := ss) (ag := ag) (th := th) (ec := ec) (tg := tg) (le := le) (mc := mc) (ml := ml) (s := s) n j (by omega)
    unfold btS
    split
    · rw [cm_aw (by omega)]; show va_up _ n true j = _; rw [va_up_ne _ _ (by omega)]; exact ih
    · exact ih
theorem act_bt {pg nb pr ss : Nat} {ag : UInt64} {th : Nat → Bool} {ec tg : Nat → Nat} {le : Nat → UInt64} {mc : Nat → Nat} {ml : Nat → UInt64} {s : PS} {n : Nat} : act th (btS pg nb pr ss ag th ec tg le mc ml s n).2.1 mc n = act th s.2.1 mc n := by
  unfold act; rw [bt_aw n n (Nat.le_refl n)]
theorem bt_t {pg nb pr ss : Nat} {ag : UInt64} {th : Nat → Bool} {ec tg : Nat → Nat} {le : Nat → UInt64} {mc : Nat → Nat} {ml : Nat → UInt64} {s : PS} {n : Nat} (h : act th s.2.1 mc n = true) : btS pg nb pr ss ag th ec tg le mc ml s (n + 1) = cmS pg nb pr ss ag ec tg le mc ml n ((btS pg nb pr ss ag th ec tg le mc ml s n).1, va_up (btS pg nb pr ss ag th ec tg le mc ml s n).2.1 n true, (btS pg nb pr ss ag th ec tg le mc ml s n).2.2) := by
  rw [btS, act_bt, if_pos h]
theorem bt_f {pg nb pr ss : Nat} {ag : UInt64} {th : Nat → Bool} {ec tg : Nat → Nat} {le : Nat → UInt64} {mc : Nat → Nat} {ml : Nat → UInt64} {s : PS} {n : Nat} (h : act th s.2.1 mc n = false) : btS pg nb pr ss ag th ec tg le mc ml s (n + 1) = btS pg nb pr ss ag th ec tg le mc ml s n := by
  rw [btS, act_bt, h]; rfl
theorem cm_0 {pg nb pr ss : Nat} {ag : UInt64} {ec tg : Nat → Nat} {le : Nat → UInt64} {mc : Nat → Nat} {ml : Nat → UInt64} {v : Nat} {s : PS} (h : pg = 0) : cmS pg nb pr ss ag ec tg le mc ml v s = rkS pg nb pr ss ec tg mc ml v s := by rw [cmS, if_pos h]
theorem cm_1 {pg nb pr ss : Nat} {ag : UInt64} {ec tg : Nat → Nat} {le : Nat → UInt64} {mc : Nat → Nat} {ml : Nat → UInt64} {v : Nat} {s : PS} (h : pg = 1) : cmS pg nb pr ss ag ec tg le mc ml v s = neS pg nb ss ec tg le mc ml v s := by rw [cmS, if_neg (by omega), if_pos h]
theorem cm_2 {pg nb pr ss : Nat} {ag : UInt64} {ec tg : Nat → Nat} {le : Nat → UInt64} {mc : Nat → Nat} {ml : Nat → UInt64} {v : Nat} {s : PS} (h : pg = 2) : cmS pg nb pr ss ag ec tg le mc ml v s = grS pg ss ec tg mc ml v s := by rw [cmS, if_neg (by omega), if_neg (by omega), if_pos h]
theorem cm_3 {pg nb pr ss : Nat} {ag : UInt64} {ec tg : Nat → Nat} {le : Nat → UInt64} {mc : Nat → Nat} {ml : Nat → UInt64} {v : Nat} {s : PS} (h0 : pg ≠ 0) (h1 : pg ≠ 1) (h2 : pg ≠ 2) : cmS pg nb pr ss ag ec tg le mc ml v s = coS pg nb ss ag ec tg mc ml v s := by rw [cmS, if_neg h0, if_neg h1, if_neg h2]
/-- whether a vertex offers, and how many did -/
def cmO (pg nb ss : Nat) (mc : Nat → Nat) (ml : Nat → UInt64) (va : Nat → UInt64) (v : Nat) : Bool := if pg = 0 then true else if pg = 1 then neO pg nb ss mc ml va v else if pg = 2 then true else coO pg nb ss mc ml v
def ocS (pg nb pr ss : Nat) (ag : UInt64) (th : Nat → Bool) (ec tg : Nat → Nat) (le : Nat → UInt64) (mc : Nat → Nat) (ml : Nat → UInt64) (s : PS) : Nat → Nat
  | 0 => 0
  | n + 1 => if act th s.2.1 mc n then (if cmO pg nb ss mc ml (btS pg nb pr ss ag th ec tg le mc ml s n).1 n then ocS pg nb pr ss ag th ec tg le mc ml s n + 1 else ocS pg nb pr ss ag th ec tg le mc ml s n) else ocS pg nb pr ss ag th ec tg le mc ml s n
theorem oc_le {pg nb pr ss : Nat} {ag : UInt64} {th : Nat → Bool} {ec tg : Nat → Nat} {le : Nat → UInt64} {mc : Nat → Nat} {ml : Nat → UInt64} {s : PS} : ∀ n, ocS pg nb pr ss ag th ec tg le mc ml s n ≤ n
  | 0 => Nat.le_refl 0
  | n + 1 => by
    have := oc_le (pg := pg) (nb := nb) (pr := pr) (ss := ss) (ag := ag) (th := th) (ec := ec) (tg := tg) (le := le) (mc := mc) (ml := ml) (s := s) n
    unfold ocS
    repeat' split
    all_goals omega
theorem cm_of {pg nb pr ss : Nat} {ag : UInt64} {ec tg : Nat → Nat} {le : Nat → UInt64} {mc : Nat → Nat} {ml : Nat → UInt64} {v : Nat} {s : PS} : (cmS pg nb pr ss ag ec tg le mc ml v s).2.2.2.2.2.2.1 = (cmO pg nb ss mc ml s.1 v || s.2.2.2.2.2.2.1) := by
  unfold cmS cmO
  by_cases h0 : pg = 0
  · rw [if_pos h0, if_pos h0]; rfl
  · rw [if_neg h0, if_neg h0]
    by_cases h1 : pg = 1
    · rw [if_pos h1, if_pos h1]; unfold neS neO
      cases hd : dlt (neX pg nb ss mc ml v) (ne0 ss s.1 v v)
      · rfl
      · rfl
    · rw [if_neg h1, if_neg h1]
      by_cases h2 : pg = 2
      · rw [if_pos h2, if_pos h2]; rfl
      · rw [if_neg h2, if_neg h2]; unfold coS coO
        by_cases hs : ss % 2 = 0
        · rw [if_pos hs]; simp [hs]
        · rw [if_neg hs]
          cases hd : dlt (coX pg mc ml v) (FP.i2d (nI nb))
          · simp
          · simp [hs]
theorem oc_of {pg nb pr ss : Nat} {ag : UInt64} {th : Nat → Bool} {ec tg : Nat → Nat} {le : Nat → UInt64} {mc : Nat → Nat} {ml : Nat → UInt64} {s : PS} (h0 : s.2.2.2.2.2.2.1 = false) : ∀ n, decide (ocS pg nb pr ss ag th ec tg le mc ml s n ≠ 0) = (btS pg nb pr ss ag th ec tg le mc ml s n).2.2.2.2.2.2.1
  | 0 => by rw [btS, h0]; rfl
  | n + 1 => by
    have ih := oc_of (pg := pg) (nb := nb) (pr := pr) (ss := ss) (ag := ag) (th := th) (ec := ec) (tg := tg) (le := le) (mc := mc) (ml := ml) (s := s) h0 n
    cases ha : act th s.2.1 mc n with
    | false => rw [bt_f ha, ← ih, ocS, ha]; rfl
    | true =>
      rw [bt_t ha, cm_of, ocS, ha]
      show decide ((if cmO pg nb ss mc ml (btS pg nb pr ss ag th ec tg le mc ml s n).1 n = true then _ else _) ≠ 0) = (cmO pg nb ss mc ml (btS pg nb pr ss ag th ec tg le mc ml s n).1 n || (btS pg nb pr ss ag th ec tg le mc ml s n).2.2.2.2.2.2.1)
      rw [← ih]
      cases hc : cmO pg nb ss mc ml (btS pg nb pr ss ag th ec tg le mc ml s n).1 n
      · simp
      · simp
theorem oc_f {pg nb pr ss : Nat} {ag : UInt64} {th : Nat → Bool} {ec tg : Nat → Nat} {le : Nat → UInt64} {mc : Nat → Nat} {ml : Nat → UInt64} {s : PS} {n : Nat} (h : act th s.2.1 mc n = false) : ocS pg nb pr ss ag th ec tg le mc ml s (n + 1) = ocS pg nb pr ss ag th ec tg le mc ml s n := by
  rw [ocS, h]; rfl
theorem oc_t {pg nb pr ss : Nat} {ag : UInt64} {th : Nat → Bool} {ec tg : Nat → Nat} {le : Nat → UInt64} {mc : Nat → Nat} {ml : Nat → UInt64} {s : PS} {n : Nat} (h : act th s.2.1 mc n = true) : ocS pg nb pr ss ag th ec tg le mc ml s (n + 1) = if cmO pg nb ss mc ml (btS pg nb pr ss ag th ec tg le mc ml s n).1 n then ocS pg nb pr ss ag th ec tg le mc ml s n + 1 else ocS pg nb pr ss ag th ec tg le mc ml s n := by
  rw [ocS, if_pos h]
theorem cmO_0 {pg nb ss : Nat} {mc : Nat → Nat} {ml : Nat → UInt64} {va : Nat → UInt64} {v : Nat} (h : pg = 0) : cmO pg nb ss mc ml va v = true := by rw [cmO, if_pos h]
theorem cmO_1 {pg nb ss : Nat} {mc : Nat → Nat} {ml : Nat → UInt64} {va : Nat → UInt64} {v : Nat} (h : pg = 1) : cmO pg nb ss mc ml va v = neO pg nb ss mc ml va v := by rw [cmO, if_neg (by omega), if_pos h]
theorem cmO_2 {pg nb ss : Nat} {mc : Nat → Nat} {ml : Nat → UInt64} {va : Nat → UInt64} {v : Nat} (h : pg = 2) : cmO pg nb ss mc ml va v = true := by rw [cmO, if_neg (by omega), if_neg (by omega), if_pos h]
theorem cmO_3 {pg nb ss : Nat} {mc : Nat → Nat} {ml : Nat → UInt64} {va : Nat → UInt64} {v : Nat} (h0 : pg ≠ 0) (h1 : pg ≠ 1) (h2 : pg ≠ 2) : cmO pg nb ss mc ml va v = coO pg nb ss mc ml v := by rw [cmO, if_neg h0, if_neg h1, if_neg h2]
/-- values change at the vertex alone -/
theorem cm_va {pg nb pr ss : Nat} {ag : UInt64} {ec tg : Nat → Nat} {le : Nat → UInt64} {mc : Nat → Nat} {ml : Nat → UInt64} {v : Nat} {s : PS} {j : Nat} (h : j ≠ v) : (cmS pg nb pr ss ag ec tg le mc ml v s).1 j = s.1 j := by
  unfold cmS
  by_cases h0 : pg = 0
  · rw [if_pos h0]; exact va_up_ne _ _ h
  · rw [if_neg h0]
    by_cases h1 : pg = 1
    · rw [if_pos h1]; unfold neS
      have e : ne0 ss s.1 v j = s.1 j := by
        unfold ne0; split
        · exact va_up_ne _ _ h
        · rfl
      split
      · show va_up _ v _ j = _; rw [va_up_ne _ _ h]; exact e
      · exact e
    · rw [if_neg h1]
      by_cases h2 : pg = 2
      · rw [if_pos h2]; exact va_up_ne _ _ h
      · rw [if_neg h2]; unfold coS
        split
        · rfl
        · split
          · rfl
          · exact va_up_ne _ _ h
theorem bt_va {pg nb pr ss : Nat} {ag : UInt64} {th : Nat → Bool} {ec tg : Nat → Nat} {le : Nat → UInt64} {mc : Nat → Nat} {ml : Nat → UInt64} {s : PS} : ∀ n j, n ≤ j → (btS pg nb pr ss ag th ec tg le mc ml s n).1 j = s.1 j
  | 0, _, _ => rfl
  | n + 1, j, h => by
    have ih := bt_va (pg := pg) (nb := nb) (pr := pr) (ss := ss) (ag := ag) (th := th) (ec := ec) (tg := tg) (le := le) (mc := mc) (ml := ml) (s := s) n j (by omega)
    unfold btS
    split
    · rw [cm_va (by omega)]; exact ih
    · exact ih

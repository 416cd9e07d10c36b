/-! the class's edge counts out of the reference's: none where a vertex isn't there -/
def ecN (th : Nat → Bool) (ec : Nat → Nat) : Nat → Nat := fun j => if th j then ec j else 0
theorem ecN_t {th : Nat → Bool} {ec : Nat → Nat} {j : Nat} (h : th j = true) : ecN th ec j = ec j := by unfold ecN; rw [if_pos h]
theorem ecN_f {th : Nat → Bool} {ec : Nat → Nat} {j : Nat} (h : th j = false) : ecN th ec j = 0 := by unfold ecN; rw [h]; rfl
theorem ecN_le {th : Nat → Bool} {ec : Nat → Nat} (h : ∀ j, ec j ≤ 12) (j : Nat) : ecN th ec j ≤ 12 := by
  unfold ecN; split
  · exact h j
  · exact Nat.zero_le _
theorem ecN_up {th : Nat → Bool} {ec : Nat → Nat} {v : Nat} : va_up (ecN th ec) v 0 = ecN (va_up th v false) ec := by
  funext j
  by_cases c : j = v
  · subst c; rw [va_up_self, ecN_f (va_up_self _ _ _)]
  · rw [va_up_ne _ _ c]; unfold ecN; rw [va_up_ne _ _ c]
theorem cm_ec {pg nb pr ss : Nat} {ag : UInt64} {ec ec' tg : Nat → Nat} {le : Nat → UInt64} {mc : Nat → Nat} {ml : Nat → UInt64} {v : Nat} {s : PS} (h : ec v = ec' v) : cmS pg nb pr ss ag ec tg le mc ml v s = cmS pg nb pr ss ag ec' tg le mc ml v s := by
  simp only [cmS, rkS, neS, grS, coS, h]
theorem bt_ec {pg nb pr ss : Nat} {ag : UInt64} {th : Nat → Bool} {ec ec' tg : Nat → Nat} {le : Nat → UInt64} {mc : Nat → Nat} {ml : Nat → UInt64} {s : PS} (h : ∀ j, th j = true → ec j = ec' j) : ∀ n, btS pg nb pr ss ag th ec tg le mc ml s n = btS pg nb pr ss ag th ec' tg le mc ml s n
  | 0 => rfl
  | n + 1 => by
    have ih := bt_ec (pg := pg) (nb := nb) (pr := pr) (ss := ss) (ag := ag) (tg := tg) (le := le) (mc := mc) (ml := ml) (s := s) h n
    cases ha : act th s.2.1 mc n with
    | false => rw [bt_f ha, bt_f ha]; exact ih
    | true => rw [bt_t ha, bt_t ha, ih]; exact cm_ec (h n (act_th ha))
/-- the same but for the offers, and those too where there are any -/
def eqX (s s' : PS) : Prop := ∃ o, s' = (s.1, s.2.1, s.2.2.1, s.2.2.2.1, s.2.2.2.2.1, s.2.2.2.2.2.1, s.2.2.2.2.2.2.1, o) ∧ (s.2.2.2.2.2.2.1 = true → s.2.2.2.2.2.2.2 = o)
theorem cm_ox {pg nb pr ss : Nat} {ag : UInt64} {ec tg : Nat → Nat} {le : Nat → UInt64} {mc : Nat → Nat} {ml : Nat → UInt64} {v : Nat} {s s' : PS} (h : eqX s s') : eqX (cmS pg nb pr ss ag ec tg le mc ml v s) (cmS pg nb pr ss ag ec tg le mc ml v s') := by
  obtain ⟨o, rfl, h⟩ := h
  obtain ⟨a, b, c, d, e, f, g, x⟩ := s
  have h : g = true → x = o := h
  have hoff : ∀ y, offX pg g o y = offX pg g x y := fun y => by
    unfold offX
    cases g
    · rfl
    · rw [h rfl]
  by_cases h0 : pg = 0
  · rw [cm_0 h0, cm_0 h0]
    refine ⟨_, ?_, fun _ => rfl⟩
    simp only [rkS, hoff]
  · by_cases h1 : pg = 1
    · rw [cm_1 h1, cm_1 h1]
      simp only [neS, hoff]
      cases hd : dlt (neX pg nb ss mc ml v) (ne0 ss a v v)
      · exact ⟨_, rfl, h⟩
      · exact ⟨_, rfl, fun _ => rfl⟩
    · by_cases h2 : pg = 2
      · rw [cm_2 h2, cm_2 h2]
        refine ⟨_, ?_, fun _ => rfl⟩
        simp only [grS, hoff]
      · rw [cm_3 h0 h1 h2, cm_3 h0 h1 h2]
        simp only [coS, hoff]
        by_cases hs : ss % 2 = 0
        · rw [if_pos hs, if_pos hs]; exact ⟨_, rfl, h⟩
        · rw [if_neg hs, if_neg hs]
          cases hd : dlt (coX pg mc ml v) (FP.i2d (nI nb))
          · exact ⟨_, rfl, h⟩
          · exact ⟨_, rfl, fun _ => rfl⟩
theorem bt_ox {pg nb pr ss : Nat} {ag : UInt64} {th : Nat → Bool} {ec tg : Nat → Nat} {le : Nat → UInt64} {mc : Nat → Nat} {ml : Nat → UInt64} {s s' : PS} (h : eqX s s') : ∀ n, eqX (btS pg nb pr ss ag th ec tg le mc ml s n) (btS pg nb pr ss ag th ec tg le mc ml s' n)
  | 0 => h
  | n + 1 => by
    have ih := bt_ox (pg := pg) (nb := nb) (pr := pr) (ss := ss) (ag := ag) (th := th) (ec := ec) (tg := tg) (le := le) (mc := mc) (ml := ml) h n
    have e : s'.2.1 = s.2.1 := by obtain ⟨o, rfl, -⟩ := h; rfl
    cases ha : act th s.2.1 mc n with
    | false => rw [bt_f ha, bt_f (s := s') (by rw [e]; exact ha)]; exact ih
    | true =>
      rw [bt_t ha, bt_t (s := s') (by rw [e]; exact ha)]
      refine cm_ox ?_
      obtain ⟨o, e1, e2⟩ := ih
      rw [e1]
      exact ⟨o, rfl, e2⟩
theorem nag_ox {pg ss : Nat} {ag : UInt64} {of : Bool} {x o : UInt64} (h : of = true → x = o) : nag pg ss ag of x = nag pg ss ag of o := by
  unfold nag
  cases of
  · rfl
  · rw [h rfl]
/-! the class's drop against the reference's -/
theorem plc_n {th : Nat → Bool} {E T : Nat → Nat} {n v : Nat} (h : th n = true) : plc (ecN th E) T n v = plc E T n v := by unfold plc; rw [ecN_t h]
theorem cutF_n {α : Type} {th : Nat → Bool} {E T : Nat → Nat} {f : Nat → α} {n v : Nat} (h : th n = true) : cutF (ecN th E) T f n v = cutF E T f n v := by unfold cutF; rw [plc_n h, ecN_t h]
theorem cutR_n {th : Nat → Bool} {E T : Nat → Nat} {n v : Nat} (h : th n = true) : cutR (ecN th E) T n v = cutR E T n v := by unfold cutR; rw [plc_n h, ecN_t h]
theorem cutEc_n {th : Nat → Bool} {E T : Nat → Nat} {n v : Nat} (h : th n = true) : cutEc (ecN th E) T n v = ecN th (cutEc E T n v) := by
  unfold cutEc; rw [plc_n h, ecN_t h]
  split
  · rfl
  · funext j
    by_cases c : j = n
    · subst c; rw [va_up_self, ecN_t h, va_up_self]
    · rw [va_up_ne _ _ c]; unfold ecN; rw [va_up_ne _ _ c]
theorem plc_0 {E T : Nat → Nat} {n v : Nat} (h : E n = 0) : plc E T n v = E n := by unfold plc; rw [h]; rfl
theorem drop_tak {th : Nat → Bool} {E T : Nat → Nat} {L : Nat → UInt64} {v : Nat} (hv : th v = false) : ∀ n, dropS (ecN th E) T L v n = (ecN th (takS th E T L v n).1, (takS th E T L v n).2.1, (takS th E T L v n).2.2) ∧ dropC (ecN th E) T L v n = takC th E T L v n
  | 0 => ⟨rfl, rfl⟩
  | n + 1 => by
    obtain ⟨i1, i2⟩ := drop_tak (E := E) (T := T) (L := L) hv n
    unfold dropS dropC takS takC
    rw [i1, i2]
    cases ht : th n with
    | true =>
      have hne : n ≠ v := fun q => by rw [q, hv] at ht; cases ht
      rw [if_neg hne, if_neg hne, if_pos rfl, if_pos rfl]
      dsimp only
      rw [cutEc_n ht, cutF_n ht, cutF_n ht, cutR_n ht]
      exact ⟨rfl, rfl⟩
    | false =>
      have e0 : ecN th (takS th E T L v n).1 n = 0 := ecN_f ht
      have ep := plc_0 (T := (takS th E T L v n).2.1) (v := v) e0
      dsimp only
      have c1 : cutEc (ecN th (takS th E T L v n).1) (takS th E T L v n).2.1 n v = ecN th (takS th E T L v n).1 := by unfold cutEc; rw [if_pos ep]
      have c2 : cutF (ecN th (takS th E T L v n).1) (takS th E T L v n).2.1 (takS th E T L v n).2.1 n v = (takS th E T L v n).2.1 := by unfold cutF; rw [if_pos ep]
      have c3 : cutF (ecN th (takS th E T L v n).1) (takS th E T L v n).2.1 (takS th E T L v n).2.2 n v = (takS th E T L v n).2.2 := by unfold cutF; rw [if_pos ep]
      have c4 : cutR (ecN th (takS th E T L v n).1) (takS th E T L v n).2.1 n v = false := by unfold cutR; rw [ep]; simp
      rw [c1, c2, c3, c4]
      by_cases hn : n = v
      · rw [if_pos hn, if_pos hn]; exact ⟨rfl, rfl⟩
      · rw [if_neg hn, if_neg hn]; exact ⟨rfl, rfl⟩
theorem drop1_tak {k : Nat} {th : Nat → Bool} {E T : Nat → Nat} {L : Nat → UInt64} {aw : Nat → Bool} {mc mc' : Nat → Nat} {v : Nat} : drop1 k (th, ecN th E, T, L, aw, mc) v = ((tak1 k (th, E, T, L, aw, mc') v).1, ecN (tak1 k (th, E, T, L, aw, mc') v).1 (tak1 k (th, E, T, L, aw, mc') v).2.1, (tak1 k (th, E, T, L, aw, mc') v).2.2.1, (tak1 k (th, E, T, L, aw, mc') v).2.2.2.1, (tak1 k (th, E, T, L, aw, mc') v).2.2.2.2.1, va_up mc v 0) := by
  unfold drop1 tak1
  dsimp only
  rw [ecN_up, (drop_tak (E := E) (T := T) (L := L) (va_up_self th v false) k).1]
theorem drm_drk {rm th : Nat → Bool} {E T : Nat → Nat} {L : Nat → UInt64} {aw : Nat → Bool} {mc mc' : Nat → Nat} (hm : ∀ j, j < 12 → mc j = mc' j) : ∀ n, ∃ m2 : Nat → Nat, drmS rm (th, ecN th E, T, L, aw, mc) n = ((drkS rm (th, E, T, L, aw, mc') n).1, ecN (drkS rm (th, E, T, L, aw, mc') n).1 (drkS rm (th, E, T, L, aw, mc') n).2.1, (drkS rm (th, E, T, L, aw, mc') n).2.2.1, (drkS rm (th, E, T, L, aw, mc') n).2.2.2.1, (drkS rm (th, E, T, L, aw, mc') n).2.2.2.2.1, m2) ∧ ∀ j, j < 12 → m2 j = (drkS rm (th, E, T, L, aw, mc') n).2.2.2.2.2 j
  | 0 => ⟨mc, rfl, hm⟩
  | n + 1 => by
    obtain ⟨m2, e1, e2⟩ := drm_drk (rm := rm) (th := th) (E := E) (T := T) (L := L) (aw := aw) hm n
    cases h : rm n with
    | false => rw [drmS_f h, drkS_f h]; exact ⟨m2, e1, e2⟩
    | true =>
      rw [drmS_t h, drkS_t h, e1]
      refine ⟨va_up m2 n 0, drop1_tak (mc' := (drkS rm (th, E, T, L, aw, mc') n).2.2.2.2.2), fun j hj => ?_⟩
      show va_up m2 n 0 j = va_up (drkS rm (th, E, T, L, aw, mc') n).2.2.2.2.2 n 0 j
      by_cases c : j = n
      · subst c; rw [va_up_self, va_up_self]
      · rw [va_up_ne _ _ c, va_up_ne _ _ c]; exact e2 j hj
theorem anyAct_eq {th aw : Nat → Bool} {mc mc' : Nat → Nat} : ∀ n, (∀ j, j < n → mc j = mc' j) → anyAct th aw mc n = anyAct th aw mc' n
  | 0, _ => rfl
  | n + 1, h => by
    unfold anyAct act
    rw [anyAct_eq n (fun j hj => h j (by omega)), h n (by omega)]
theorem rcv_eq {cb : Bool} {fi : Nat → Bool} {mc mc' : Nat → Nat} : ∀ j, j < 12 → (if cb then dcC fi mc 12 else dlvC fi mc 12) j = (if cb then dcC fi mc' 12 else dlvC fi mc' 12) j := by
  have a : ∀ n j, j < n → dcC fi mc n j = dcC fi mc' n j := by
    intro n; induction n with
    | zero => intro j hj; omega
    | succ n ih =>
      intro j hj; unfold dcC
      by_cases c : j = n
      · subst c; rw [va_up_self, va_up_self]
      · rw [va_up_ne _ _ c, va_up_ne _ _ c]; exact ih j (by omega)
  have b : ∀ n j, j < n → dlvC fi mc n j = dlvC fi mc' n j := by
    intro n; induction n with
    | zero => intro j hj; omega
    | succ n ih =>
      intro j hj; unfold dlvC
      by_cases c : j = n
      · subst c; rw [va_up_self, va_up_self]
      · rw [va_up_ne _ _ c, va_up_ne _ _ c]; exact ih j (by omega)
  intro j hj
  cases cb
  · exact b 12 j hj
  · exact a 12 j hj
/-! the reference's state: there, values, edge counts, targets, lengths, awake, mail counts, mail, superstep, aggregate, status, letters, letters there, gone -/
abbrev RS : Type := (Nat → Bool) × (Nat → UInt64) × (Nat → Nat) × (Nat → Nat) × (Nat → UInt64) × (Nat → Bool) × (Nat → Nat) × (Nat → UInt64) × (Nat → Nat) × (Nat → UInt64) × Nat × (Nat → UInt64) × (Nat → Bool) × (Nat → Bool)
def rB (pg nb : Nat) (y : RS) : PS := btS pg nb (cnt y.1 12) (y.2.2.2.2.2.2.2.2.1 0) (y.2.2.2.2.2.2.2.2.2.1 0) y.1 y.2.2.1 y.2.2.2.1 y.2.2.2.2.1 y.2.2.2.2.2.2.1 y.2.2.2.2.2.2.2.1 (y.2.1, y.2.2.2.2.2.1, fun _ => false, y.2.2.2.2.2.2.2.2.2.2.2.1, fun _ => false, false, false, FP.dconst0) 12
def rD (pg nb : Nat) (cb : Bool) (y : RS) : DS := drkS (rB pg nb y).2.2.2.2.1 (y.1, y.2.2.1, y.2.2.2.1, y.2.2.2.2.1, (rB pg nb y).2.1, if cb then dcC (rB pg nb y).2.2.1 y.2.2.2.2.2.2.1 12 else dlvC (rB pg nb y).2.2.1 y.2.2.2.2.2.2.1 12) 12
/-- one step -/
def rS (pg nb : Nat) (cb : Bool) (y : RS) : RS :=
  if (rB pg nb y).2.2.2.2.2.1 then (y.1, y.2.1, y.2.2.1, y.2.2.2.1, y.2.2.2.2.1, y.2.2.2.2.2.1, y.2.2.2.2.2.2.1, y.2.2.2.2.2.2.2.1, y.2.2.2.2.2.2.2.2.1, y.2.2.2.2.2.2.2.2.2.1, 2, (rB pg nb y).2.2.2.1, (rB pg nb y).2.2.1, (rB pg nb y).2.2.2.2.1)
  else ((rD pg nb cb y).1, (rB pg nb y).1, (rD pg nb cb y).2.1, (rD pg nb cb y).2.2.1, (rD pg nb cb y).2.2.2.1, (rD pg nb cb y).2.2.2.2.1, (rD pg nb cb y).2.2.2.2.2, (if cb then dcM pg (rB pg nb y).2.2.1 (rB pg nb y).2.2.2.1 y.2.2.2.2.2.2.2.1 12 else dlvM (rB pg nb y).2.2.1 (rB pg nb y).2.2.2.1 y.2.2.2.2.2.2.2.1 12), va_up y.2.2.2.2.2.2.2.2.1 0 (y.2.2.2.2.2.2.2.2.1 0 + 1), va_up y.2.2.2.2.2.2.2.2.2.1 0 (nag pg (y.2.2.2.2.2.2.2.2.1 0) (y.2.2.2.2.2.2.2.2.2.1 0) (rB pg nb y).2.2.2.2.2.2.1 (rB pg nb y).2.2.2.2.2.2.2), (if anyAct (rD pg nb cb y).1 (rD pg nb cb y).2.2.2.2.1 (rD pg nb cb y).2.2.2.2.2 12 then 1 else 0), (rB pg nb y).2.2.2.1, (rB pg nb y).2.2.1, (rB pg nb y).2.2.2.2.1)
/-- n steps at the most, as long as it runs; and how many were done -/
def rRun (pg nb : Nat) (cb : Bool) : Nat → RS → RS
  | 0, y => y
  | n + 1, y => if y.2.2.2.2.2.2.2.2.2.2.1 = 1 then rRun pg nb cb n (rS pg nb cb y) else y
def rDone (pg nb : Nat) (cb : Bool) : Nat → RS → Nat
  | 0, _ => 0
  | n + 1, y => if y.2.2.2.2.2.2.2.2.2.2.1 = 1 then rDone pg nb cb n (rS pg nb cb y) + 1 else 0
theorem bt_va0 {pg nb pr ss : Nat} {ag : UInt64} {th : Nat → Bool} {ec tg : Nat → Nat} {le : Nat → UInt64} {mc : Nat → Nat} {ml : Nat → UInt64} {s : PS} {va : Nat → UInt64} (h : s.1 = va) (n : Nat) : mix n (btS pg nb pr ss ag th ec tg le mc ml s n).1 va = (btS pg nb pr ss ag th ec tg le mc ml s n).1 := by
  funext j; unfold mix; split
  · rfl
  · rw [bt_va n j (by omega), h]
theorem bt_aw0 {pg nb pr ss : Nat} {ag : UInt64} {th : Nat → Bool} {ec tg : Nat → Nat} {le : Nat → UInt64} {mc : Nat → Nat} {ml : Nat → UInt64} {s : PS} {aw : Nat → Bool} (h : s.2.1 = aw) (n : Nat) : mix n (btS pg nb pr ss ag th ec tg le mc ml s n).2.1 aw = (btS pg nb pr ss ag th ec tg le mc ml s n).2.1 := by
  funext j; unfold mix; split
  · rfl
  · rw [bt_aw n j (by omega), h]

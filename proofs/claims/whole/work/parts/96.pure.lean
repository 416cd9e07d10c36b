/-! a vertex taken: rows, and what lies above -/
/-- the rows of those there, the first n without v -/
def tkI (th : Nat → Bool) (E0 T0 : Nat → Nat) (v n : Nat) (E T : Nat → Nat) : Prop := ∀ r, r < 12 → th r = true → rowD E T r ∧ (∀ i, i < E r → (∃ i', i' < E0 r ∧ T (r * 12 + i) = T0 (r * 12 + i')) ∧ (r < n → T (r * 12 + i) ≠ v))
theorem tak_row {th : Nat → Bool} {E T : Nat → Nat} {L : Nat → UInt64} {v : Nat} (hE : ∀ j, E j ≤ 12) (hv : th v = false) (hT : ∀ j, T j < 12) (hD : ∀ r, r < 12 → th r = true → rowD E T r) : ∀ n, tkI th E T v n (takS th E T L v n).1 (takS th E T L v n).2.1
  | 0 => fun r hr ht => ⟨hD r hr ht, fun i hi => ⟨⟨i, hi, rfl⟩, fun h => absurd h (Nat.not_lt_zero _)⟩⟩
  | n + 1 => by
    have ih := tak_row (L := L) hE hv hT hD n
    have hI := (takS_inv (th := th) (le := L) (v := v) hE hT n).1
    unfold takS
    by_cases hn : n = v
    · rw [if_pos hn]
      intro r hr ht
      obtain ⟨a, b⟩ := ih r hr ht
      have hne : r ≠ n := fun q => by rw [q, hn, hv] at ht; cases ht
      exact ⟨a, fun i hi => ⟨(b i hi).1, fun h => (b i hi).2 (by omega)⟩⟩
    · rw [if_neg hn]
      cases hth : th n with
      | false =>
        show tkI th E T v (n + 1) (takS th E T L v n).1 (takS th E T L v n).2.1
        intro r hr ht
        obtain ⟨a, b⟩ := ih r hr ht
        have hne : r ≠ n := fun q => by rw [q, hth] at ht; cases ht
        exact ⟨a, fun i hi => ⟨(b i hi).1, fun h => (b i hi).2 (by omega)⟩⟩
      | true =>
        rw [if_pos rfl]
        dsimp only
        generalize (takS th E T L v n).1 = E1 at ih hI
        generalize (takS th E T L v n).2.1 = T1 at ih
        intro r hr ht
        obtain ⟨a, b⟩ := ih r hr ht
        by_cases hne : r = n
        · subst hne
          obtain ⟨c1, c2⟩ := cut_row (v := v) a
          refine ⟨c2, fun i hi => ?_⟩
          obtain ⟨d1, i', d2, d3⟩ := c1 i hi
          obtain ⟨⟨i2, f1, f2⟩, -⟩ := b i' d2
          exact ⟨⟨i2, f1, d3.trans f2⟩, fun _ => d1⟩
        · have hl := hI r
          have e1 : cutEc E1 T1 n v r = E1 r := cutEc_o hne
          have e2 : ∀ i, i < E1 r → cutF E1 T1 T1 n v (r * 12 + i) = T1 (r * 12 + i) := fun i hi => cutF_o (hI n) (by omega)
          refine ⟨fun i j hij hj => ?_, fun i hi => ?_⟩
          · rw [e1] at hj; rw [e2 i (by omega), e2 j hj]; exact a i j hij hj
          · rw [e1] at hi; rw [e2 i hi]
            exact ⟨(b i hi).1, fun h => (b i hi).2 (by omega)⟩
theorem tak_up {th : Nat → Bool} {E T : Nat → Nat} {L : Nat → UInt64} {v : Nat} (hE : ∀ j, E j ≤ 12) (hT : ∀ j, T j < 12) : ∀ n, (∀ j, n ≤ j → (takS th E T L v n).1 j = E j) ∧ (∀ q, n * 12 ≤ q → (takS th E T L v n).2.1 q = T q) ∧ ∀ q, n * 12 ≤ q → (takS th E T L v n).2.2 q = L q
  | 0 => ⟨fun _ _ => rfl, fun _ _ => rfl, fun _ _ => rfl⟩
  | n + 1 => by
    obtain ⟨a, b, c⟩ := tak_up (th := th) (L := L) (v := v) hE hT n
    have hI := (takS_inv (th := th) (le := L) (v := v) hE hT n).1
    unfold takS
    split
    · exact ⟨fun j hj => a j (by omega), fun q hq => b q (by omega), fun q hq => c q (by omega)⟩
    · split
      · exact ⟨fun j hj => (cutEc_o (by omega)).trans (a j (by omega)), fun q hq => (cutF_o (hI n) (by omega)).trans (b q (by omega)), fun q hq => (cutF_o (hI n) (by omega)).trans (c q (by omega))⟩
      · exact ⟨fun j hj => a j (by omega), fun q hq => b q (by omega), fun q hq => c q (by omega)⟩
theorem tak_fn {th : Nat → Bool} {E T : Nat → Nat} {L : Nat → UInt64} {v : Nat} {P : UInt64 → Prop} (h : ∀ j, P (L j)) : ∀ n j, P ((takS th E T L v n).2.2 j)
  | 0, j => h j
  | n + 1, j => by
    have ih := tak_fn (th := th) (E := E) (T := T) (v := v) h n
    unfold takS
    split
    · exact ih j
    · split
      · exact cutF_all ih j
      · exact ih j
/-- rows of those there: apart, and to those there; no mail where none is there -/
def wfB (b : Nat) (th : Nat → Bool) (E T mc : Nat → Nat) : Prop :=
  (∀ v i, v < 12 → i < E (b + v) → th (b + v) = true → th (b + T ((b + v) * 12 + i)) = true) ∧ (∀ v, v < 12 → th (b + v) = true → rowD E T (b + v)) ∧ ∀ v, v < 12 → th (b + v) = false → mc (b + v) = 0
def wfM (pg b : Nat) (mc : Nat → Nat) (ml : Nat → UInt64) : Prop := ∀ v j, v < 12 → j < mc (b + v) → prP pg (ml ((b + v) * 12 + j))
/-- rows, mail counts behind a removal -/
def dsI (s : DS) : Prop := (∀ j, s.2.1 j ≤ 12) ∧ (∀ j, s.2.2.1 j < 12) ∧ (∀ j, fn (s.2.2.2.1 j)) ∧ (∀ j, s.2.2.2.2.2 j ≤ 12) ∧ wfB 0 s.1 s.2.1 s.2.2.1 s.2.2.2.2.2
theorem tak1_I {k : Nat} {s : DS} {v : Nat} (hk : k = 12) (hv : v < 12) (h : dsI s) : dsI (tak1 k s v) := by
  obtain ⟨th, E, T, L, aw, mc⟩ := s
  obtain ⟨h1, h2, h3, h4, h5, h6, h7⟩ := h
  dsimp only at h1 h2 h3 h4 h5 h6 h7
  have hvf := va_up_self th v false
  have hsub : ∀ r, va_up th v false r = true → th r = true := fun r hr => by
    by_cases c : r = v
    · rw [c, hvf] at hr; cases hr
    · rw [va_up_ne _ _ c] at hr; exact hr
  have e0 : ∀ r, 0 + r = r := Nat.zero_add
  have hr := tak_row (th := va_up th v false) (L := L) h1 hvf h2 (fun r hr ht => by have := h6 r hr (by rw [e0]; exact hsub r ht); rw [e0] at this; exact this) k
  have hi := takS_inv (th := va_up th v false) (le := L) (v := v) h1 h2 k
  refine ⟨hi.1, hi.2, tak_fn h3 k, va_up_all (P := fun z => z ≤ 12) h4 (Nat.zero_le _), ?_, ?_, ?_⟩
  · intro r i hr12 hir hth
    simp only [e0] at hir hth ⊢
    obtain ⟨-, b⟩ := hr r hr12 hth
    obtain ⟨⟨i', f1, f2⟩, f3⟩ := b i hir
    have hne := f3 (by omega)
    have g : th (T (r * 12 + i')) = true := by have := h5 r i' hr12 (by rw [e0]; exact f1) (by rw [e0]; exact hsub r hth); simp only [e0] at this; exact this
    show va_up th v false _ = true
    have e9 : (tak1 k (th, E, T, L, aw, mc) v).2.2.1 (r * 12 + i) = T (r * 12 + i') := f2
    rw [e9, va_up_ne _ _ (by rw [← f2]; exact hne)]; exact g
  · intro r hr12 hth
    rw [e0] at hth ⊢
    exact (hr r hr12 hth).1
  · intro r hr12 hth
    rw [e0] at hth ⊢
    show va_up mc v 0 r = 0
    by_cases c : r = v
    · rw [c, va_up_self]
    · rw [va_up_ne _ _ c]
      have hth : va_up th v false r = false := hth
      rw [va_up_ne _ _ c] at hth
      have := h7 r hr12 (by rw [e0]; exact hth)
      rw [e0] at this; exact this
theorem drk_I {rm : Nat → Bool} {s : DS} (h : dsI s) : ∀ n, n ≤ 12 → dsI (drkS rm s n)
  | 0, _ => h
  | n + 1, hn => by
    have ih := drk_I (rm := rm) h n (by omega)
    cases hr : rm n with
    | true => rw [drkS_t hr]; exact tak1_I rfl (by omega) ih
    | false => rw [drkS_f hr]; exact ih
/-- what lies above the first 12 stays -/
def dsU (s t : DS) : Prop := (∀ j, 12 ≤ j → t.1 j = s.1 j) ∧ (∀ j, 12 ≤ j → t.2.1 j = s.2.1 j) ∧ (∀ j, 144 ≤ j → t.2.2.1 j = s.2.2.1 j) ∧ (∀ j, 144 ≤ j → t.2.2.2.1 j = s.2.2.2.1 j) ∧ (∀ j, 12 ≤ j → t.2.2.2.2.1 j = s.2.2.2.2.1 j) ∧ ∀ j, 12 ≤ j → t.2.2.2.2.2 j = s.2.2.2.2.2 j
theorem tak1_U {k : Nat} {s : DS} {v : Nat} (hk : k = 12) (hv : v < 12) (h1 : ∀ j, s.2.1 j ≤ 12) (h2 : ∀ j, s.2.2.1 j < 12) : dsU s (tak1 k s v) := by
  obtain ⟨a, b, c⟩ := tak_up (th := va_up s.1 v false) (L := s.2.2.2.1) (v := v) h1 h2 k
  subst hk
  exact ⟨fun j hj => va_up_ne _ _ (by omega), fun j hj => a j hj, fun j hj => b j hj, fun j hj => c j hj, fun j hj => va_up_ne _ _ (by omega), fun j hj => va_up_ne _ _ (by omega)⟩
theorem drk_U {rm : Nat → Bool} {s : DS} (h : dsI s) : ∀ n, n ≤ 12 → dsU s (drkS rm s n)
  | 0, _ => ⟨fun _ _ => rfl, fun _ _ => rfl, fun _ _ => rfl, fun _ _ => rfl, fun _ _ => rfl, fun _ _ => rfl⟩
  | n + 1, hn => by
    obtain ⟨a, b, c, d, e, f⟩ := drk_U (rm := rm) h n (by omega)
    have hi := drk_I (rm := rm) h n (by omega)
    cases hr : rm n with
    | false => rw [drkS_f hr]; exact ⟨a, b, c, d, e, f⟩
    | true =>
      rw [drkS_t hr]
      obtain ⟨a1, b1, c1, d1, e1, f1⟩ := tak1_U (k := 12) (v := n) rfl (by omega) hi.1 hi.2.1
      exact ⟨fun j hj => (a1 j hj).trans (a j hj), fun j hj => (b1 j hj).trans (b j hj), fun j hj => (c1 j hj).trans (c j hj), fun j hj => (d1 j hj).trans (d j hj), fun j hj => (e1 j hj).trans (e j hj), fun j hj => (f1 j hj).trans (f j hj)⟩
/-- what holds of the reference's state -/
def wf (pg : Nat) (sv : Bool) (y : RS) : Prop :=
  (∀ j, y.2.2.1 j ≤ 12) ∧ (∀ j, y.2.2.2.1 j < 12) ∧ (∀ j, fn (y.2.2.2.2.1 j)) ∧ (∀ j, y.2.2.2.2.2.2.1 j ≤ 12) ∧ (∀ j, nu (y.2.1 j)) ∧
  wfB 0 y.1 y.2.2.1 y.2.2.2.1 y.2.2.2.2.2.2.1 ∧ wfB 12 y.1 y.2.2.1 y.2.2.2.1 y.2.2.2.2.2.2.1 ∧ wfM pg 0 y.2.2.2.2.2.2.1 y.2.2.2.2.2.2.2.1 ∧ (sv = true → wfM pg 12 y.2.2.2.2.2.2.1 y.2.2.2.2.2.2.2.1)
/-- what lies above stays -/
def rsU (y z : RS) : Prop := (∀ j, 12 ≤ j → z.1 j = y.1 j) ∧ (∀ j, 12 ≤ j → z.2.1 j = y.2.1 j) ∧ (∀ j, 12 ≤ j → z.2.2.1 j = y.2.2.1 j) ∧ (∀ j, 144 ≤ j → z.2.2.2.1 j = y.2.2.2.1 j) ∧ (∀ j, 144 ≤ j → z.2.2.2.2.1 j = y.2.2.2.2.1 j) ∧ (∀ j, 12 ≤ j → z.2.2.2.2.2.1 j = y.2.2.2.2.2.1 j) ∧ (∀ j, 12 ≤ j → z.2.2.2.2.2.2.1 j = y.2.2.2.2.2.2.1 j) ∧ (∀ j, 144 ≤ j → z.2.2.2.2.2.2.2.1 j = y.2.2.2.2.2.2.2.1 j) ∧ z.2.2.2.2.2.2.2.2.1 1 = y.2.2.2.2.2.2.2.2.1 1 ∧ z.2.2.2.2.2.2.2.2.2.1 1 = y.2.2.2.2.2.2.2.2.2.1 1
theorem wfB_up {th th' : Nat → Bool} {E E' T T' mc mc' : Nat → Nat} (h1 : ∀ j, 12 ≤ j → th' j = th j) (h2 : ∀ j, 12 ≤ j → E' j = E j) (h3 : ∀ j, 144 ≤ j → T' j = T j) (h4 : ∀ j, 12 ≤ j → mc' j = mc j) (h : wfB 12 th E T mc) : wfB 12 th' E' T' mc' := by
  obtain ⟨a, b, c⟩ := h
  refine ⟨fun v i hv hi ht => ?_, fun v hv ht => ?_, fun v hv ht => ?_⟩
  · rw [h2 _ (by omega)] at hi; rw [h1 _ (by omega)] at ht
    rw [h1 _ (by omega), h3 _ (by omega)]; exact a v i hv hi ht
  · rw [h1 _ (by omega)] at ht
    intro i j hij hj
    rw [h2 _ (by omega)] at hj
    rw [h3 _ (by omega), h3 _ (by omega)]; exact b v hv ht i j hij hj
  · rw [h1 _ (by omega)] at ht; rw [h4 _ (by omega)]; exact c v hv ht
theorem wfM_up {pg : Nat} {mc mc' : Nat → Nat} {ml ml' : Nat → UInt64} (h1 : ∀ j, 12 ≤ j → mc' j = mc j) (h2 : ∀ j, 144 ≤ j → ml' j = ml j) (h : wfM pg 12 mc ml) : wfM pg 12 mc' ml' := fun v j hv hj => by
  rw [h1 _ (by omega)] at hj; rw [h2 _ (by omega)]; exact h v j hv hj
/-- a step keeps it -/
theorem rS_all {pg nb : Nat} {cb sv : Bool} {y : RS} (hp : pg < 4) (h : wf pg sv y) : wf pg sv (rS pg nb cb y) ∧ rsU y (rS pg nb cb y) := by
  obtain ⟨w1, w2, w3, w4, w5, w6, w7, w8, w9⟩ := h
  obtain ⟨x1, x2, x3⟩ := w6
  have e0 : ∀ r, 0 + r = r := Nat.zero_add
  have hB : btI y.1 pg (rB pg nb y) := bt_I hp (fun k hk h => cnt_pos h 12 hk) (cnt_le _ 12) w1 (fun v i hv hi ht => by have := x1 v i hv (by rw [e0]; exact hi) (by rw [e0]; exact ht); simp only [e0] at this; exact this) w3 (fun v j hv hj => by have := w8 v j hv (by rw [e0]; exact hj); rw [e0] at this; exact this)
    ⟨w5, fun j h => absurd h Bool.false_ne_true, fun j h => absurd h Bool.false_ne_true⟩ 12 (Nat.le_refl _)
  obtain ⟨b1, b2, b3⟩ := hB
  unfold rS
  by_cases hf : (rB pg nb y).2.2.2.2.2.1 = true
  · rw [if_pos hf]
    exact ⟨⟨w1, w2, w3, w4, w5, ⟨x1, x2, x3⟩, w7, w8, w9⟩, fun _ _ => rfl, fun _ _ => rfl, fun _ _ => rfl, fun _ _ => rfl, fun _ _ => rfl, fun _ _ => rfl, fun _ _ => rfl, fun _ _ => rfl, rfl, rfl⟩
  · rw [if_neg hf]
    have hM : ∀ j, (if cb then dcC (rB pg nb y).2.2.1 y.2.2.2.2.2.2.1 12 else dlvC (rB pg nb y).2.2.1 y.2.2.2.2.2.2.1 12) j ≤ 12 := fun j => by
      by_cases c : j < 12
      · exact rcv_le c
      · rw [rcv_ge (by omega)]; exact w4 j
    have hS0 : dsI (y.1, y.2.2.1, y.2.2.2.1, y.2.2.2.2.1, (rB pg nb y).2.1, if cb then dcC (rB pg nb y).2.2.1 y.2.2.2.2.2.2.1 12 else dlvC (rB pg nb y).2.2.1 y.2.2.2.2.2.2.1 12) := by
      refine ⟨w1, w2, w3, hM, x1, x2, fun v hv ht => ?_⟩
      rw [e0] at ht ⊢
      refine rcv_0 hv (fun k hk => ?_)
      cases hq : (rB pg nb y).2.2.1 (v * 12 + k) with
      | false => rfl
      | true =>
        have := b3 _ hq
        rw [show (v * 12 + k) / 12 = v by omega] at this
        rw [this] at ht; cases ht
    have hI : dsI (rD pg nb cb y) := drk_I hS0 12 (Nat.le_refl _)
    obtain ⟨u1, u2, u3, u4, u5, u6⟩ := (drk_U hS0 12 (Nat.le_refl _) : dsU _ (rD pg nb cb y))
    have u6' : ∀ j, 12 ≤ j → (rD pg nb cb y).2.2.2.2.2 j = y.2.2.2.2.2.2.1 j := fun j hj => (u6 j hj).trans (rcv_ge hj)
    have hva : ∀ j, 12 ≤ j → (rB pg nb y).1 j = y.2.1 j := fun j hj => bt_va 12 j hj
    have haw : ∀ j, 12 ≤ j → (rB pg nb y).2.1 j = y.2.2.2.2.2.1 j := fun j hj => bt_aw 12 j hj
    obtain ⟨i1, i2, i3, i4, i5⟩ := hI
    refine ⟨⟨i1, i2, i3, i4, b1, i5, wfB_up u1 u2 u3 u6' w7, fun v j hv hj => ?_, fun hs => wfM_up u6' (fun q hq => rcM_ge hq) (w9 hs)⟩, u1, hva, u2, u3, u4, fun j hj => (u5 j hj).trans (haw j hj), u6', fun q hq => rcM_ge hq, rfl, rfl⟩
    rw [e0] at hj ⊢
    exact rcv_P (mc := y.2.2.2.2.2.2.1) prP_mrg b2 v j hv (Nat.lt_of_lt_of_le hj (drkS_mc 12 v))

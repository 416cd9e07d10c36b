/-! a step over all vertices, and that its sums are no NaN -/
theorem cnt_pos {th : Nat → Bool} {i : Nat} (h : th i = true) : ∀ n, i < n → 0 < cnt th n
  | 0, hn => absurd hn (Nat.not_lt_zero _)
  | n + 1, hn => by
    unfold cnt
    by_cases e : i = n
    · subst e; rw [if_pos h]; omega
    · have := cnt_pos h n (by omega); omega
theorem act_th {th aw : Nat → Bool} {mc : Nat → Nat} {v : Nat} (h : act th aw mc v = true) : th v = true := by
  unfold act at h
  cases hh : th v with
  | true => rfl
  | false => rw [hh] at h; simp at h
def btS (pg nb pr ss : Nat) (ag : UInt64) (th : Nat → Bool) (ec tg : Nat → Nat) (le : Nat → UInt64) (mc : Nat → Nat) (ml : Nat → UInt64) (s : PS) : Nat → PS
  | 0 => s
  | n + 1 => if act th (btS pg nb pr ss ag th ec tg le mc ml s n).2.1 mc n then cmS pg nb pr ss ag ec tg le mc ml n ((btS pg nb pr ss ag th ec tg le mc ml s n).1, va_up (btS pg nb pr ss ag th ec tg le mc ml s n).2.1 n true, (btS pg nb pr ss ag th ec tg le mc ml s n).2.2) else btS pg nb pr ss ag th ec tg le mc ml s n
/-- what is offered and what is sent is a number not below zero -/
def okS (s : PS) : Prop := (s.2.2.2.2.2.2.1 = true → nn s.2.2.2.2.2.2.2) ∧ ∀ j, s.2.2.1 j = true → nn (s.2.2.2.1 j)
theorem sndF_ok {tg : Nat → Nat} {v : Nat} {fi : Nat → Bool} {lt y : Nat → UInt64} (h : ∀ j, fi j = true → nn (lt j)) : ∀ n, (∀ k, k < n → nn (y k)) → ∀ j, sndF tg v fi (fun _ => true) n j = true → nn (sndF tg v lt y n j)
  | 0, _ => h
  | n + 1, hy => fun j hj => by
    have ih := sndF_ok (tg := tg) (v := v) (y := y) h n (fun k hk => hy k (by omega))
    unfold sndF at hj ⊢
    unfold va_up at hj ⊢
    split
    · exact hy n (by omega)
    · next hne => rw [if_neg hne] at hj; exact ih j hj
theorem offX_ok {pg : Nat} {of : Bool} {ox x : UInt64} (h1 : pg ≠ 1) (h2 : pg ≠ 2) (ho : of = true → nn ox) (hx : nn x) : nn (offX pg of ox x) := by
  unfold offX
  split
  · next h => exact nn_mrg h1 h2 (ho h) hx
  · exact hx
theorem rkX_ok {pg pr ss : Nat} {mc : Nat → Nat} {ml : Nat → UInt64} {v : Nat} (hg : pg = 0) (hpr : 0 < pr) (hp2 : pr ≤ 12) (hq : ∀ j, j < mc v → nn (ml (v * 12 + j))) : nn (rkX pg pr ss mc ml v) := by
  unfold rkX
  split
  · exact nn_ddiv (ps_nn ps_1) (ps_k pr (by omega) hpr)
  · exact nn_dadd (nn_ddiv (ps_nn ps_15) (ps_k pr (by omega) hpr)) (nn_dmul ps_85 (nn_mgM (by omega) (by omega) nn_0 _ hq))
theorem rkS_ok {pg nb pr ss : Nat} {ec tg mc : Nat → Nat} {ml : Nat → UInt64} {v : Nat} {s : PS} (hg : pg = 0) (hpr : 0 < pr) (hp2 : pr ≤ 12) (he : ec v ≤ 12) (hq : ∀ j, j < mc v → nn (ml (v * 12 + j))) (h : okS s) : okS (rkS pg nb pr ss ec tg mc ml v s) := by
  have hx := rkX_ok (ss := ss) hg hpr hp2 hq
  refine ⟨fun _ => offX_ok (by omega) (by omega) h.1 hx, ?_⟩
  intro j hj
  unfold rkS at hj ⊢
  dsimp only at hj ⊢
  by_cases c : nb ≤ ss
  · rw [if_pos c] at hj ⊢; exact h.2 j hj
  · rw [if_neg c] at hj ⊢
    exact sndF_ok h.2 (ec v) (fun k hk => nn_ddiv hx (ps_k (ec v) (by omega) (by omega))) j hj
theorem coS_ok {pg nb ss : Nat} {ag : UInt64} {ec tg mc : Nat → Nat} {ml : Nat → UInt64} {v : Nat} {s : PS} (hg : pg = 3) (h : okS s) : okS (coS pg nb ss ag ec tg mc ml v s) := by
  unfold coS
  split
  · exact ⟨h.1, fun j hj => sndF_ok h.2 (ec v) (fun k _ => ps_nn ps_1) j hj⟩
  · split
    · exact ⟨fun _ => offX_ok (by omega) (by omega) h.1 (ps_nn ps_1), h.2⟩
    · exact h
theorem cmS_ok {pg nb pr ss : Nat} {ag : UInt64} {ec tg : Nat → Nat} {le : Nat → UInt64} {mc : Nat → Nat} {ml : Nat → UInt64} {v : Nat} {s : PS} (hp : pg < 4) (h1 : pg ≠ 1) (h2 : pg ≠ 2) (hpr : 0 < pr) (hp2 : pr ≤ 12) (he : ec v ≤ 12) (hq : ∀ j, j < mc v → nn (ml (v * 12 + j))) (h : okS s) : okS (cmS pg nb pr ss ag ec tg le mc ml v s) := by
  unfold cmS
  by_cases c : pg = 0
  · rw [if_pos c]; exact rkS_ok c hpr hp2 he hq h
  · rw [if_neg c, if_neg h1, if_neg h2]; exact coS_ok (by omega) h
theorem btS_ok {pg nb pr ss : Nat} {ag : UInt64} {th : Nat → Bool} {ec tg : Nat → Nat} {le : Nat → UInt64} {mc : Nat → Nat} {ml : Nat → UInt64} {s : PS} (hp : pg < 4) (h1 : pg ≠ 1) (h2 : pg ≠ 2) (hpr : ∀ i, i < 12 → th i = true → 0 < pr) (hp2 : pr ≤ 12) (hE : ∀ j, ec j ≤ 12) (hq : ∀ v j, v < 12 → j < mc v → nn (ml (v * 12 + j))) (h : okS s) :
    ∀ n, n ≤ 12 → okS (btS pg nb pr ss ag th ec tg le mc ml s n)
  | 0, _ => h
  | n + 1, hn => by
    have ih := btS_ok (nb := nb) (ss := ss) (ag := ag) (tg := tg) (le := le) hp h1 h2 hpr hp2 hE hq h n (by omega)
    unfold btS
    split
    · next c => exact cmS_ok hp h1 h2 (hpr n (by omega) (act_th c)) hp2 (hE n) (fun j hj => hq n j (by omega) hj) ih
    · exact ih
theorem cwX_ok {pg : Nat} {fi : Nat → Bool} {lt : Nat → UInt64} {b wk : Nat} (h1 : pg ≠ 1) (h2 : pg ≠ 2) (h : ∀ j, fi j = true → nn (lt j)) : ∀ n, nn (cwX pg fi lt b wk n)
  | 0 => nn_0
  | n + 1 => by
    have ih := cwX_ok (b := b) (wk := wk) h1 h2 h n
    unfold cwX
    split
    · next c =>
      split
      · exact nn_mrg h1 h2 ih (h _ c)
      · exact h _ c
    · exact ih

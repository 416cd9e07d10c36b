/-! what holds of every state: numbers, rows, mail -/
def prP (pg : Nat) (x : UInt64) : Prop := if pg = 1 ∨ pg = 2 then nu x else nn x
theorem prP_nu {pg : Nat} {x : UInt64} (h : prP pg x) : nu x := by
  unfold prP at h; split at h
  · exact h
  · exact nn_nu h
theorem prP_nn {pg : Nat} {x : UInt64} (h1 : pg ≠ 1) (h2 : pg ≠ 2) (h : prP pg x) : nn x := by
  unfold prP at h; rw [if_neg (fun q => q.elim h1 h2)] at h; exact h
theorem prP_of {pg : Nat} {x : UInt64} (h : nn x) : prP pg x := by
  unfold prP; split
  · exact nn_nu h
  · exact h
theorem prP_12 {pg : Nat} {x : UInt64} (hp : pg = 1 ∨ pg = 2) (h : nu x) : prP pg x := by unfold prP; rw [if_pos hp]; exact h
theorem prP_mrg {pg : Nat} (a b : UInt64) (ha : prP pg a) (hb : prP pg b) : prP pg (mrg pg a b) := by
  by_cases c : pg = 1 ∨ pg = 2
  · exact prP_12 c (nu_mrg12 c (prP_nu ha) (prP_nu hb))
  · have c1 : pg ≠ 1 := fun q => c (Or.inl q)
    have c2 : pg ≠ 2 := fun q => c (Or.inr q)
    exact prP_of (nn_mrg c1 c2 (prP_nn c1 c2 ha) (prP_nn c1 c2 hb))
theorem sndF_P {P : UInt64 → Prop} {tg : Nat → Nat} {v : Nat} {fi : Nat → Bool} {lt y : Nat → UInt64} (h : ∀ j, fi j = true → P (lt j)) : ∀ n, (∀ k, k < n → P (y k)) → ∀ j, sndF tg v fi (fun _ => true) n j = true → P (sndF tg v lt y n j)
  | 0, _ => h
  | n + 1, hy => fun j hj => by
    have ih := sndF_P (tg := tg) (v := v) (y := y) h n (fun k hk => hy k (by omega))
    unfold sndF at hj ⊢
    unfold va_up at hj ⊢
    split
    · exact hy n (by omega)
    · next hne => rw [if_neg hne] at hj; exact ih j hj
theorem sndF_th {th : Nat → Bool} {tg : Nat → Nat} {v : Nat} {fi : Nat → Bool} (hv : v < 12) (h : ∀ j, fi j = true → th (j / 12) = true) : ∀ n, (∀ k, k < n → th (tg (v * 12 + k)) = true) → ∀ j, sndF tg v fi (fun _ => true) n j = true → th (j / 12) = true
  | 0, _ => h
  | n + 1, hy => fun j hj => by
    have ih := sndF_th (tg := tg) hv h n (fun k hk => hy k (by omega))
    unfold sndF va_up at hj
    by_cases c : j = tg (v * 12 + n) * 12 + v
    · rw [show j / 12 = tg (v * 12 + n) by omega]; exact hy n (by omega)
    · rw [if_neg c] at hj; exact ih j hj
def btI (th : Nat → Bool) (pg : Nat) (s : PS) : Prop := (∀ j, nu (s.1 j)) ∧ (∀ j, s.2.2.1 j = true → prP pg (s.2.2.2.1 j)) ∧ ∀ j, s.2.2.1 j = true → th (j / 12) = true
theorem cm_I {th : Nat → Bool} {pg nb pr ss : Nat} {ag : UInt64} {ec tg : Nat → Nat} {le : Nat → UInt64} {mc : Nat → Nat} {ml : Nat → UInt64} {v : Nat} {s : PS} (hp : pg < 4) (hv : v < 12) (hpr : 0 < pr) (hp2 : pr ≤ 12) (he : ec v ≤ 12) (hrow : ∀ i, i < ec v → th (tg (v * 12 + i)) = true) (hfn : ∀ j, fn (le j)) (hml : ∀ j, j < mc v → prP pg (ml (v * 12 + j))) (h : btI th pg s) : btI th pg (cmS pg nb pr ss ag ec tg le mc ml v s) := by
  obtain ⟨i1, i2, i3⟩ := h
  by_cases h0 : pg = 0
  · rw [cm_0 h0]
    have hX : nn (rkX pg pr ss mc ml v) := rkX_ok h0 hpr hp2 (fun j hj => prP_nn (by omega) (by omega) (hml j hj))
    refine ⟨va_up_all i1 (nn_nu hX), ?_, ?_⟩
    · intro j hj
      unfold rkS at hj ⊢
      dsimp only at hj ⊢
      by_cases c : nb ≤ ss
      · rw [if_pos c] at hj ⊢; exact i2 j hj
      · rw [if_neg c] at hj ⊢
        exact sndF_P i2 (ec v) (fun k hk => prP_of (nn_ddiv hX (ps_k (ec v) (by omega) (by omega)))) j hj
    · intro j hj
      unfold rkS at hj
      dsimp only at hj
      by_cases c : nb ≤ ss
      · rw [if_pos c] at hj; exact i3 j hj
      · rw [if_neg c] at hj; exact sndF_th hv i3 (ec v) hrow j hj
  · by_cases h1 : pg = 1
    · rw [cm_1 h1]
      have hX : nu (neX pg nb ss mc ml v) := nu_mgM12 (Or.inl h1) (by split; exact nn_nu nn_0; exact nn_nu (ps_nn ps_far)) _ (fun j hj => prP_nu (hml j hj))
      have h00 : ∀ j, nu (ne0 ss s.1 v j) := by
        unfold ne0; split
        · exact va_up_all i1 (nn_nu (ps_nn ps_far))
        · exact i1
      unfold neS
      split
      · exact ⟨va_up_all h00 hX, fun j hj => sndF_P i2 (ec v) (fun k _ => prP_12 (Or.inl h1) (nu_dadd_fn hX (hfn _))) j hj, fun j hj => sndF_th hv i3 (ec v) hrow j hj⟩
      · exact ⟨h00, i2, i3⟩
    · by_cases h2 : pg = 2
      · rw [cm_2 h2]
        have hX : nu (grX pg mc ml s.1 v) := nu_mgM12 (Or.inr h2) (i1 v) _ (fun j hj => prP_nu (hml j hj))
        refine ⟨va_up_all i1 hX, ?_, ?_⟩
        · intro j hj
          unfold grS at hj ⊢
          dsimp only at hj ⊢
          by_cases c : dgt (grX pg mc ml s.1 v) (s.1 v) = true ∨ ss = 0
          · rw [if_pos c] at hj ⊢; exact sndF_P i2 (ec v) (fun k _ => prP_12 (Or.inr h2) hX) j hj
          · rw [if_neg c] at hj ⊢; exact i2 j hj
        · intro j hj
          unfold grS at hj
          dsimp only at hj
          by_cases c : dgt (grX pg mc ml s.1 v) (s.1 v) = true ∨ ss = 0
          · rw [if_pos c] at hj; exact sndF_th hv i3 (ec v) hrow j hj
          · rw [if_neg c] at hj; exact i3 j hj
      · rw [cm_3 h0 h1 h2]
        have hX : nn (coX pg mc ml v) := nn_mgM h1 h2 nn_0 _ (fun j hj => prP_nn h1 h2 (hml j hj))
        unfold coS
        split
        · exact ⟨i1, fun j hj => sndF_P i2 (ec v) (fun k _ => prP_of (ps_nn ps_1)) j hj, fun j hj => sndF_th hv i3 (ec v) hrow j hj⟩
        · split
          · exact ⟨i1, i2, i3⟩
          · exact ⟨va_up_all i1 (nn_nu hX), i2, i3⟩
theorem bt_I {pg nb pr ss : Nat} {ag : UInt64} {th : Nat → Bool} {ec tg : Nat → Nat} {le : Nat → UInt64} {mc : Nat → Nat} {ml : Nat → UInt64} {s : PS} (hp : pg < 4) (hpr : ∀ i, i < 12 → th i = true → 0 < pr) (hp2 : pr ≤ 12) (hE : ∀ j, ec j ≤ 12) (hrow : ∀ v i, v < 12 → i < ec v → th v = true → th (tg (v * 12 + i)) = true) (hfn : ∀ j, fn (le j)) (hml : ∀ v j, v < 12 → j < mc v → prP pg (ml (v * 12 + j))) (h : btI th pg s) :
    ∀ n, n ≤ 12 → btI th pg (btS pg nb pr ss ag th ec tg le mc ml s n)
  | 0, _ => h
  | n + 1, hn => by
    have ih := bt_I (nb := nb) (ss := ss) (ag := ag) hp hpr hp2 hE hrow hfn hml h n (by omega)
    cases ha : act th s.2.1 mc n with
    | false => rw [bt_f ha]; exact ih
    | true =>
      rw [bt_t ha]
      exact cm_I hp (by omega) (hpr n (by omega) (act_th ha)) hp2 (hE n) (fun i hi => hrow n i (by omega) hi (act_th ha)) hfn (fun j hj => hml n j (by omega) hj) ih
/-! the mail -/
theorem delC_0 {fi : Nat → Bool} {b : Nat} : ∀ n, (∀ k, k < n → fi (b + k) = false) → delC fi b n = 0
  | 0, _ => rfl
  | n + 1, h => by unfold delC; rw [delC_0 n (fun k hk => h k (by omega)), h n (by omega)]; rfl
theorem cwA_0 {fi : Nat → Bool} {b wk : Nat} : ∀ n, (∀ k, k < n → fi (b + (wk + 3 * k)) = false) → cwA fi b wk n = false
  | 0, _ => rfl
  | n + 1, h => by unfold cwA; rw [cwA_0 n (fun k hk => h k (by omega)), h n (by omega)]; rfl
theorem wcC_0 {fi : Nat → Bool} {b : Nat} (h : ∀ k, k < 12 → fi (b + k) = false) : ∀ n, n ≤ 3 → wcC fi b n = 0
  | 0, _ => rfl
  | n + 1, hn => by unfold wcC; rw [wcC_0 h n (by omega), cwA_0 4 (fun k hk => h _ (by omega))]; rfl
theorem delM_P {P : UInt64 → Prop} {fi : Nat → Bool} {lt ml : Nat → UInt64} {b : Nat} (h : ∀ j, fi j = true → P (lt j)) : ∀ n j, j < delC fi b n → P (delM fi lt ml b n (b + j))
  | 0, _, hj => absurd hj (Nat.not_lt_zero _)
  | n + 1, j, hj => by
    unfold delC at hj
    unfold delM
    by_cases c : fi (b + n) = true
    · rw [if_pos c] at hj ⊢
      by_cases e : j = delC fi b n
      · subst e; rw [va_up_self]; exact h _ c
      · rw [va_up_ne _ _ (by omega)]; exact delM_P h n j (by omega)
    · rw [if_neg c] at hj ⊢; exact delM_P h n j hj
theorem delM_o {fi : Nat → Bool} {lt ml : Nat → UInt64} {b q : Nat} : ∀ n, (q < b ∨ b + n ≤ q) → delM fi lt ml b n q = ml q
  | 0, _ => rfl
  | n + 1, hq => by
    have := delC_le fi b n
    unfold delM
    split
    · rw [va_up_ne _ _ (by omega)]; exact delM_o n (by omega)
    · exact delM_o n (by omega)
theorem dlvM_P {P : UInt64 → Prop} {fi : Nat → Bool} {lt ml : Nat → UInt64} (h : ∀ j, fi j = true → P (lt j)) : ∀ n v j, v < n → j < delC fi (v * 12) 12 → P (dlvM fi lt ml n (v * 12 + j))
  | 0, _, _, hv, _ => absurd hv (Nat.not_lt_zero _)
  | n + 1, v, j, hv, hj => by
    have hl := delC_le fi (v * 12) 12
    unfold dlvM
    by_cases e : v = n
    · subst e; exact delM_P h 12 j hj
    · rw [delM_o 12 (by omega)]; exact dlvM_P h n v j (by omega) hj
theorem dlvM_o {fi : Nat → Bool} {lt ml : Nat → UInt64} {q : Nat} : ∀ n, n * 12 ≤ q → dlvM fi lt ml n q = ml q
  | 0, _ => rfl
  | n + 1, hq => by unfold dlvM; rw [delM_o 12 (by omega)]; exact dlvM_o n (by omega)
theorem cwX_P {P : UInt64 → Prop} {pg : Nat} {fi : Nat → Bool} {lt : Nat → UInt64} {b wk : Nat} (hm : ∀ x y, P x → P y → P (mrg pg x y)) (h : ∀ j, fi j = true → P (lt j)) : ∀ n, cwA fi b wk n = true → P (cwX pg fi lt b wk n)
  | 0, hc => absurd hc Bool.false_ne_true
  | n + 1, hc => by
    unfold cwA at hc
    unfold cwX
    by_cases c : fi (b + (wk + 3 * n)) = true
    · rw [if_pos c]
      by_cases d : cwA fi b wk n = true
      · rw [if_pos d]; exact hm _ _ (cwX_P hm h n d) (h _ c)
      · rw [if_neg d]; exact h _ c
    · rw [if_neg c]
      refine cwX_P hm h n ?_
      simpa [c] using hc
theorem wcM_P {P : UInt64 → Prop} {pg : Nat} {fi : Nat → Bool} {lt ml : Nat → UInt64} {b : Nat} (hm : ∀ x y, P x → P y → P (mrg pg x y)) (h : ∀ j, fi j = true → P (lt j)) : ∀ n j, j < wcC fi b n → P (wcM pg fi lt ml b n (b + j))
  | 0, _, hj => absurd hj (Nat.not_lt_zero _)
  | n + 1, j, hj => by
    unfold wcC at hj
    unfold wcM
    by_cases c : cwA fi b n 4 = true
    · rw [if_pos c] at hj ⊢
      by_cases e : j = wcC fi b n
      · subst e; rw [va_up_self]; exact cwX_P hm h 4 c
      · rw [va_up_ne _ _ (by omega)]; exact wcM_P hm h n j (by omega)
    · rw [if_neg c] at hj ⊢; exact wcM_P hm h n j hj
theorem wcM_o {pg : Nat} {fi : Nat → Bool} {lt ml : Nat → UInt64} {b q : Nat} : ∀ n, (q < b ∨ b + n ≤ q) → wcM pg fi lt ml b n q = ml q
  | 0, _ => rfl
  | n + 1, hq => by
    have := wcC_le fi b n
    unfold wcM
    split
    · rw [va_up_ne _ _ (by omega)]; exact wcM_o n (by omega)
    · exact wcM_o n (by omega)
theorem dcM_P {P : UInt64 → Prop} {pg : Nat} {fi : Nat → Bool} {lt ml : Nat → UInt64} (hm : ∀ x y, P x → P y → P (mrg pg x y)) (h : ∀ j, fi j = true → P (lt j)) : ∀ n v j, v < n → j < wcC fi (v * 12) 3 → P (dcM pg fi lt ml n (v * 12 + j))
  | 0, _, _, hv, _ => absurd hv (Nat.not_lt_zero _)
  | n + 1, v, j, hv, hj => by
    have hl := wcC_le fi (v * 12) 3
    unfold dcM
    by_cases e : v = n
    · subst e; exact wcM_P hm h 3 j hj
    · rw [wcM_o 3 (by omega)]; exact dcM_P hm h n v j (by omega) hj
theorem dcM_o {pg : Nat} {fi : Nat → Bool} {lt ml : Nat → UInt64} {q : Nat} : ∀ n, n * 12 ≤ q → dcM pg fi lt ml n q = ml q
  | 0, _ => rfl
  | n + 1, hq => by unfold dcM; rw [wcM_o 3 (by omega)]; exact dcM_o n (by omega)
theorem dlvC_at {fi : Nat → Bool} {mc : Nat → Nat} : ∀ n v, v < n → dlvC fi mc n v = delC fi (v * 12) 12
  | 0, _, hv => absurd hv (Nat.not_lt_zero _)
  | n + 1, v, hv => by
    unfold dlvC
    by_cases e : v = n
    · subst e; rw [va_up_self]
    · rw [va_up_ne _ _ e]; exact dlvC_at n v (by omega)
theorem dcC_at {fi : Nat → Bool} {mc : Nat → Nat} : ∀ n v, v < n → dcC fi mc n v = wcC fi (v * 12) 3
  | 0, _, hv => absurd hv (Nat.not_lt_zero _)
  | n + 1, v, hv => by
    unfold dcC
    by_cases e : v = n
    · subst e; rw [va_up_self]
    · rw [va_up_ne _ _ e]; exact dcC_at n v (by omega)
/-- the mail behind a step: its counts and its numbers -/
theorem rcv_P {P : UInt64 → Prop} {pg : Nat} {cb : Bool} {fi : Nat → Bool} {mc : Nat → Nat} {lt ml : Nat → UInt64} (hm : ∀ x y, P x → P y → P (mrg pg x y)) (h : ∀ j, fi j = true → P (lt j)) (v j : Nat) (hv : v < 12) (hj : j < (if cb then dcC fi mc 12 else dlvC fi mc 12) v) : P ((if cb then dcM pg fi lt ml 12 else dlvM fi lt ml 12) (v * 12 + j)) := by
  cases cb
  · have hj : j < dlvC fi mc 12 v := hj
    rw [dlvC_at 12 v hv] at hj
    exact dlvM_P h 12 v j hv hj
  · have hj : j < dcC fi mc 12 v := hj
    rw [dcC_at 12 v hv] at hj
    exact dcM_P hm h 12 v j hv hj
theorem rcv_0 {cb : Bool} {fi : Nat → Bool} {mc : Nat → Nat} {v : Nat} (hv : v < 12) (h : ∀ k, k < 12 → fi (v * 12 + k) = false) : (if cb then dcC fi mc 12 else dlvC fi mc 12) v = 0 := by
  cases cb
  · show dlvC fi mc 12 v = 0; rw [dlvC_at 12 v hv]; exact delC_0 12 h
  · show dcC fi mc 12 v = 0; rw [dcC_at 12 v hv]; exact wcC_0 h 3 (by omega)
theorem rcv_ge {cb : Bool} {fi : Nat → Bool} {mc : Nat → Nat} {v : Nat} (hv : 12 ≤ v) : (if cb then dcC fi mc 12 else dlvC fi mc 12) v = mc v := by
  cases cb
  · exact dlvC_ge 12 v hv
  · exact dcC_ge 12 v hv
theorem rcM_ge {pg : Nat} {cb : Bool} {fi : Nat → Bool} {lt ml : Nat → UInt64} {q : Nat} (hq : 144 ≤ q) : (if cb then dcM pg fi lt ml 12 else dlvM fi lt ml 12) q = ml q := by
  cases cb
  · exact dlvM_o 12 hq
  · exact dcM_o 12 hq
/-! rows -/
theorem shl_at {α : Type} {f : Nat → α} {b : Nat} : ∀ n j, shl f b n j = if b ≤ j ∧ j < b + n then f (j + 1) else f j
  | 0, j => by rw [if_neg (by omega)]; rfl
  | n + 1, j => by
    unfold shl
    by_cases c : j = b + n
    · subst c; rw [va_up_self, shl_at n, if_neg (by omega), if_pos (by omega)]
    · rw [va_up_ne _ _ c, shl_at n j]
      by_cases d : b ≤ j ∧ j < b + n
      · rw [if_pos d, if_pos (by omega)]
      · rw [if_neg d, if_neg (by omega)]
theorem fnd_spec {f : Nat → Nat} {x : Nat} : ∀ n i, (fnd f x n i < i + n → f (fnd f x n i) = x) ∧ ∀ j, i ≤ j → j < fnd f x n i → f j ≠ x
  | 0, i => ⟨fun h => absurd h (Nat.lt_irrefl _), fun j h1 h2 => absurd h2 (by unfold fnd; omega)⟩
  | n + 1, i => by
    unfold fnd
    by_cases c : f i = x
    · rw [if_pos c]; exact ⟨fun _ => c, fun j h1 h2 => absurd h2 (by omega)⟩
    · rw [if_neg c]
      obtain ⟨a, b⟩ := fnd_spec (f := f) (x := x) n (i + 1)
      refine ⟨fun h => a (by omega), fun j h1 h2 => ?_⟩
      by_cases e : j = i
      · rw [e]; exact c
      · exact b j (by omega) h2
theorem plc_hit {E T : Nat → Nat} {r v : Nat} (h : plc E T r v ≠ E r) : plc E T r v < E r ∧ T (r * 12 + plc E T r v) = v := by
  have hl := plc_le E T r v
  exact ⟨by omega, (fnd_spec (f := fun j => T (r * 12 + j)) (x := v) (E r) 0).1 (by unfold plc at h hl; omega)⟩
theorem plc_miss {E T : Nat → Nat} {r v : Nat} (h : plc E T r v = E r) : ∀ i, i < E r → T (r * 12 + i) ≠ v := fun i hi => (fnd_spec (f := fun j => T (r * 12 + j)) (x := v) (E r) 0).2 i (Nat.zero_le _) (by unfold plc at h; omega)
/-- a row's edges lead apart -/
def rowD (E T : Nat → Nat) (r : Nat) : Prop := ∀ i j, i < j → j < E r → T (r * 12 + i) ≠ T (r * 12 + j)
theorem cut_row {E T : Nat → Nat} {n v : Nat} (hD : rowD E T n) : (∀ i, i < cutEc E T n v n → cutF E T T n v (n * 12 + i) ≠ v ∧ ∃ i', i' < E n ∧ cutF E T T n v (n * 12 + i) = T (n * 12 + i')) ∧ rowD (cutEc E T n v) (cutF E T T n v) n := by
  by_cases c : plc E T n v = E n
  · have e1 : cutEc E T n v = E := by unfold cutEc; rw [if_pos c]
    have e2 : cutF E T T n v = T := by unfold cutF; rw [if_pos c]
    rw [e1, e2]
    exact ⟨fun i hi => ⟨plc_miss c i hi, i, hi, rfl⟩, hD⟩
  · obtain ⟨h1, h2⟩ := plc_hit c
    have e1 : cutEc E T n v n = E n - 1 := by unfold cutEc; rw [if_neg c, va_up_self]
    have e2 : ∀ i, i < E n - 1 → cutF E T T n v (n * 12 + i) = T (n * 12 + if plc E T n v ≤ i then i + 1 else i) := fun i hi => by
      unfold cutF; rw [if_neg c, shl_at]
      by_cases d : plc E T n v ≤ i
      · rw [if_pos (by omega), if_pos d]; rfl
      · rw [if_neg (by omega), if_neg d]
    refine ⟨fun i hi => ?_, fun i j hij hj => ?_⟩
    · rw [e1] at hi
      rw [e2 i hi]
      refine ⟨?_, _, ?_, rfl⟩
      · intro q
        have q := q.trans h2.symm
        revert q
        split
        · exact (hD _ _ (by omega) (by omega)).symm
        · exact hD _ _ (by omega) (by omega)
      · split <;> omega
    · rw [e1] at hj
      rw [e2 i (by omega), e2 j hj]
      refine hD _ _ ?_ ?_
      · split <;> split <;> omega
      · split <;> omega
theorem cutEc_o {E T : Nat → Nat} {n v r : Nat} (h : r ≠ n) : cutEc E T n v r = E r := by
  unfold cutEc; split
  · rfl
  · exact va_up_ne _ _ h
theorem cutF_o {α : Type} {E T : Nat → Nat} {f : Nat → α} {n v q : Nat} (hE : E n ≤ 12) (h : q < n * 12 ∨ n * 12 + 12 ≤ q) : cutF E T f n v q = f q := by
  have hl := plc_le E T n v
  unfold cutF; split
  · rfl
  · rw [shl_at, if_neg (by omega)]

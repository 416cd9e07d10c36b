/-! doubles: numbers that are not below zero, and no NaN -/
def pos : FP.Core.Datum → Prop
  | .nan => False
  | .inf s => s = false
  | .fin s _ _ => s = false
def nn (x : UInt64) : Prop := pos (FP.Core.val64 x)
/-- a number (no NaN) -/
def nu (x : UInt64) : Prop := FP.Core.val64 x ≠ .nan
theorem nu_n64 {x : UInt64} (h : nu x) : vf_n64 x := by
  unfold nu FP.Core.val64 FP.Core.decode at h
  unfold vf_n64
  rw [UInt64.le_iff_toNat_le, FP.Core.mask_toNat]
  have hx := x.toNat_lt
  have e1 : FP.Core.fieldE FP.Core.b64 x.toNat = x.toNat / 4503599627370496 % 2048 := rfl
  have e2 : FP.Core.fieldT FP.Core.b64 x.toNat = x.toNat % 4503599627370496 := rfl
  have e3 : FP.Core.b64.exps - 1 = 2047 := rfl
  rw [e1, e2, e3] at h
  have e4 : (0x7ff0000000000000 : UInt64).toNat = 9218868437227405312 := rfl
  rw [e4]
  by_cases c1 : x.toNat / 4503599627370496 % 2048 = 2047
  · rw [if_pos c1] at h
    by_cases c2 : x.toNat % 4503599627370496 = 0
    · omega
    · rw [if_neg c2] at h; exact absurd rfl h
  · omega
theorem pos_nan {d : FP.Core.Datum} (h : pos d) : d ≠ .nan := by
  intro e; rw [e] at h; exact h
theorem nn_nu {x : UInt64} (h : nn x) : nu x := pos_nan h
theorem nn_n64 {x : UInt64} (h : nn x) : vf_n64 x := nu_n64 (nn_nu h)
theorem pos_rr (f : FP.Core.Fmt) (A B : Nat) (e : Int) : pos (FP.Core.roundRatio f false A B e) := by
  unfold FP.Core.roundRatio FP.Core.roundAt FP.Core.settle FP.Core.bound
  repeat' split
  all_goals rfl
theorem pos_round {f : FP.Core.Fmt} {d : FP.Core.Datum} (h : pos d) : pos (FP.Core.round f d) := by
  cases d with
  | nan => exact h
  | inf s => exact h
  | fin s c q =>
    have h : s = false := h
    subst h
    exact pos_rr f c 1 q
theorem pos_sum {a b : FP.Core.Datum} (ha : pos a) (hb : pos b) : pos (FP.Core.exactSum a b) := by
  cases a with
  | nan => exact absurd ha id
  | inf s =>
    have ha : s = false := ha
    subst ha
    cases b with
    | nan => exact absurd hb id
    | inf t => have hb : t = false := hb; subst hb; exact rfl
    | fin t d r => exact rfl
  | fin s c q =>
    have ha : s = false := ha
    subst ha
    cases b with
    | nan => exact absurd hb id
    | inf t => exact hb
    | fin t d r =>
      have hb : t = false := hb
      subst hb
      have hv : (0 : Int) ≤ FP.Core.sumUnits false c q false d r (min q r) := by
        unfold FP.Core.sumUnits FP.Core.signed
        simp only [Bool.false_eq_true, if_false]
        omega
      show FP.Core.sumSign false false (FP.Core.sumUnits false c q false d r (min q r)) = false
      unfold FP.Core.sumSign
      split
      · rfl
      · exact decide_eq_false (Int.not_lt.mpr hv)
theorem nn_dadd {a b : UInt64} (ha : nn a) (hb : nn b) : nn (FP.dadd a b) := by
  unfold nn
  rw [show FP.dadd a b = FP.Core.dadd a b from rfl, FP.Core.val64_dadd]
  exact pos_round (pos_sum ha hb)
/-- finite, above zero -/
def ps (x : UInt64) : Prop := ∃ c q, FP.Core.val64 x = .fin false c q ∧ c ≠ 0
theorem ps_nn {x : UInt64} (h : ps x) : nn x := by
  obtain ⟨c, q, e, -⟩ := h
  unfold nn; rw [e]; exact rfl
theorem nn_dmul {a b : UInt64} (ha : ps a) (hb : nn b) : nn (FP.dmul a b) := by
  obtain ⟨c, q, e, hc⟩ := ha
  unfold nn at hb ⊢
  rw [show FP.dmul a b = FP.Core.dmul a b from rfl, FP.Core.val64_dmul, e]
  refine pos_round ?_
  cases hd : FP.Core.val64 b with
  | nan => rw [hd] at hb; exact absurd hb id
  | inf t => rw [hd] at hb; have hb : t = false := hb; subst hb; show pos (if c = 0 then .nan else .inf (false != false)); rw [if_neg hc]; rfl
  | fin t d r => rw [hd] at hb; have hb : t = false := hb; subst hb; exact rfl
theorem nn_ddiv {a b : UInt64} (ha : nn a) (hb : ps b) : nn (FP.ddiv a b) := by
  obtain ⟨d, r, e, hd⟩ := hb
  unfold nn at ha ⊢
  rw [show FP.ddiv a b = FP.Core.ddiv a b from rfl, FP.Core.val64_ddiv, e]
  cases hc : FP.Core.val64 a with
  | nan => rw [hc] at ha; exact absurd ha id
  | inf t => rw [hc] at ha; have ha : t = false := ha; subst ha; exact rfl
  | fin t c q => rw [hc] at ha; have ha : t = false := ha; subst ha; show pos (if d = 0 then (if c = 0 then .nan else .inf (false != false)) else FP.Core.roundRatio FP.Core.b64 (false != false) c d (q - r)); rw [if_neg hd]; exact pos_rr _ _ _ _
theorem nn_0 : nn FP.dconst0 := by
  unfold nn; rw [show FP.dconst0 = FP.Core.dconst0 from rfl, FP.Core.val64_dconst0]; exact rfl
theorem ps_1 : ps FP.dconst1 := ⟨2 ^ 52, -52, FP.Core.val64_dconst1, by decide⟩
def psb (x : UInt64) : Bool := match FP.Core.val64 x with
  | .fin false c _ => c != 0
  | _ => false
theorem ps_of {x : UInt64} (h : psb x = true) : ps x := by
  unfold psb at h
  split at h
  · next c q e => exact ⟨c, q, e, by simpa using h⟩
  · exact absurd h (by decide)
theorem ps_15 : ps 4594572339843380019 := ps_of (by decide +kernel)
theorem ps_85 : ps 4605831338911806259 := ps_of (by decide +kernel)
theorem ps_far : ps 4696837146684686336 := ps_of (by decide +kernel)
theorem ps_k : ∀ k, k < 13 → 0 < k → ps (FP.i2d (nI k)) := by
  intro k hk h0
  refine ps_of ?_
  revert k
  decide +kernel
theorem nn_mrg {pg : Nat} {a b : UInt64} (h1 : pg ≠ 1) (h2 : pg ≠ 2) (ha : nn a) (hb : nn b) : nn (mrg pg a b) := by
  unfold mrg; rw [if_neg h1, if_neg h2]; exact nn_dadd ha hb
theorem nn_mgM {pg : Nat} {f : Nat → UInt64} {x : UInt64} (h1 : pg ≠ 1) (h2 : pg ≠ 2) (hx : nn x) : ∀ n, (∀ j, j < n → nn (f j)) → nn (mgM pg f x n)
  | 0, _ => hx
  | n + 1, h => nn_mrg h1 h2 (nn_mgM h1 h2 hx n (fun j hj => h j (by omega))) (h n (by omega))
theorem nu_mrg12 {pg : Nat} {a b : UInt64} (h : pg = 1 ∨ pg = 2) (ha : nu a) (hb : nu b) : nu (mrg pg a b) := by
  unfold mrg
  rcases h with h | h
  · rw [if_pos h]; split <;> assumption
  · rw [if_neg (by omega), if_pos h]; split <;> assumption
theorem nu_mgM12 {pg : Nat} {f : Nat → UInt64} {x : UInt64} (h1 : pg = 1 ∨ pg = 2) (hx : nu x) : ∀ n, (∀ j, j < n → nu (f j)) → nu (mgM pg f x n)
  | 0, _ => hx
  | n + 1, h => nu_mrg12 h1 (nu_mgM12 h1 hx n (fun j hj => h j (by omega))) (h n (by omega))
/-- finite -/
def fn (x : UInt64) : Prop := ∃ s c q, FP.Core.val64 x = .fin s c q
theorem round_nan {f : FP.Core.Fmt} {d : FP.Core.Datum} (h : d ≠ .nan) : FP.Core.round f d ≠ .nan := by
  cases d with
  | nan => exact h
  | inf s => exact h
  | fin s c q =>
    show FP.Core.roundRatio f s c 1 q ≠ .nan
    unfold FP.Core.roundRatio FP.Core.roundAt FP.Core.settle FP.Core.bound
    repeat' split
    all_goals (intro e; cases e)
theorem nu_dadd_fn {a b : UInt64} (ha : nu a) (hb : fn b) : nu (FP.dadd a b) := by
  obtain ⟨t, d, r, e⟩ := hb
  unfold nu at ha ⊢
  rw [show FP.dadd a b = FP.Core.dadd a b from rfl, FP.Core.val64_dadd, e]
  refine round_nan ?_
  cases hc : FP.Core.val64 a with
  | nan => exact absurd hc ha
  | inf s => intro z; cases z
  | fin s c q => intro z; cases z

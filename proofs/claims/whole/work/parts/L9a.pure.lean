/-! each call's step of the state: what every state holds is kept; what lies above stays -/
theorem dge_nu {x y : UInt64} (h : dge x y = true) : nu x := by
  unfold dge at h
  cases hc : FP.dcmp x y with
  | none => rw [hc] at h; exact absurd h (by decide)
  | some o => exact (FP.Core.dcmp_some (a := x) (b := y) hc).1
theorem fn_of {x lo hi : UInt64} (h1 : dge x lo = true) (h2 : dle x hi = true) (hlo : ∃ s c q, FP.Core.val64 lo = .fin s c q) (hhi : ∃ s c q, FP.Core.val64 hi = .fin s c q) : fn x := by
  have hn := dge_nu h1
  obtain ⟨s1, c1, q1, e1⟩ := hlo
  obtain ⟨s2, c2, q2, e2⟩ := hhi
  have ha : FP.dcmp x lo = FP.Core.order (FP.Core.val64 x) (FP.Core.val64 lo) := rfl
  have hb : FP.dcmp x hi = FP.Core.order (FP.Core.val64 x) (FP.Core.val64 hi) := rfl
  unfold dge at h1
  unfold dle at h2
  rw [ha, e1] at h1
  rw [hb, e2] at h2
  cases hv : FP.Core.val64 x with
  | nan => exact absurd hv hn
  | fin s c q => exact ⟨s, c, q, hv⟩
  | inf s =>
    rw [hv] at h1 h2
    cases s
    · exact absurd h2 (by show ¬ ((some (compare (FP.Core.signed false 1) 0) == some Ordering.lt || some (compare (FP.Core.signed false 1) 0) == some Ordering.eq) = true); decide)
    · exact absurd h1 (by show ¬ ((some (compare (FP.Core.signed true 1) 0) == some Ordering.gt || some (compare (FP.Core.signed true 1) 0) == some Ordering.eq) = true); decide)
def finb (x : UInt64) : Bool := match FP.Core.val64 x with
  | .fin .. => true
  | _ => false
theorem fin_of {x : UInt64} (h : finb x = true) : ∃ s c q, FP.Core.val64 x = .fin s c q := by
  unfold finb at h
  split at h
  · next s c q e => exact ⟨s, c, q, e⟩
  · exact absurd h (by decide)
theorem nu_i2d (a : Int32) : fn (FP.i2d a) := by
  have h := FP.Core.i2d_int a
  unfold FP.Core.DInt FP.Core.Whole at h
  cases hv : FP.Core.val64 (FP.i2d a) with
  | fin s c q => exact ⟨s, c, q, hv⟩
  | nan => rw [show FP.Core.val64 (FP.Core.i2d a) = .nan from hv] at h; exact absurd h id
  | inf s => rw [show FP.Core.val64 (FP.Core.i2d a) = .inf s from hv] at h; exact absurd h id
theorem nan125 (a : Int32) : vf_n64 (FP.dmul (FP.i2d a) 4593671619917905920) := by
  refine nu_n64 ?_
  unfold nu
  obtain ⟨s, c, q, e⟩ := nu_i2d a
  obtain ⟨t, d, r, e2⟩ : ∃ s c q, FP.Core.val64 4593671619917905920 = .fin s c q := fin_of (by decide +kernel)
  rw [show FP.dmul (FP.i2d a) 4593671619917905920 = FP.Core.dmul (FP.i2d a) 4593671619917905920 from rfl, FP.Core.val64_dmul, e, e2]
  exact round_nan (fun z => by cases z)
theorem inR_lt {a : Int32} {n : Nat} (hn : n < 2 ^ 31) (h : inR a (nI 0) (nI n) = true) : a.toNatClampNeg ≤ n := by
  obtain ⟨j, hj, rfl⟩ := inR_nat hn h (by decide)
  rw [nI_clamp (by omega)]; exact hj.2
/-! twelve that are apart are all -/
theorem inj_le : ∀ (n m : Nat) (f : Nat → Nat), (∀ i, i < m → f i < n) → (∀ i j, i < j → j < m → f i ≠ f j) → m ≤ n
  | 0, m, f, h1, _ => by
    cases m with
    | zero => exact Nat.le_refl _
    | succ m => exact absurd (h1 0 (by omega)) (Nat.not_lt_zero _)
  | n + 1, m, f, h1, h2 => by
    by_cases h : ∃ i, i < m ∧ f i = n
    · obtain ⟨i0, hi0, e0⟩ := h
      have := inj_le n (m - 1) (fun i => f (if i < i0 then i else i + 1)) (fun i hi => by
        split
        · next c =>
          have a := h1 i (by omega)
          have b := h2 i i0 c hi0
          omega
        · next c =>
          have a := h1 (i + 1) (by omega)
          have b := h2 i0 (i + 1) (by omega) (by omega)
          omega) (fun i j hij hj => by
        split
        · split
          · exact h2 i j hij (by omega)
          · exact h2 i (j + 1) (by omega) (by omega)
        · split
          · omega
          · exact h2 (i + 1) (j + 1) (by omega) (by omega))
      omega
    · have := inj_le n m f (fun i hi => by
        have a := h1 i hi
        have b : f i ≠ n := fun q => h ⟨i, hi, q⟩
        omega) h2
      omega
theorem plc_lt {E T : Nat → Nat} {r v : Nat} (hE : ∀ j, E j ≤ 12) (hT : ∀ j, T j < 12) (hD : rowD E T r) (hv : v < 12) : plc E T r v < 12 := by
  have h1 := plc_le E T r v
  have h2 := hE r
  refine Nat.lt_of_le_of_ne (by omega) (fun q => ?_)
  have hm := plc_miss (E := E) (T := T) (r := r) (v := v) (by omega)
  have := inj_le 12 13 (fun i => if i < 12 then T (r * 12 + i) else v) (fun i hi => by
    split
    · exact hT _
    · exact hv) (fun i j hij hj => by
    split
    · split
      · exact hD i j hij (by omega)
      · exact hm i (by omega)
    · omega)
  omega
theorem wf_plc {pg : Nat} {sv : Bool} {y : RS} (h : wf pg sv y) (i j : Nat) (hi : i < 12) (hj : j < 12) (ht : y.1 i = true) : plc y.2.2.1 y.2.2.2.1 i j < 12 := by
  have hD := h.2.2.2.2.2.1.2.1 i hi (by rw [Nat.zero_add]; exact ht)
  rw [Nat.zero_add] at hD
  exact plc_lt h.1 h.2.1 hD hj
theorem wf_plcN {pg : Nat} {sv : Bool} {y : RS} (h : wf pg sv y) (i j : Nat) (hi : i < 12) (hj : j < 12) (ht : y.1 i = true) : plc (ecN y.1 y.2.2.1) y.2.2.2.1 i j < 12 := by
  rw [plc_n ht]; exact wf_plc h i j hi hj ht
/-! vertex -/
def ecV (tH : Nat → Bool) (eC : Nat → Nat) (v : Nat) : Nat → Nat := if tH v then eC else va_up eC v 0
theorem ecV_ne {tH : Nat → Bool} {eC : Nat → Nat} {v j : Nat} (h : j ≠ v) : ecV tH eC v j = eC j := by
  unfold ecV; split
  · rfl
  · exact va_up_ne _ _ h
theorem o_vertex {pg : Nat} {sv : Bool} {tH : Nat → Bool} {vA : Nat → UInt64} {eC tO : Nat → Nat} {lE : Nat → UInt64} {aW : Nat → Bool} {mS : Nat → Nat} {mE : Nat → UInt64} {sS : Nat → Nat} {aG : Nat → UInt64} {st : Nat} {sE : Nat → UInt64} {iS gN : Nat → Bool} {v : Nat} {x : UInt64} (hv : v < 12) (hx : nu x) (h : wf pg sv (tH, vA, eC, tO, lE, aW, mS, mE, sS, aG, st, sE, iS, gN)) :
    wf pg sv (va_up tH v true, va_up vA v x, ecV tH eC v, tO, lE, aW, mS, mE, sS, aG, st, sE, iS, gN) ∧ rsU (tH, vA, eC, tO, lE, aW, mS, mE, sS, aG, st, sE, iS, gN) (va_up tH v true, va_up vA v x, ecV tH eC v, tO, lE, aW, mS, mE, sS, aG, st, sE, iS, gN) ∧ ∀ j, ecN tH eC j = ecN (va_up tH v true) (ecV tH eC v) j := by
  obtain ⟨w1, w2, w3, w4, w5, w6, w7, w8, w9⟩ := h
  obtain ⟨x1, x2, x3⟩ := w6
  dsimp only at w1 w2 w3 w4 w5 x1 x2 x3 w7 w8 w9
  have e0 : ∀ r, 0 + r = r := Nat.zero_add
  have hE : ∀ j, ecV tH eC v j ≤ 12 := fun j => by
    unfold ecV; split
    · exact w1 j
    · exact va_up_all (P := fun z => z ≤ 12) w1 (Nat.zero_le _) j
  have hup : ∀ t, tH t = true → va_up tH v true t = true := fun t ht => by
    by_cases c : t = v
    · rw [c, va_up_self]
    · rw [va_up_ne _ _ c]; exact ht
  have hv0 : tH v = false → ecV tH eC v v = 0 := fun hf => by unfold ecV; rw [hf]; exact va_up_self _ _ _
  have hrow : ∀ r i, i < ecV tH eC v r → va_up tH v true r = true → tH r = true ∧ i < eC r := fun r i hi ht => by
    by_cases c : r = v
    · subst c
      cases hf : tH r with
      | false => rw [hv0 hf] at hi; exact absurd hi (Nat.not_lt_zero _)
      | true => unfold ecV at hi; rw [hf] at hi; exact ⟨rfl, hi⟩
    · rw [ecV_ne c] at hi; rw [va_up_ne _ _ c] at ht; exact ⟨ht, hi⟩
  have u1 : ∀ j, 12 ≤ j → va_up tH v true j = tH j := fun j hj => va_up_ne _ _ (by omega)
  have u2 : ∀ j, 12 ≤ j → ecV tH eC v j = eC j := fun j hj => ecV_ne (by omega)
  refine ⟨⟨hE, w2, w3, w4, va_up_all w5 hx, ⟨fun r i hr hi ht => ?_, fun r hr ht i j hij hj => ?_, fun r hr ht => ?_⟩, wfB_up u1 u2 (fun _ _ => rfl) (fun _ _ => rfl) w7, w8, w9⟩, ⟨u1, fun j hj => va_up_ne _ _ (by omega), u2, fun _ _ => rfl, fun _ _ => rfl, fun _ _ => rfl, fun _ _ => rfl, fun _ _ => rfl, rfl, rfl⟩, fun j => ?_⟩
  · simp only [e0] at hi ht ⊢
    obtain ⟨a, b⟩ := hrow r i hi ht
    have := x1 r i hr (by rw [e0]; exact b) (by rw [e0]; exact a)
    simp only [e0] at this
    exact hup _ this
  · rw [e0] at ht hj ⊢
    obtain ⟨a, b⟩ := hrow r j hj ht
    have := x2 r hr (by rw [e0]; exact a)
    rw [e0] at this
    exact this i j hij b
  · rw [e0] at ht ⊢
    have hne : r ≠ v := fun q => by subst q; rw [show (va_up tH r true, va_up vA r x, ecV tH eC r, tO, lE, aW, mS, mE, sS, aG, st, sE, iS, gN).1 r = true from va_up_self _ _ _] at ht; cases ht
    have ht : va_up tH v true r = false := ht
    rw [va_up_ne _ _ hne] at ht
    have := x3 r hr (by rw [e0]; exact ht)
    rw [e0] at this; exact this
  · by_cases c : j = v
    · subst c
      rw [ecN_t (va_up_self _ _ _)]
      unfold ecN ecV
      cases tH j
      · exact (va_up_self _ _ _).symm
      · rfl
    · unfold ecN; rw [va_up_ne _ _ c, ecV_ne c]
/-! edge -/
def ecE (eC tO : Nat → Nat) (v w : Nat) : Nat → Nat := if plc eC tO v w = eC v then va_up eC v (eC v + 1) else eC
theorem ecE_ne {eC tO : Nat → Nat} {v w j : Nat} (h : j ≠ v) : ecE eC tO v w j = eC j := by
  unfold ecE; split
  · exact va_up_ne _ _ h
  · rfl
theorem ecE_N {tH : Nat → Bool} {eC tO : Nat → Nat} {v w : Nat} (ht : tH v = true) : ∀ j, ecE (ecN tH eC) tO v w j = ecN tH (ecE eC tO v w) j := fun j => by
  unfold ecE; rw [plc_n ht, ecN_t ht]
  split
  · by_cases c : j = v
    · subst c; rw [va_up_self, ecN_t ht, va_up_self]
    · rw [va_up_ne _ _ c]; unfold ecN; rw [va_up_ne _ _ c]
  · rfl
theorem o_edge {pg : Nat} {sv : Bool} {tH : Nat → Bool} {vA : Nat → UInt64} {eC tO : Nat → Nat} {lE : Nat → UInt64} {aW : Nat → Bool} {mS : Nat → Nat} {mE : Nat → UInt64} {sS : Nat → Nat} {aG : Nat → UInt64} {st : Nat} {sE : Nat → UInt64} {iS gN : Nat → Bool} {v w : Nat} {x : UInt64} (hv : v < 12) (hw : w < 12) (htv : tH v = true) (htw : tH w = true) (hx : fn x) (h : wf pg sv (tH, vA, eC, tO, lE, aW, mS, mE, sS, aG, st, sE, iS, gN)) :
    wf pg sv (tH, vA, ecE eC tO v w, va_up tO (v * 12 + plc eC tO v w) w, va_up lE (v * 12 + plc eC tO v w) x, aW, mS, mE, sS, aG, st, sE, iS, gN) ∧ rsU (tH, vA, eC, tO, lE, aW, mS, mE, sS, aG, st, sE, iS, gN) (tH, vA, ecE eC tO v w, va_up tO (v * 12 + plc eC tO v w) w, va_up lE (v * 12 + plc eC tO v w) x, aW, mS, mE, sS, aG, st, sE, iS, gN) := by
  have hpl := wf_plc h v w hv hw htv
  obtain ⟨w1, w2, w3, w4, w5, w6, w7, w8, w9⟩ := h
  obtain ⟨x1, x2, x3⟩ := w6
  dsimp only at w1 w2 w3 w4 w5 x1 x2 x3 w7 w8 w9 hpl
  have e0 : ∀ r, 0 + r = r := Nat.zero_add
  have hle := plc_le eC tO v w
  have hEv := w1 v
  have hE : ∀ j, ecE eC tO v w j ≤ 12 := fun j => by
    unfold ecE; split
    · by_cases c : j = v
      · subst c; rw [va_up_self]; omega
      · rw [va_up_ne _ _ c]; exact w1 j
    · exact w1 j
  have u2 : ∀ j, 12 ≤ j → ecE eC tO v w j = eC j := fun j hj => ecE_ne (by omega)
  have u3 : ∀ j, 144 ≤ j → va_up tO (v * 12 + plc eC tO v w) w j = tO j := fun j hj => va_up_ne _ _ (by omega)
  have hlt : ∀ i, i < ecE eC tO v w v → i = plc eC tO v w ∨ i < eC v := fun i hi => by
    unfold ecE at hi
    split at hi
    · next c => rw [va_up_self] at hi; omega
    · exact Or.inr hi
  have hhit : ∀ i, i ≠ plc eC tO v w → i < eC v → tO (v * 12 + i) ≠ w := fun i hne hi q => by
    by_cases c : plc eC tO v w = eC v
    · exact plc_miss c i hi q
    · obtain ⟨h1, h2⟩ := plc_hit c
      have hD := x2 v hv (by rw [e0]; exact htv)
      rw [e0] at hD
      rcases Nat.lt_or_ge i (plc eC tO v w) with z | z
      · exact hD i _ z h1 (q.trans h2.symm)
      · exact hD _ i (by omega) hi (h2.trans q.symm)
  refine ⟨⟨hE, va_up_all (P := fun z => z < 12) w2 hw, va_up_all w3 hx, w4, w5, ⟨fun r i hr hi ht => ?_, fun r hr ht i j hij hj => ?_, x3⟩, wfB_up (fun _ _ => rfl) u2 u3 (fun _ _ => rfl) w7, w8, w9⟩, fun _ _ => rfl, fun _ _ => rfl, u2, u3, fun j hj => va_up_ne _ _ (by omega), fun _ _ => rfl, fun _ _ => rfl, fun _ _ => rfl, rfl, rfl⟩
  · simp only [e0] at hi ht ⊢
    show tH (va_up tO (v * 12 + plc eC tO v w) w (r * 12 + i)) = true
    have hi12 : i < 12 := Nat.lt_of_lt_of_le hi (hE r)
    by_cases c : r * 12 + i = v * 12 + plc eC tO v w
    · rw [c, va_up_self]; exact htw
    · rw [va_up_ne _ _ c]
      have := x1 r i hr (by
        rw [e0]
        by_cases d : r = v
        · subst d; rcases hlt i hi with z | z
          · exact absurd (by rw [z]) c
          · exact z
        · have hi : i < ecE eC tO v w r := hi
          rw [ecE_ne d] at hi; exact hi) (by rw [e0]; exact ht)
      simp only [e0] at this
      exact this
  · rw [e0] at ht hj ⊢
    show va_up tO (v * 12 + plc eC tO v w) w (r * 12 + i) ≠ va_up tO (v * 12 + plc eC tO v w) w (r * 12 + j)
    have hj12 : j < 12 := Nat.lt_of_lt_of_le hj (hE r)
    by_cases d : r = v
    · subst d
      by_cases c1 : i = plc eC tO r w
      · have cj : j ≠ plc eC tO r w := by omega
        rw [c1, va_up_self, va_up_ne _ _ (by omega)]
        rcases hlt j hj with z | z
        · exact absurd z cj
        · exact (hhit j cj z).symm
      · rw [va_up_ne _ _ (by omega)]
        by_cases c2 : j = plc eC tO r w
        · rw [c2, va_up_self]
          exact hhit i c1 (by omega)
        · rw [va_up_ne _ _ (by omega)]
          rcases hlt j hj with z | z
          · exact absurd z c2
          · have hD := x2 r hr (by rw [e0]; exact ht)
            rw [e0] at hD
            exact hD i j hij z
    · have hj : j < ecE eC tO v w r := hj
      rw [ecE_ne d] at hj
      rw [va_up_ne _ _ (by omega), va_up_ne _ _ (by omega)]
      have hD := x2 r hr (by rw [e0]; exact ht)
      rw [e0] at hD
      exact hD i j hij hj
/-! remove -/
theorem o_remove {pg : Nat} {sv : Bool} {tH : Nat → Bool} {vA : Nat → UInt64} {eC tO : Nat → Nat} {lE : Nat → UInt64} {aW : Nat → Bool} {mS : Nat → Nat} {mE : Nat → UInt64} {sS : Nat → Nat} {aG : Nat → UInt64} {st : Nat} {sE : Nat → UInt64} {iS gN : Nat → Bool} {k v : Nat} (hk : k = 12) (hv : v < 12) (h : wf pg sv (tH, vA, eC, tO, lE, aW, mS, mE, sS, aG, st, sE, iS, gN)) :
    wf pg sv (va_up tH v false, vA, (takS (va_up tH v false) eC tO lE v k).1, (takS (va_up tH v false) eC tO lE v k).2.1, (takS (va_up tH v false) eC tO lE v k).2.2, va_up aW v false, va_up mS v 0, mE, sS, aG, st, sE, iS, gN) ∧ rsU (tH, vA, eC, tO, lE, aW, mS, mE, sS, aG, st, sE, iS, gN) (va_up tH v false, vA, (takS (va_up tH v false) eC tO lE v k).1, (takS (va_up tH v false) eC tO lE v k).2.1, (takS (va_up tH v false) eC tO lE v k).2.2, va_up aW v false, va_up mS v 0, mE, sS, aG, st, sE, iS, gN) := by
  obtain ⟨w1, w2, w3, w4, w5, w6, w7, w8, w9⟩ := h
  dsimp only at w1 w2 w3 w4 w5 w6 w7 w8 w9
  have hI : dsI (tak1 k (tH, eC, tO, lE, aW, mS) v) := tak1_I hk hv ⟨w1, w2, w3, w4, w6⟩
  obtain ⟨u1, u2, u3, u4, u5, u6⟩ := (tak1_U hk hv w1 w2 : dsU (tH, eC, tO, lE, aW, mS) (tak1 k (tH, eC, tO, lE, aW, mS) v))
  obtain ⟨i1, i2, i3, i4, i5⟩ := hI
  refine ⟨⟨i1, i2, i3, i4, w5, i5, wfB_up u1 u2 u3 u6 w7, fun r j hr hj => ?_, fun hs => wfM_up u6 (fun _ _ => rfl) (w9 hs)⟩, u1, fun _ _ => rfl, u2, u3, u4, u5, u6, fun _ _ => rfl, rfl, rfl⟩
  refine w8 r j hr (Nat.lt_of_lt_of_le hj ?_)
  rw [Nat.zero_add]
  show va_up mS v 0 r ≤ mS r
  by_cases c : r = v
  · subst c; rw [va_up_self]; exact Nat.zero_le _
  · rw [va_up_ne _ _ c]; exact Nat.le_refl _
/-! start -/
theorem o_start {pg pg2 : Nat} {sv : Bool} {tH : Nat → Bool} {vA : Nat → UInt64} {eC tO : Nat → Nat} {lE : Nat → UInt64} {aW : Nat → Bool} {mS : Nat → Nat} {mE : Nat → UInt64} {sS : Nat → Nat} {aG : Nat → UInt64} {st : Nat} {sE : Nat → UInt64} {iS gN : Nat → Bool} {x : UInt64} {k : Nat} (hk : k = 12) (h : wf pg sv (tH, vA, eC, tO, lE, aW, mS, mE, sS, aG, st, sE, iS, gN)) :
    wf pg2 false (tH, vA, eC, tO, lE, mix k tH aW, mix k (fun _ => 0) mS, mE, va_up sS 0 0, va_up aG 0 x, 1, sE, iS, gN) ∧ rsU (tH, vA, eC, tO, lE, aW, mS, mE, sS, aG, st, sE, iS, gN) (tH, vA, eC, tO, lE, mix k tH aW, mix k (fun _ => 0) mS, mE, va_up sS 0 0, va_up aG 0 x, 1, sE, iS, gN) := by
  obtain ⟨w1, w2, w3, w4, w5, w6, w7, w8, w9⟩ := h
  obtain ⟨x1, x2, x3⟩ := w6
  dsimp only at w1 w2 w3 w4 w5 x1 x2 x3 w7 w8 w9
  have u6 : ∀ j, 12 ≤ j → mix k (fun _ => 0) mS j = mS j := fun j hj => by unfold mix; rw [if_neg (by omega)]
  have z6 : ∀ j, j < 12 → mix k (fun _ => 0) mS j = 0 := fun j hj => by unfold mix; rw [if_pos (by omega)]
  refine ⟨⟨w1, w2, w3, fun j => ?_, w5, ⟨x1, x2, fun r hr _ => ?_⟩, wfB_up (fun _ _ => rfl) (fun _ _ => rfl) (fun _ _ => rfl) u6 w7, fun r j hr hj => ?_, fun hs => absurd hs Bool.false_ne_true⟩, fun _ _ => rfl, fun _ _ => rfl, fun _ _ => rfl, fun _ _ => rfl, fun _ _ => rfl, fun j hj => by show mix k tH aW j = aW j; unfold mix; rw [if_neg (by omega)], u6, fun _ _ => rfl, rfl, rfl⟩
  · show mix k (fun _ => 0) mS j ≤ 12
    unfold mix; split
    · exact Nat.zero_le _
    · exact w4 j
  · rw [Nat.zero_add]; exact z6 r hr
  · have hj : j < mix k (fun _ => 0) mS (0 + r) := hj
    rw [Nat.zero_add, z6 r hr] at hj
    exact absurd hj (Nat.not_lt_zero _)
/-! step -/
theorem rRun_all {pg nb : Nat} {cb sv : Bool} (hp : pg < 4) : ∀ n (y : RS), wf pg sv y → wf pg sv (rRun pg nb cb n y) ∧ rsU y (rRun pg nb cb n y) ∧ (rRun pg nb cb n y).2.2.2.2.2.2.2.2.1 0 ≤ y.2.2.2.2.2.2.2.2.1 0 + n ∧ (y.2.2.2.2.2.2.2.2.2.2.1 < 3 → (rRun pg nb cb n y).2.2.2.2.2.2.2.2.2.2.1 < 3)
  | 0, y, h => ⟨h, ⟨fun _ _ => rfl, fun _ _ => rfl, fun _ _ => rfl, fun _ _ => rfl, fun _ _ => rfl, fun _ _ => rfl, fun _ _ => rfl, fun _ _ => rfl, rfl, rfl⟩, Nat.le_refl _, fun h => h⟩
  | n + 1, y, h => by
    unfold rRun
    split
    · obtain ⟨a, b⟩ := rS_all (nb := nb) (cb := cb) hp h
      obtain ⟨c, d, e, f⟩ := rRun_all (nb := nb) (cb := cb) hp n _ a
      obtain ⟨b1, b2, b3, b4, b5, b6, b7, b8, b9, b10⟩ := b
      obtain ⟨d1, d2, d3, d4, d5, d6, d7, d8, d9, d10⟩ := d
      have hs := rS_ss (pg := pg) (nb := nb) (cb := cb) (y := y)
      exact ⟨c, ⟨fun j hj => (d1 j hj).trans (b1 j hj), fun j hj => (d2 j hj).trans (b2 j hj), fun j hj => (d3 j hj).trans (b3 j hj), fun j hj => (d4 j hj).trans (b4 j hj), fun j hj => (d5 j hj).trans (b5 j hj), fun j hj => (d6 j hj).trans (b6 j hj), fun j hj => (d7 j hj).trans (b7 j hj), fun j hj => (d8 j hj).trans (b8 j hj), d9.trans b9, d10.trans b10⟩, by omega, fun _ => f rS_st⟩
    · exact ⟨h, ⟨fun _ _ => rfl, fun _ _ => rfl, fun _ _ => rfl, fun _ _ => rfl, fun _ _ => rfl, fun _ _ => rfl, fun _ _ => rfl, fun _ _ => rfl, rfl, rfl⟩, by omega, fun h => h⟩
theorem o_step {pg nb : Nat} {cb sv : Bool} {a : Int32} {y : RS} (hp : pg < 4) (h : wf pg sv y) : wf pg sv (rStp pg nb cb a y) ∧ rsU y (rStp pg nb cb a y) ∧ (rStp pg nb cb a y).2.2.2.2.2.2.2.2.1 0 ≤ y.2.2.2.2.2.2.2.2.1 0 + 10 ∧ (y.2.2.2.2.2.2.2.2.2.2.1 < 3 → (rStp pg nb cb a y).2.2.2.2.2.2.2.2.2.2.1 < 3) := by
  unfold rStp
  split
  · next c =>
    have hk := inR_nat (v := a) (by decide) c.1 (by decide)
    obtain ⟨j, hj, rfl⟩ := hk
    obtain ⟨x1, x2, x3, x4⟩ := rRun_all (nb := nb) (cb := cb) hp (nI j).toNatClampNeg y h
    rw [nI_clamp (by omega)] at x3
    exact ⟨x1, x2, Nat.le_trans (by rw [nI_clamp (by omega)]; exact x3) (by omega), x4⟩
  · exact ⟨h, ⟨fun _ _ => rfl, fun _ _ => rfl, fun _ _ => rfl, fun _ _ => rfl, fun _ _ => rfl, fun _ _ => rfl, fun _ _ => rfl, fun _ _ => rfl, rfl, rfl⟩, by omega, fun h => h⟩

/-! save, lose, recover -/
theorem blk_in {α : Type} {f : Nat → α} {fr to n j : Nat} (h : j < n) : blk f fr to n (to + j) = f (fr + j) := by
  unfold blk; rw [if_pos (by omega), show to + j - to = j by omega]
theorem blk_out {α : Type} {f : Nat → α} {fr to n j : Nat} (h : j < to ∨ to + n ≤ j) : blk f fr to n j = f j := by
  unfold blk; rw [if_neg (by omega)]
theorem blk_P {α : Type} {P : α → Prop} {f : Nat → α} {fr to n : Nat} (h : ∀ j, P (f j)) (j : Nat) : P (blk f fr to n j) := by
  unfold blk; split
  · exact h _
  · exact h _
/-- the rows at b as those at b2 were -/
theorem wfB_mv {b b2 : Nat} {th th' : Nat → Bool} {E E' T T' mc mc' : Nat → Nat} (hE : ∀ j, E j ≤ 12) (hT : ∀ j, T j < 12) (h1 : ∀ j, j < 12 → th' (b + j) = th (b2 + j)) (h2 : ∀ j, j < 12 → E' (b + j) = E (b2 + j)) (h3 : ∀ j, j < 144 → T' (b * 12 + j) = T (b2 * 12 + j)) (h4 : ∀ j, j < 12 → mc' (b + j) = mc (b2 + j)) (h : wfB b2 th E T mc) : wfB b th' E' T' mc' := by
  obtain ⟨x1, x2, x3⟩ := h
  have e : ∀ b v i : Nat, (b + v) * 12 + i = b * 12 + (v * 12 + i) := fun b v i => by omega
  refine ⟨fun v i hv hi ht => ?_, fun v hv ht i j hij hj => ?_, fun v hv ht => ?_⟩
  · rw [h2 v hv] at hi; rw [h1 v hv] at ht
    have := hE (b2 + v)
    have hx := x1 v i hv hi ht
    rw [e] at hx ⊢
    rw [h3 _ (by omega), h1 _ (hT _)]
    exact hx
  · rw [h2 v hv] at hj; rw [h1 v hv] at ht
    have := hE (b2 + v)
    have hx := x2 v hv ht i j hij hj
    rw [e, e] at hx ⊢
    rw [h3 _ (by omega), h3 _ (by omega)]
    exact hx
  · rw [h1 v hv] at ht; rw [h4 v hv]; exact x3 v hv ht
theorem wfM_mv {pg b b2 : Nat} {mc mc' : Nat → Nat} {ml ml' : Nat → UInt64} (hM : ∀ j, mc j ≤ 12) (h1 : ∀ j, j < 12 → mc' (b + j) = mc (b2 + j)) (h2 : ∀ j, j < 144 → ml' (b * 12 + j) = ml (b2 * 12 + j)) (h : wfM pg b2 mc ml) : wfM pg b mc' ml' := fun v j hv hj => by
  rw [h1 v hv] at hj
  have := hM (b2 + v)
  have hx := h v j hv hj
  rw [show (b2 + v) * 12 + j = b2 * 12 + (v * 12 + j) by omega] at hx
  rw [show (b + v) * 12 + j = b * 12 + (v * 12 + j) by omega, h2 _ (by omega)]
  exact hx
abbrev cpY (tH : Nat → Bool) (vA : Nat → UInt64) (eC tO : Nat → Nat) (lE : Nat → UInt64) (aW : Nat → Bool) (mS : Nat → Nat) (mE : Nat → UInt64) (fr to : Nat) (sS : Nat → Nat) (aG : Nat → UInt64) (st : Nat) (sE : Nat → UInt64) (iS gN : Nat → Bool) : RS :=
  (blk tH fr to 12, blk vA fr to 12, blk eC fr to 12, blk tO (fr * 12) (to * 12) 144, blk lE (fr * 12) (to * 12) 144, blk aW fr to 12, blk mS fr to 12, blk mE (fr * 12) (to * 12) 144, sS, aG, st, sE, iS, gN)
theorem o_save {pg : Nat} {sv : Bool} {tH : Nat → Bool} {vA : Nat → UInt64} {eC tO : Nat → Nat} {lE : Nat → UInt64} {aW : Nat → Bool} {mS : Nat → Nat} {mE : Nat → UInt64} {sS sS2 : Nat → Nat} {aG aG2 : Nat → UInt64} {st : Nat} {sE : Nat → UInt64} {iS gN : Nat → Bool} (h : wf pg sv (tH, vA, eC, tO, lE, aW, mS, mE, sS, aG, st, sE, iS, gN)) : wf pg true (cpY tH vA eC tO lE aW mS mE 0 12 sS2 aG2 st sE iS gN) := by
  obtain ⟨w1, w2, w3, w4, w5, w6, w7, w8, w9⟩ := h
  dsimp only at w1 w2 w3 w4 w5 w6 w7 w8 w9
  have lo : ∀ {α : Type} (f : Nat → α) (j : Nat), j < 12 → blk f 0 12 12 (0 + j) = f (0 + j) := fun f j hj => blk_out (by omega)
  have hi : ∀ {α : Type} (f : Nat → α) (j : Nat), j < 12 → blk f 0 12 12 (12 + j) = f (0 + j) := fun f j hj => blk_in hj
  have lo2 : ∀ {α : Type} (f : Nat → α) (j : Nat), j < 144 → blk f (0 * 12) (12 * 12) 144 (0 * 12 + j) = f (0 * 12 + j) := fun f j hj => blk_out (by omega)
  have hi2 : ∀ {α : Type} (f : Nat → α) (j : Nat), j < 144 → blk f (0 * 12) (12 * 12) 144 (12 * 12 + j) = f (0 * 12 + j) := fun f j hj => blk_in hj
  exact ⟨blk_P (P := fun z => z ≤ 12) w1, blk_P (P := fun z => z < 12) w2, blk_P w3, blk_P (P := fun z => z ≤ 12) w4, blk_P w5, wfB_mv w1 w2 (lo tH) (lo eC) (lo2 tO) (lo mS) w6, wfB_mv w1 w2 (hi tH) (hi eC) (hi2 tO) (hi mS) w6, wfM_mv w4 (lo mS) (lo2 mE) w8, fun _ => wfM_mv w4 (hi mS) (hi2 mE) w8⟩
theorem o_recover {pg : Nat} {sv : Bool} {tH : Nat → Bool} {vA : Nat → UInt64} {eC tO : Nat → Nat} {lE : Nat → UInt64} {aW : Nat → Bool} {mS : Nat → Nat} {mE : Nat → UInt64} {sS sS2 : Nat → Nat} {aG aG2 : Nat → UInt64} {st st2 : Nat} {sE : Nat → UInt64} {iS gN : Nat → Bool} (hs : sv = true) (h1 : sS2 1 = sS 1) (h2 : aG2 1 = aG 1) (h : wf pg sv (tH, vA, eC, tO, lE, aW, mS, mE, sS, aG, st, sE, iS, gN)) : wf pg sv (cpY tH vA eC tO lE aW mS mE 12 0 sS2 aG2 st2 sE iS gN) ∧ rsU (tH, vA, eC, tO, lE, aW, mS, mE, sS, aG, st, sE, iS, gN) (cpY tH vA eC tO lE aW mS mE 12 0 sS2 aG2 st2 sE iS gN) := by
  obtain ⟨w1, w2, w3, w4, w5, w6, w7, w8, w9⟩ := h
  dsimp only at w1 w2 w3 w4 w5 w6 w7 w8 w9
  have lo : ∀ {α : Type} (f : Nat → α) (j : Nat), j < 12 → blk f 12 0 12 (0 + j) = f (12 + j) := fun f j hj => blk_in hj
  have up : ∀ {α : Type} (f : Nat → α) (j : Nat), 12 ≤ j → blk f 12 0 12 j = f j := fun f j hj => blk_out (by omega)
  have lo2 : ∀ {α : Type} (f : Nat → α) (j : Nat), j < 144 → blk f (12 * 12) (0 * 12) 144 (0 * 12 + j) = f (12 * 12 + j) := fun f j hj => blk_in hj
  have up2 : ∀ {α : Type} (f : Nat → α) (j : Nat), 144 ≤ j → blk f (12 * 12) (0 * 12) 144 j = f j := fun f j hj => blk_out (by omega)
  exact ⟨⟨blk_P (P := fun z => z ≤ 12) w1, blk_P (P := fun z => z < 12) w2, blk_P w3, blk_P (P := fun z => z ≤ 12) w4, blk_P w5, wfB_mv w1 w2 (lo tH) (lo eC) (lo2 tO) (lo mS) w7, wfB_up (up tH) (up eC) (up2 tO) (up mS) w7, wfM_mv w4 (lo mS) (lo2 mE) (w9 hs), fun hs => wfM_up (up mS) (up2 mE) (w9 hs)⟩, up tH, up vA, up eC, up2 tO, up2 lE, up aW, up mS, up2 mE, h1, h2⟩
theorem wipF_P {α : Type} {P : α → Prop} {th : Nat → Bool} {x : α} {f : Nat → α} {k : Nat} (h : ∀ j, P (f j)) (hx : P x) : ∀ n j, P (wipF th x f k n j)
  | 0, j => h j
  | n + 1, j => by
    unfold wipF; split
    · exact va_up_all (wipF_P h hx n) hx j
    · exact wipF_P h hx n j
theorem wipF_up {α : Type} {th : Nat → Bool} {x : α} {f : Nat → α} {k : Nat} (hk : k < 3) : ∀ n j, n ≤ 4 → 12 ≤ j → wipF th x f k n j = f j
  | 0, _, _, _ => rfl
  | n + 1, j, hn, hj => by
    unfold wipF; split
    · rw [va_up_ne _ _ (by omega)]; exact wipF_up hk n j (by omega) hj
    · exact wipF_up hk n j (by omega) hj
theorem wipF_le {th : Nat → Bool} {f : Nat → Nat} {k : Nat} : ∀ n j, wipF th 0 f k n j ≤ f j
  | 0, _ => Nat.le_refl _
  | n + 1, j => by
    unfold wipF; split
    · by_cases c : j = k + 3 * n
      · subst c; rw [va_up_self]; exact Nat.zero_le _
      · rw [va_up_ne _ _ c]; exact wipF_le n j
    · exact wipF_le n j
theorem o_lose {pg : Nat} {sv : Bool} {tH : Nat → Bool} {vA : Nat → UInt64} {eC tO : Nat → Nat} {lE : Nat → UInt64} {aW : Nat → Bool} {mS : Nat → Nat} {mE : Nat → UInt64} {sS : Nat → Nat} {aG : Nat → UInt64} {st st2 : Nat} {sE : Nat → UInt64} {iS gN : Nat → Bool} {v n : Nat} (hn : n ≤ 4) (hv : v < 3) (h : wf pg sv (tH, vA, eC, tO, lE, aW, mS, mE, sS, aG, st, sE, iS, gN)) :
    wf pg sv (tH, wipF tH FP.dconst0 vA v n, eC, tO, lE, aW, wipF tH 0 mS v n, mE, sS, aG, st2, sE, iS, gN) ∧ rsU (tH, vA, eC, tO, lE, aW, mS, mE, sS, aG, st, sE, iS, gN) (tH, wipF tH FP.dconst0 vA v n, eC, tO, lE, aW, wipF tH 0 mS v n, mE, sS, aG, st2, sE, iS, gN) := by
  obtain ⟨w1, w2, w3, w4, w5, w6, w7, w8, w9⟩ := h
  obtain ⟨x1, x2, x3⟩ := w6
  dsimp only at w1 w2 w3 w4 w5 x1 x2 x3 w7 w8 w9
  have u6 : ∀ j, 12 ≤ j → wipF tH 0 mS v n j = mS j := fun j hj => wipF_up hv n j hn hj
  refine ⟨⟨w1, w2, w3, fun j => Nat.le_trans (wipF_le n j) (w4 j), wipF_P w5 (nn_nu nn_0) n, ⟨x1, x2, fun r hr ht => Nat.le_zero.mp (Nat.le_trans (wipF_le n _) (Nat.le_of_eq (x3 r hr ht)))⟩, wfB_up (fun _ _ => rfl) (fun _ _ => rfl) (fun _ _ => rfl) u6 w7, fun r j hr hj => w8 r j hr (Nat.lt_of_lt_of_le hj (wipF_le n _)), fun hs => wfM_up u6 (fun _ _ => rfl) (w9 hs)⟩, fun _ _ => rfl, fun j hj => wipF_up hv n j hn hj, fun _ _ => rfl, fun _ _ => rfl, fun _ _ => rfl, fun _ _ => rfl, u6, fun _ _ => rfl, rfl, rfl⟩
/-! codes and answers -/
theorem amR_v (x : UInt64) : amR x (-100000) (nI 100000) = (dge x 13904980397738950656 && dle x 4681608360884174848) := by
  unfold amR
  rw [show FP.i2d (-100000) = 13904980397738950656 by decide +kernel, show FP.i2d (nI 100000) = 4681608360884174848 by decide +kernel]
theorem amR_e (x : UInt64) : amR x (nI 0) (nI 1000) = (dge x FP.dconst0 && dle x 4652007308841189376) := by
  unfold amR
  rw [show FP.i2d (nI 0) = FP.dconst0 by decide +kernel, show FP.i2d (nI 1000) = 4652007308841189376 by decide +kernel]
theorem vx_iff (a : Int32) (x : UInt64) : (inR a (nI 0) (nI 11) = true ∧ amR x (-100000) (nI 100000) = true) ↔ vxR a x = true := by
  rw [amR_v]; unfold vxR; simp only [Bool.and_eq_true]
theorem eg_iff (a b : Int32) (x : UInt64) : (inR a (nI 0) (nI 11) = true ∧ inR b (nI 0) (nI 11) = true ∧ amR x (nI 0) (nI 1000) = true) ↔ egR a b x = true := by
  rw [amR_e]; unfold egR; simp only [Bool.and_eq_true]
theorem st_iff (a b : Int32) : (inR a (nI 0) (nI 3) = true ∧ inR b (nI 0) (nI 30) = true) ↔ stR a b = true := by
  unfold stR; rw [Bool.and_eq_true]
theorem vx_nu {a : Int32} {x : UInt64} (h : vxR a x = true) : nu x := by
  unfold vxR at h; rw [Bool.and_eq_true, Bool.and_eq_true] at h
  exact dge_nu h.2.1
theorem eg_fn {a b : Int32} {x : UInt64} (h : egR a b x = true) : fn x := by
  unfold egR at h; rw [Bool.and_eq_true, Bool.and_eq_true, Bool.and_eq_true] at h
  exact fn_of h.2.2.1 h.2.2.2 (fin_of (by decide +kernel)) (fin_of (by decide +kernel))
theorem mfC_eq {th : Nat → Bool} {st : Nat} {mc : Nat → Nat} (h : ∀ v, v < 12 → th v = false → mc v = 0) : ∀ n, n ≤ 12 → mfC st mc n = msC th st mc n
  | 0, _ => rfl
  | n + 1, hn => by
    unfold mfC msC
    rw [mfC_eq (th := th) h n (by omega)]
    by_cases c : st = 0
    · rw [if_pos c, if_neg (fun q => q.2 c)]; rfl
    · rw [if_neg c]
      cases ht : th n with
      | true => rw [if_pos ⟨rfl, c⟩]
      | false => rw [if_neg (fun q => Bool.false_ne_true q.1), h n (by omega) ht]; rfl
theorem ccnt_eq {th : Nat → Bool} {st ss k : Nat} {sv : Bool} {mc : Nat → Nat} (h : ∀ v, v < 12 → th v = false → mc v = 0) : ccnt th mc st sv ss k = mcnt th mc st sv ss k := by
  unfold ccnt mcnt; rw [mfC_eq h 12 (Nat.le_refl _)]
theorem wf_m0 {pg : Nat} {sv : Bool} {y : RS} (h : wf pg sv y) : ∀ v, v < 12 → y.1 v = false → y.2.2.2.2.2.2.1 v = 0 := fun v hv ht => by
  have := h.2.2.2.2.2.1.2.2 v hv (by rw [Nat.zero_add]; exact ht)
  rw [Nat.zero_add] at this; exact this
theorem abt_eq {th : Nat → Bool} {eC tO : Nat → Nat} {aW : Nat → Bool} {mS : Nat → Nat} {st k w : Nat} (h : th k = true) : abt (ecN th eC) tO aW mS st k w = abt eC tO aW mS st k w := by
  unfold abt tof; rw [ecN_t h]
theorem knC_t {th : Nat → Bool} {a : Int32} {rg : Bool} (h : knC th a rg = 0) : th a.toNatClampNeg = true := by
  unfold knC at h
  split at h
  · split at h
    · next c => exact c
    · exact absurd h (by decide)
  · exact absurd h (by decide)
/-- message: the class's test against the reference's -/
theorem inM_iff {a : Int32} {st n : Nat} (hn : n ≤ 12) : (¬ a < 0 ∧ a < nI (if st = 0 then 0 else n)) ↔ (st ≠ 0 ∧ inR a (nI 0) (nI n - nI 1) = true) := by
  by_cases c : st = 0
  · rw [if_pos c]
    refine ⟨fun h => ?_, fun h => absurd c h.1⟩
    exfalso
    have : (nI 0 : Int32) = 0 := nI_0
    rw [this] at h
    exact h.1 h.2
  · rw [if_neg c]
    refine ⟨fun h => ⟨c, ?_⟩, fun h => ?_⟩
    · obtain ⟨j, hj, rfl⟩ := inM_nat hn h.1 h.2
      cases n with
      | zero => exact absurd hj (Nat.not_lt_zero _)
      | succ n =>
        rw [show nI (n + 1) - nI 1 = nI n from nI_pred n]
        unfold inR
        have h1 : ¬ nI j < nI 0 := fun q => by rw [Int32.lt_iff_toInt_lt, nI_toInt (by omega), nI_toInt (by decide)] at q; omega
        have h2 : ¬ nI n < nI j := fun q => by rw [Int32.lt_iff_toInt_lt, nI_toInt (by omega), nI_toInt (by omega)] at q; omega
        simp [h1, h2]
    · obtain ⟨j, hj, rfl⟩ := inR_m hn h.2
      refine ⟨fun q => ?_, ?_⟩
      · rw [← nI_0, Int32.lt_iff_toInt_lt, nI_toInt (by omega), nI_toInt (by decide)] at q; omega
      · rw [Int32.lt_iff_toInt_lt, nI_toInt (by omega), nI_toInt (by omega)]; omega
theorem ms_eq {tH : Nat → Bool} {mS : Nat → Nat} {a b : Int32} {st : Nat} (hM : ∀ j, mS j ≤ 12) : (if inR a (nI 0) (nI 11) = true then (if tH a.toNatClampNeg = true then (if (¬ b < 0 ∧ b < nI (if st = 0 then 0 else mS a.toNatClampNeg)) then 0 else 3) else 2) else 1) = (if knC tH a true = 0 then (if st ≠ 0 ∧ inR b (nI 0) (nI (mS a.toNatClampNeg) - nI 1) = true then 0 else 3) else knC tH a true) := by
  by_cases c1 : inR a (nI 0) (nI 11) = true
  · rw [if_pos c1]
    by_cases c2 : tH a.toNatClampNeg = true
    · have e : knC tH a true = 0 := by unfold knC; rw [if_pos (And.intro c1 rfl), if_pos c2]
      rw [if_pos c2, if_pos e]
      by_cases c3 : (¬ b < 0 ∧ b < nI (if st = 0 then 0 else mS a.toNatClampNeg))
      · rw [if_pos c3, if_pos ((inM_iff (hM _)).mp c3)]
      · rw [if_neg c3, if_neg (fun q => c3 ((inM_iff (hM _)).mpr q))]
    · have e : knC tH a true = 2 := by unfold knC; rw [if_pos (And.intro c1 rfl), if_neg c2]
      rw [if_neg c2, e, if_neg (by decide)]
  · have e : knC tH a true = 1 := by unfold knC; rw [if_neg (fun q => c1 q.1)]
    rw [if_neg c1, e, if_neg (by decide)]
theorem law_gt {L i : Nat} (hL : L ≤ 2048) (hi : i ≤ 512) : (nI L - nI 4 < nI (4 * i)) ↔ L < 4 * i + 4 := by
  rcases Nat.lt_or_ge L 4 with c | c
  · have e : ∀ L, L < 4 → (nI L - nI 4).toInt = (L : Int) - 4 := by
      intro L hL
      match L, hL with
      | 0, _ => decide +kernel
      | 1, _ => decide +kernel
      | 2, _ => decide +kernel
      | 3, _ => decide +kernel
      | n + 4, h => exact absurd h (by omega)
    rw [Int32.lt_iff_toInt_lt, e L c, nI_toInt (by omega)]
    omega
  · rw [pk_sub c, Int32.lt_iff_toInt_lt, nI_toInt (by omega), nI_toInt (by omega)]
    omega
theorem and15 (x : Int32) : ∃ n : Nat, n ≤ 15 ∧ x &&& nI 15 = nI n := by
  refine ⟨(x &&& nI 15).toNatClampNeg, ?_⟩
  have h : (x &&& nI 15).toBitVec.toNat ≤ 15 := by
    show (x.toBitVec &&& (nI 15).toBitVec).toNat ≤ 15
    rw [BitVec.toNat_and]
    exact Nat.le_trans Nat.and_le_right (by decide +kernel)
  have hi : (x &&& nI 15).toInt = (((x &&& nI 15).toBitVec.toNat : Nat) : Int) := by
    show (x &&& nI 15).toBitVec.toInt = _
    rw [BitVec.toInt_eq_toNat_of_lt (by omega)]
  have hc : (x &&& nI 15).toNatClampNeg = (x &&& nI 15).toBitVec.toNat := by
    show (x &&& nI 15).toInt.toNat = _
    rw [hi]; rfl
  refine ⟨by rw [hc]; exact h, ?_⟩
  apply Int32.toInt_inj.mp
  rw [nI_toInt (by omega), hi, hc]

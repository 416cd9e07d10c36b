/-! rows of the law's walk -/
section LAW
variable {p : Program} {l : Launch} {e : Env} {R : Room} {s : State} {m : MethodId} {args : Array Value} {below : List Frame} {meth : Method} {c : Code} {H : Heap} {locs : List Loc} {cells slots : Nat} {Q : State → Prop} {cc : ByteArray} {pc : Nat} {ls : Array Slot} {rest st0 : List Value} {D : va_G} {cl : List vw_C} {tys : List (ClassId × FieldType)} {ws wc wr : va_W} {A : Nat → Prop} {H0 : Heap} {a : Array Value} {S : Type} {w1 : S → va_W}
theorem nw_sld (hx : p.tables.exec = Jvm.exec) (hb : c.code = cc) {b L : Nat} {xs : Nat → Int32} (hX : va_X b L xs s H0) (hbl : b < H0.size) (hbA : ¬ A b) (hS : va_S A H0 H locs) {i : Nat} (hi : i < L) (hL : L < 2 ^ 31) (hdg : decode cc pc = .ok (.iaload, 1))
    (kk : W p l e R s m args below meth c H locs cells slots Q (F0 m (pc + 1) ls (.int (xs i) :: rest))) : W p l e R s m args below meth c H locs cells slots Q (F0 m pc ls (.int (nI i) :: .ref b :: rest)) :=
  va_sld hx hb hX hbl hbA hS (vp_in_nI hi hL) hdg (by rw [nI_clamp (Nat.lt_trans hi hL)]; exact kk)
theorem nw_eqS (hx : p.tables.exec = Jvm.exec) (hb : c.code = cc) {x y : Nat} {off : Int} {tgt : Nat} (h : x = y) (hdg : decode cc pc = .ok (.if_icmp .eq off, 3)) (ht : (pc : Int) + off = (tgt : Int))
    (kt : W p l e R s m args below meth c H locs cells slots Q (F0 m tgt ls rest)) : W p l e R s m args below meth c H locs cells slots Q (F0 m pc ls (.int (nI y) :: .int (nI x) :: rest)) :=
  lv_icmp_eq hx hb hdg ht (fun _ => kt) (fun q => absurd (by rw [h]) q)
theorem lg_cmp_self (x : Int64) : lg_cmp x x = 0 := by
  unfold lg_cmp; simp
theorem nw_lsame (hx : p.tables.exec = Jvm.exec) (hb : c.code = cc) {x y : Int64} {off : Int} {tgt : Nat} (h : x = y) (hd1 : decode cc pc = .ok (.lcmp, 1)) (hd2 : decode cc (pc + 1) = .ok (.ifCond .eq off, 3)) (ht : ((pc + 1 : Nat) : Int) + off = (tgt : Int))
    (kt : W p l e R s m args below meth c H locs cells slots Q (F0 m tgt ls rest)) : W p l e R s m args below meth c H locs cells slots Q (F0 m pc ls (.long y :: .long x :: rest)) := by
  subst h
  refine W.lcmp hx hb hd1 ?_
  rw [lg_cmp_self]
  exact lv_if_eq hx hb hd2 ht (fun _ => kt) (fun q => absurd rfl q)
theorem nw_deqT (hx : p.tables.exec = Jvm.exec) (hb : c.code = cc) {x y : UInt64} {off : Int} {tgt : Nat} (hd1 : decode cc pc = .ok (.dcmp .l, 1)) (hd2 : decode cc (pc + 1) = .ok (.ifCond .eq off, 3)) (ht : ((pc + 1 : Nat) : Int) + off = (tgt : Int))
    (kt : deq x y = true → W p l e R s m args below meth c H locs cells slots Q (F0 m tgt ls rest)) (kf : deq x y = false → W p l e R s m args below meth c H locs cells slots Q (F0 m (pc + 4) ls rest)) : W p l e R s m args below meth c H locs cells slots Q (F0 m pc ls (.double y :: .double x :: rest)) := by
  refine lv_dcmp hx hb hd1 ?_
  unfold deq at kt kf
  cases hc : FP.dcmp x y with
  | none => exact lv_if_eq hx hb hd2 ht (fun q => absurd q (by decide)) (fun _ => kf (by rw [hc]; rfl))
  | some o =>
    rw [hc] at kt kf
    cases o
    · exact lv_if_eq hx hb hd2 ht (fun q => absurd q (by decide)) (fun _ => kf rfl)
    · exact lv_if_eq hx hb hd2 ht (fun _ => kt rfl) (fun q => absurd rfl q)
    · exact lv_if_eq hx hb hd2 ht (fun q => absurd q (by decide)) (fun _ => kf rfl)
theorem ncl_i {r : Int32} (hr : vx_Run p l e R s m args below meth c H locs cells slots 1 6 (F0 m pc ls st0) rest (va_Qi (fun (z : Int32) (_ : S) => z = r) (fun u t => nB D cl tys (w1 u) (va_A wc H.size) () t) (va_A wc H.size) a) (vx_X (fun _ : Unit => False) (fun _ _ _ => False) (va_A wc H.size)) (va_A wc H.size))
    (hP : va_P D cl ws H) (hD : va_D A ws) (hS : va_S A H0 H locs) (hA : ∀ q, H0.size ≤ q → A q) (isC isR : List Nat) (hC : isC.map (fun i => ws[i]?) = wc.map some) (hR : isR.map (fun i => ws[i]?) = wr.map some) (hn : va_nd isR = true) (hdis : ∀ i ∈ isR, i ∉ isC)
    (kk : ∀ (u : S) (H1 : Heap) (locs1 : List Loc), va_P D cl (wr ++ w1 u) H1 → va_D A (wr ++ w1 u) → va_S A H0 H1 locs1 → W p l e R s m args below meth c H1 locs1 (cells + 1) (slots + 6) Q (F0 m (pc + 3) ls (.int r :: rest))) : W p l e R s m args below meth c H locs cells slots Q (F0 m pc ls st0) := by
  have hF := va_free (wc := wc) hD hS hA isC hC
  refine vx_calli hr hS (fun q _ h => hF q h) hF (fun q _ h => hF q h) (fun E ce q9 u t H1 locs1 ht hvm hw => absurd hw id) (fun z u t H1 locs1 ht hvm hw hB hz1 hk1 hS1 => ?_)
  obtain ⟨hP1, hK1, hD1⟩ := hB
  rw [ht] at hP1
  obtain ⟨hP2, hD2⟩ := va_join hP hD isC isR hC hR hn hdis hk1 hF hP1 hD1
  rw [hw]
  exact kk u H1 locs1 hP2 hD2 hS1
end LAW
theorem if_iff {α : Type} {P Q : Prop} {d1 : Decidable P} {d2 : Decidable Q} (h : P ↔ Q) (a b : α) : (@ite α P d1 a b) = (@ite α Q d2 a b) := by
  by_cases c : P
  · rw [if_pos c, if_pos (h.mp c)]
  · rw [if_neg c, if_neg (fun q => c (h.mpr q))]
theorem c2_iff {P Q : Prop} {d1 : Decidable P} {d2 : Decidable Q} {n : Nat} (hn : n ≠ 0) : (if P then (if Q then 0 else n) else 1) = 0 ↔ P ∧ Q := by
  by_cases c : P
  · rw [if_pos c]
    by_cases d : Q
    · rw [if_pos d]; exact ⟨fun _ => ⟨c, d⟩, fun _ => rfl⟩
    · rw [if_neg d]; exact ⟨fun q => absurd q hn, fun q => absurd q.2 d⟩
  · rw [if_neg c]; exact ⟨fun q => absurd q (by decide), fun q => absurd q.1 c⟩
theorem c3_iff {P Q R : Prop} {d1 : Decidable P} {d2 : Decidable Q} {d3 : Decidable R} : (if P then (if Q then (if R then 0 else 3) else 2) else 1) = 0 ↔ P ∧ Q ∧ R := by
  by_cases c : P
  · rw [if_pos c]
    by_cases d : Q
    · rw [if_pos d]
      by_cases e : R
      · rw [if_pos e]; exact ⟨fun _ => ⟨c, d, e⟩, fun _ => rfl⟩
      · rw [if_neg e]; exact ⟨fun q => absurd q (by decide), fun q => absurd q.2.2 e⟩
    · rw [if_neg d]; exact ⟨fun q => absurd q (by decide), fun q => absurd q.2.1 d⟩
  · rw [if_neg c]; exact ⟨fun q => absurd q (by decide), fun q => absurd q.1 c⟩
theorem c1_iff {P : Prop} {d1 : Decidable P} : (if P then 0 else 1) = 0 ↔ P := by
  by_cases c : P
  · rw [if_pos c]; exact ⟨fun _ => c, fun _ => rfl⟩
  · rw [if_neg c]; exact ⟨fun q => absurd q (by decide), fun q => absurd q c⟩
theorem cs_iff {P Q R : Prop} {d1 : Decidable P} {d2 : Decidable Q} {d3 : Decidable R} : (if P then (if Q then 3 else 0) else (if R then 2 else 1)) = 0 ↔ P ∧ ¬ Q := by
  by_cases c : P
  · rw [if_pos c]
    by_cases d : Q
    · rw [if_pos d]; exact ⟨fun q => absurd q (by decide), fun q => absurd d q.2⟩
    · rw [if_neg d]; exact ⟨fun _ => ⟨c, d⟩, fun _ => rfl⟩
  · rw [if_neg c]
    by_cases d : R
    · rw [if_pos d]; exact ⟨fun q => absurd q (by decide), fun q => absurd q.1 c⟩
    · rw [if_neg d]; exact ⟨fun q => absurd q (by decide), fun q => absurd q.1 c⟩
theorem cr_iff {P Q : Prop} {d1 : Decidable P} {d2 : Decidable Q} : (if P then 1 else if Q then 0 else 2) = 0 ↔ ¬ P ∧ Q := by
  by_cases c : P
  · rw [if_pos c]; exact ⟨fun q => absurd q (by decide), fun q => absurd c q.1⟩
  · rw [if_neg c]
    by_cases d : Q
    · rw [if_pos d]; exact ⟨fun _ => ⟨c, d⟩, fun _ => rfl⟩
    · rw [if_neg d]; exact ⟨fun q => absurd q (by decide), fun q => absurd q.2 d⟩
theorem co_iff {P : Prop} {d1 : Decidable P} : (if P then 1 else 0) = 0 ↔ ¬ P := by
  by_cases c : P
  · rw [if_pos c]; exact ⟨fun q => absurd q (by decide), fun q => absurd c q⟩
  · rw [if_neg c]; exact ⟨fun _ => c, fun _ => rfl⟩
theorem pos_ne (n : Nat) : (n ≠ 0) ↔ 0 < n := Nat.pos_iff_ne_zero.symm
theorem k_start (a b : Int32) (st : Nat) (tH : Nat → Bool) : (if stR a b = true then (if st = 0 ∧ 0 < cnt tH 12 then 0 else 2) else 1) = (if (inR a (nI 0) (nI 3) = true ∧ inR b (nI 0) (nI 30) = true) then (if st = 0 ∧ cnt tH 12 ≠ 0 then 0 else 2) else 1) := by
  have e1 : (if st = 0 ∧ 0 < cnt tH 12 then 0 else 2) = (if st = 0 ∧ cnt tH 12 ≠ 0 then 0 else 2) := if_iff ⟨fun q => ⟨q.1, Nat.ne_of_gt q.2⟩, fun q => ⟨q.1, Nat.pos_of_ne_zero q.2⟩⟩ _ _
  rw [e1]
  exact if_iff (st_iff a b).symm _ _
theorem wf_mS {pg : Nat} {sv : Bool} {y : RS} (h : wf pg sv y) : ∀ j, y.2.2.2.2.2.2.1 j ≤ 12 := h.2.2.2.1
theorem c_msg {Q : Prop} {d2 : Decidable Q} {n : Nat} {st : Nat} (h : (if n = 0 then (if st ≠ 0 ∧ Q then 0 else 3) else n) = 0) : n = 0 ∧ st ≠ 0 ∧ Q := by
  by_cases c : n = 0
  · rw [if_pos c] at h
    by_cases d : st ≠ 0 ∧ Q
    · exact ⟨c, d⟩
    · rw [if_neg d] at h; exact absurd h (by decide)
  · rw [if_neg c] at h; exact absurd h c

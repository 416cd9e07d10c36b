section NX
variable {p : Program} {l : Launch} {e : Env} {R : Room} {s : State} {m : MethodId} {args : Array Value} {below : List Frame} {meth : Method} {c : Code} {H : Heap} {locs : List Loc} {cells slots : Nat} {Q : State → Prop} {cc : ByteArray} {pc : Nat} {ls : Array Slot} {rest : List Value} {D : va_G} {cl : List vw_C} {tys : List (ClassId × FieldType)} {ws : va_W} {A : Nat → Prop} {H0 : Heap} {a : Nat}
theorem nw_nald (hx : p.tables.exec = Jvm.exec) (hb : c.code = cc) (hK : va_K D cl tys s) (hP : va_P D cl ws H) (q0 t0 : Nat) {cA : ClassId} {n : Nat} {f : Nat → Nat} (ha : ws[q0]? = some (cN a cA n f)) (ht : tys[t0]? = some (cA, .int)) {i : Nat} (hi : i < n) (hn : n < 2 ^ 31) (hdg : decode cc pc = .ok (.iaload, 1))
    (kk : W p l e R s m args below meth c H locs cells slots Q (F0 m (pc + 1) ls (.int (nI (f i)) :: rest))) : W p l e R s m args below meth c H locs cells slots Q (F0 m pc ls (.int (nI i) :: .ref a :: rest)) :=
  va_iald hx hb hK hP q0 t0 ha ht (vp_in_nI hi hn) hdg (by rw [nI_clamp (Nat.lt_trans hi hn)]; exact kk)
theorem nw_bald (hx : p.tables.exec = Jvm.exec) (hb : c.code = cc) (hK : va_K D cl tys s) (hP : va_P D cl ws H) (q0 t0 : Nat) {cA : ClassId} {n : Nat} {f : Nat → Bool} (ha : ws[q0]? = some (cB a cA n f)) (ht : tys[t0]? = some (cA, .boolean)) {i : Nat} (hi : i < n) (hn : n < 2 ^ 31) (hdg : decode cc pc = .ok (.baload, 1))
    (kk : W p l e R s m args below meth c H locs cells slots Q (F0 m (pc + 1) ls (.int (bI (f i)) :: rest))) : W p l e R s m args below meth c H locs cells slots Q (F0 m pc ls (.int (nI i) :: .ref a :: rest)) :=
  va_zald hx hb hK hP q0 t0 ha ht (vp_in_nI hi hn) hdg (by rw [nI_clamp (Nat.lt_trans hi hn)]; exact kk)
theorem nw_dald (hx : p.tables.exec = Jvm.exec) (hb : c.code = cc) (hK : va_K D cl tys s) (hP : va_P D cl ws H) (q0 t0 : Nat) {cA : ClassId} {n : Nat} {f : Nat → UInt64} (ha : ws[q0]? = some (cD a cA n f)) (ht : tys[t0]? = some (cA, .double)) {i : Nat} (hi : i < n) (hn : n < 2 ^ 31) (hdg : decode cc pc = .ok (.daload, 1))
    (kk : W p l e R s m args below meth c H locs cells slots Q (F0 m (pc + 1) ls (.double (f i) :: rest))) : W p l e R s m args below meth c H locs cells slots Q (F0 m pc ls (.int (nI i) :: .ref a :: rest)) :=
  va_dald hx hb hK hP q0 t0 ha ht (vp_in_nI hi hn) hdg (by rw [nI_clamp (Nat.lt_trans hi hn)]; exact kk)
theorem nw_nast (hx : p.tables.exec = Jvm.exec) (hb : c.code = cc) (hK : va_K D cl tys s) (hP : va_P D cl ws H) (hD : va_D A ws) (hS : va_S A H0 H locs) (q0 t0 : Nat) {cA : ClassId} {n : Nat} {f : Nat → Nat} (ha : ws[q0]? = some (cN a cA n f)) (ht : tys[t0]? = some (cA, .int)) {i x : Nat} (hi : i < n) (hn : n < 2 ^ 31) (hdg : decode cc pc = .ok (.iastore, 1))
    (kk : ∀ (H1 : Heap) (locs1 : List Loc), va_P D cl (ws.set q0 (cN a cA n (va_up f i x))) H1 → va_D A (ws.set q0 (cN a cA n (va_up f i x))) → va_S A H0 H1 locs1 → W p l e R s m args below meth c H1 locs1 cells slots Q (F0 m (pc + 1) ls rest)) : W p l e R s m args below meth c H locs cells slots Q (F0 m pc ls (.int (nI x) :: .int (nI i) :: .ref a :: rest)) :=
  va_iast hx hb hK hP hD hS q0 t0 ha ht (vp_in_nI hi hn) hdg (by rw [nI_clamp (Nat.lt_trans hi hn), updN]; exact kk)
theorem nw_bast (hx : p.tables.exec = Jvm.exec) (hb : c.code = cc) (hK : va_K D cl tys s) (hP : va_P D cl ws H) (hD : va_D A ws) (hS : va_S A H0 H locs) (q0 t0 : Nat) {cA : ClassId} {n : Nat} {f : Nat → Bool} (ha : ws[q0]? = some (cB a cA n f)) (ht : tys[t0]? = some (cA, .boolean)) {i : Nat} {x : Bool} (hi : i < n) (hn : n < 2 ^ 31) (hdg : decode cc pc = .ok (.bastore, 1))
    (kk : ∀ (H1 : Heap) (locs1 : List Loc), va_P D cl (ws.set q0 (cB a cA n (va_up f i x))) H1 → va_D A (ws.set q0 (cB a cA n (va_up f i x))) → va_S A H0 H1 locs1 → W p l e R s m args below meth c H1 locs1 cells slots Q (F0 m (pc + 1) ls rest)) : W p l e R s m args below meth c H locs cells slots Q (F0 m pc ls (.int (bI x) :: .int (nI i) :: .ref a :: rest)) :=
  va_zast hx hb hK hP hD hS q0 t0 ha ht (vp_in_nI hi hn) hdg (by rw [nI_clamp (Nat.lt_trans hi hn), updB]; exact kk)
theorem nw_dast (hx : p.tables.exec = Jvm.exec) (hb : c.code = cc) (hK : va_K D cl tys s) (hP : va_P D cl ws H) (hD : va_D A ws) (hS : va_S A H0 H locs) (q0 t0 : Nat) {cA : ClassId} {n : Nat} {f : Nat → UInt64} (ha : ws[q0]? = some (cD a cA n f)) (ht : tys[t0]? = some (cA, .double)) {i : Nat} {x : UInt64} (hi : i < n) (hn : n < 2 ^ 31) (hdg : decode cc pc = .ok (.dastore, 1))
    (kk : ∀ (H1 : Heap) (locs1 : List Loc), va_P D cl (ws.set q0 (cD a cA n (va_up f i x))) H1 → va_D A (ws.set q0 (cD a cA n (va_up f i x))) → va_S A H0 H1 locs1 → W p l e R s m args below meth c H1 locs1 cells slots Q (F0 m (pc + 1) ls rest)) : W p l e R s m args below meth c H locs cells slots Q (F0 m pc ls (.double x :: .int (nI i) :: .ref a :: rest)) :=
  va_dast hx hb hK hP hD hS q0 t0 ha ht (vp_in_nI hi hn) hdg (by rw [nI_clamp (Nat.lt_trans hi hn)]; exact kk)
end NX
/-! the uniform contracts: from the world ws0 the method comes back with the world ws1 (and the answer r); nothing is made -/
theorem nKind_warm {w : Cond} (hk : nKind w = true) {s U : State} (hW : s.WarmedH U.vm) (h : va_Nw w s) : va_Nw w U := by
  cases w <;> first | exact absurd hk Bool.false_ne_true | exact va_Nw.warmM hW h | exact va_Nw.warmF hW h | exact va_Nw.warmC hW h | exact va_Nw.warmD hW h
/-- what a callee gets through its start: nest links, casts, the two statics of Throwable, the texts -/
def nX (A : Nat → Prop) (U : State) : Prop := (∀ w ∈ NW, va_Nw w U) ∧ vx_Zq Bundle.tN "UNASSIGNED_STACK" Bundle.steD A U U.heap ∧ vx_Zq Bundle.tN "SUPPRESSED_SENTINEL" Bundle.listD A U U.heap ∧ ∀ q ∈ STR, ∃ sa : Nat, vk_R q.1 q.2.1 q.2.2 sa U
theorem nX_call {s U : State} {A : Nat → Prop} {H : Heap} {locs : List Loc} {wc : va_W} (h : nX A s) (hS : va_S A s.heap H locs) (hF : ∀ q, va_A wc H.size q → A q) (hU : U.heap = H) (hW : s.WarmedH U.vm) : nX (va_A wc H.size) U := by
  obtain ⟨h1, h2, h3, h4⟩ := h
  have hk : ∀ a : Nat, a < s.heap.size → ¬ A a → U.heap[a]? = s.heap[a]? := fun a ha hn => by rw [hU]; exact hS.2.1 a ha hn
  exact ⟨fun w hw => nKind_warm (NW_kind w hw) hW (h1 w hw), vx_Zq.moved hW.alike ((h2.kept hk).narrow hF), vx_Zq.moved hW.alike ((h3.kept hk).narrow hF), fun q hq => (h4 q hq).elim fun sa z => ⟨sa, vk_R.warm hW z⟩⟩
theorem nX_moved {s U : State} {A : Nat → Prop} (h : nX A s) (e1 : U.heap = s.heap) (e2 : U.vm = s.vm) : nX A U := by
  obtain ⟨h1, h2, h3, h4⟩ := h
  refine ⟨fun w hw => ?_, ?_, ?_, fun q hq => (h4 q hq).elim fun sa z => ⟨sa, vk_R.same e2 z⟩⟩
  · exact va_Nw.same (by have := NW_kind w hw; revert this; cases w <;> first | (intro q; exact absurd q Bool.false_ne_true) | (intro _; rfl)) e2.symm (h1 w hw)
  · rw [e1]; exact vx_Zq.moved (by rw [e2]; exact Vm.Alike.refl _) h2
  · rw [e1]; exact vx_Zq.moved (by rw [e2]; exact Vm.Alike.refl _) h3
def nPre (D : va_G) (cl : List vw_C) (tys : List (ClassId × FieldType)) (ws0 : va_W) (sz : Nat) : State → Prop := fun U => U.heap.size = sz ∧ va_P D cl ws0 U.heap ∧ va_K D cl tys U ∧ va_D (fun _ => True) ws0 ∧ nX (va_A ws0 sz) U
def nB (D : va_G) (cl : List vw_C) (tys : List (ClassId × FieldType)) (ws1 : va_W) (A : Nat → Prop) : Unit → State → Prop := fun _ t => va_P D cl ws1 t.heap ∧ va_K D cl tys t ∧ va_D A ws1
theorem nPre_blind {D : va_G} {cl : List vw_C} {tys : List (ClassId × FieldType)} {ws0 : va_W} {sz : Nat} {av : List Value} : FrameBlind (va_Pc av (nPre D cl tys ws0 sz)) := by
  intro a U g mk q
  obtain ⟨q0, q1, qP, qK, qD, qX⟩ := q
  exact ⟨q0, q1, qP, va_K.moved (u := U) (U := U.calling g mk a) (Vm.Alike.refl U.vm) qK, qD, nX_moved qX rfl rfl⟩
def MVv (l : Launch) (y : MethodName) (w : List Cond) (rm : Room) (D : va_G) (cl : List vw_C) (tys : List (ClassId × FieldType)) (av : List Value) (ws0 : va_W) (sz : Nat) (ws1 : va_W) : Prop :=
  Met l y w rm (va_Pc av (nPre D cl tys ws0 sz)) (va_Qv (fun _ : Unit => True) (nB D cl tys ws1 (va_A ws0 sz)) (va_A ws0 sz)) 0 0 (va_A ws0 sz)
def MVi (l : Launch) (y : MethodName) (w : List Cond) (rm : Room) (D : va_G) (cl : List vw_C) (tys : List (ClassId × FieldType)) (av : List Value) (ws0 : va_W) (sz : Nat) (r : Int32) (ws1 : va_W) : Prop :=
  Met l y w rm (va_Pc av (nPre D cl tys ws0 sz)) (va_Qi (fun (z : Int32) (_ : Unit) => z = r) (nB D cl tys ws1 (va_A ws0 sz)) (va_A ws0 sz)) 0 0 (va_A ws0 sz)
def MVd (l : Launch) (y : MethodName) (w : List Cond) (rm : Room) (D : va_G) (cl : List vw_C) (tys : List (ClassId × FieldType)) (av : List Value) (ws0 : va_W) (sz : Nat) (r : UInt64) (ws1 : va_W) : Prop :=
  Met l y w rm (va_Pc av (nPre D cl tys ws0 sz)) (va_Qd (fun (z : UInt64) (_ : Unit) => z = r) (nB D cl tys ws1 (va_A ws0 sz)) (va_A ws0 sz)) 0 0 (va_A ws0 sz)
section NY
variable {p : Program} {l : Launch} {e : Env} {R : Room} {s : State} {m : MethodId} {args : Array Value} {below : List Frame} {meth : Method} {c : Code} {H : Heap} {locs : List Loc} {cells slots : Nat} {Q : State → Prop} {cc : ByteArray} {pc : Nat} {ls : Array Slot} {rest st0 : List Value} {D : va_G} {cl : List vw_C} {tys : List (ClassId × FieldType)} {ws wc wr w1 : va_W} {A : Nat → Prop} {H0 : Heap} {a : Array Value}
theorem nc_v (hr : va_Run p l e R s m args below meth c H locs cells slots 0 0 (F0 m pc ls st0) rest (va_Qv (fun _ : Unit => True) (nB D cl tys w1 (va_A wc H.size)) (va_A wc H.size) a) (va_A wc H.size))
    (hP : va_P D cl ws H) (hD : va_D A ws) (hS : va_S A H0 H locs) (hA : ∀ q, H0.size ≤ q → A q) (isC isR : List Nat) (hC : isC.map (fun i => ws[i]?) = wc.map some) (hR : isR.map (fun i => ws[i]?) = wr.map some) (hn : va_nd isR = true) (hdis : ∀ i ∈ isR, i ∉ isC)
    (kk : ∀ (H1 : Heap) (locs1 : List Loc), va_P D cl (wr ++ w1) H1 → va_D A (wr ++ w1) → va_S A H0 H1 locs1 → W p l e R s m args below meth c H1 locs1 cells slots Q (F0 m (pc + 3) ls rest)) : W p l e R s m args below meth c H locs cells slots Q (F0 m pc ls st0) := by
  have hF := va_free (wc := wc) hD hS hA isC hC
  refine va_callv hr hS (fun q _ h => hF q h) hF (fun u t H1 locs1 ht hvm hw hB hz1 hk1 hS1 => ?_)
  obtain ⟨hP1, hK1, hD1⟩ := hB
  rw [ht] at hP1
  obtain ⟨hP2, hD2⟩ := va_join hP hD isC isR hC hR hn hdis hk1 hF hP1 hD1
  exact kk H1 locs1 hP2 hD2 hS1
theorem nc_i {r : Int32} (hr : va_Run p l e R s m args below meth c H locs cells slots 0 0 (F0 m pc ls st0) rest (va_Qi (fun (z : Int32) (_ : Unit) => z = r) (nB D cl tys w1 (va_A wc H.size)) (va_A wc H.size) a) (va_A wc H.size))
    (hP : va_P D cl ws H) (hD : va_D A ws) (hS : va_S A H0 H locs) (hA : ∀ q, H0.size ≤ q → A q) (isC isR : List Nat) (hC : isC.map (fun i => ws[i]?) = wc.map some) (hR : isR.map (fun i => ws[i]?) = wr.map some) (hn : va_nd isR = true) (hdis : ∀ i ∈ isR, i ∉ isC)
    (kk : ∀ (H1 : Heap) (locs1 : List Loc), va_P D cl (wr ++ w1) H1 → va_D A (wr ++ w1) → va_S A H0 H1 locs1 → W p l e R s m args below meth c H1 locs1 cells slots Q (F0 m (pc + 3) ls (.int r :: rest))) : W p l e R s m args below meth c H locs cells slots Q (F0 m pc ls st0) := by
  have hF := va_free (wc := wc) hD hS hA isC hC
  refine va_calli hr hS (fun q _ h => hF q h) hF (fun z u t H1 locs1 ht hvm hw hB hz1 hk1 hS1 => ?_)
  obtain ⟨hP1, hK1, hD1⟩ := hB
  rw [ht] at hP1
  obtain ⟨hP2, hD2⟩ := va_join hP hD isC isR hC hR hn hdis hk1 hF hP1 hD1
  rw [hw]
  exact kk H1 locs1 hP2 hD2 hS1
theorem nc_d {r : UInt64} (hr : va_Run p l e R s m args below meth c H locs cells slots 0 0 (F0 m pc ls st0) rest (va_Qd (fun (z : UInt64) (_ : Unit) => z = r) (nB D cl tys w1 (va_A wc H.size)) (va_A wc H.size) a) (va_A wc H.size))
    (hP : va_P D cl ws H) (hD : va_D A ws) (hS : va_S A H0 H locs) (hA : ∀ q, H0.size ≤ q → A q) (isC isR : List Nat) (hC : isC.map (fun i => ws[i]?) = wc.map some) (hR : isR.map (fun i => ws[i]?) = wr.map some) (hn : va_nd isR = true) (hdis : ∀ i ∈ isR, i ∉ isC)
    (kk : ∀ (H1 : Heap) (locs1 : List Loc), va_P D cl (wr ++ w1) H1 → va_D A (wr ++ w1) → va_S A H0 H1 locs1 → W p l e R s m args below meth c H1 locs1 cells slots Q (F0 m (pc + 3) ls (.double r :: rest))) : W p l e R s m args below meth c H locs cells slots Q (F0 m pc ls st0) := by
  have hF := va_free (wc := wc) hD hS hA isC hC
  refine va_calld hr hS (fun q _ h => hF q h) hF (fun z u t H1 locs1 ht hvm hw hB hz1 hk1 hS1 => ?_)
  obtain ⟨hP1, hK1, hD1⟩ := hB
  rw [ht] at hP1
  obtain ⟨hP2, hD2⟩ := va_join hP hD isC isR hC hR hn hdis hk1 hF hP1 hD1
  rw [hw]
  exact kk H1 locs1 hP2 hD2 hS1
/-- what a callee's start asks, out of the caller's world -/
theorem nPre_of {av : List Value} (hP : va_P D cl ws H) (hD : va_D A ws) (hK : va_K D cl tys s) (hX : nX A s) (hS : va_S A s.heap H locs) (hA : ∀ q, s.heap.size ≤ q → A q) (isC : List Nat) (hn : va_nd isC = true) (hC : isC.map (fun i => ws[i]?) = wc.map some) (hC2 : isC.filterMap (fun i => ws[i]?) = wc) :
    ∀ U : State, U.heap = H → s.WarmedH U.vm → va_Pc av (nPre D cl tys wc H.size) av.toArray U := fun U hU hW =>
  ⟨rfl, by rw [hU], by rw [hU]; exact hP.sub isC hC2, va_K.moved hW.alike hK, (hD.sub isC hn hC).weaken (fun _ _ _ _ => trivial), nX_call hX hS (va_free hD hS hA isC hC) hU hW⟩
end NY
theorem nEqP {D : va_G} {cl : List vw_C} {ws ws' : va_W} {H : Heap} (e : ws = ws') (h : va_P D cl ws H) : va_P D cl ws' H := e ▸ h
theorem nEqD {A : Nat → Prop} {ws ws' : va_W} (e : ws = ws') (h : va_D A ws) : va_D A ws' := e ▸ h
theorem nEqL {ls : Array Slot} {n : Nat} {l l' : List (Nat × Value)} (e : l = l') (h : lv_has ls n l) : lv_has ls n l' := e ▸ h
/-- an array's contents are what lies below its length -/
theorem nArr {cA n : Nat} {f g : Nat → Value} (h : ∀ j, j < n → f j = g j) : arrV cA n f = arrV cA n g := by
  have e : Array.ofFn (n := n) (fun j => f j.val) = Array.ofFn (n := n) (fun j => g j.val) := by
    congr 1
    funext j
    exact h j.val j.isLt
  unfold arrV
  rw [e]
theorem nPset {D : va_G} {cl : List vw_C} {ws : va_W} {H : Heap} {q : Nat} {x y : Nat × va_E} (hP : va_P D cl ws H) (hq : ws[q]? = some x) (hy : va_at D cl x H → va_at D cl y H) : va_P D cl (ws.set q y) H := by
  intro k z hk
  by_cases e : q = k
  · subst e
    have hl : q < ws.length := (List.getElem?_eq_some_iff.mp hq).1
    rw [List.getElem?_set_self hl] at hk
    cases hk
    exact hy (hP q x hq)
  · rw [List.getElem?_set_ne e] at hk
    exact hP k z hk
theorem nExtN {D : va_G} {cl : List vw_C} {ws : va_W} {H : Heap} {a cA n : Nat} {f g : Nat → Nat} (hP : va_P D cl ws H) (q : Nat) (hq : ws[q]? = some (cN a cA n f)) (h : ∀ j, j < n → f j = g j) : va_P D cl (ws.set q (cN a cA n g)) H :=
  nPset hP hq (fun z => by
    have z : H[a]? = some (arrV cA n (fun j => .int (nI (f j)))) := z
    show H[a]? = some (arrV cA n (fun j => .int (nI (g j))))
    rw [z, nArr (fun j hj => by rw [h j hj])])
theorem nExtB {D : va_G} {cl : List vw_C} {ws : va_W} {H : Heap} {a cA n : Nat} {f g : Nat → Bool} (hP : va_P D cl ws H) (q : Nat) (hq : ws[q]? = some (cB a cA n f)) (h : ∀ j, j < n → f j = g j) : va_P D cl (ws.set q (cB a cA n g)) H :=
  nPset hP hq (fun z => by
    have z : H[a]? = some (arrV cA n (fun j => .int (bI (f j)))) := z
    show H[a]? = some (arrV cA n (fun j => .int (bI (g j))))
    rw [z, nArr (fun j hj => by rw [h j hj])])
theorem nExtDd {D : va_G} {cl : List vw_C} {ws : va_W} {H : Heap} {a cA n : Nat} {f g : Nat → UInt64} (hP : va_P D cl ws H) (q : Nat) (hq : ws[q]? = some (cD a cA n f)) (h : ∀ j, j < n → f j = g j) : va_P D cl (ws.set q (cD a cA n g)) H :=
  nPset hP hq (fun z => by
    have z : H[a]? = some (arrV cA n (fun j => .double (f j))) := z
    show H[a]? = some (arrV cA n (fun j => .double (g j)))
    rw [z, nArr (fun j hj => by rw [h j hj])])
theorem nExtD {A : Nat → Prop} {ws : va_W} {a : Nat} {x y : va_E} (hD : va_D A ws) (q : Nat) (hq : ws[q]? = some (a, x)) : va_D A (ws.set q (a, y)) := hD.set hq

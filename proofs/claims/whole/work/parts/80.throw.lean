/-! methods that return or throw: the world stays as it was where they throw -/
def nBX (D : va_G) (cl : List vw_C) (tys : List (ClassId × FieldType)) (ws1 : va_W) (A : Nat → Prop) (E0 : String) : String → Unit → State → Prop := fun E u t => E = E0 ∧ nB D cl tys ws1 A u t
/-- the heaps have the same cells, by number and size -/
def shp (H H1 : Heap) : Prop := H1.toList.map (fun c => c.slots.size) = H.toList.map (fun c => c.slots.size)
theorem shp_of {s t : State} {L : List Loc} (h : s.sameButNew t L 0 0) : shp s.heap t.heap := by
  obtain ⟨-, h1, h2, -, -, h6⟩ := h
  have hz : t.heap.size = s.heap.size := by omega
  refine List.ext_getElem? fun i => ?_
  rw [List.getElem?_map, List.getElem?_map, Array.getElem?_toList, Array.getElem?_toList]
  by_cases hi : i < s.heap.size
  · obtain ⟨c9, e1, -, e3, -⟩ := h6 i _ (Array.getElem?_eq_getElem hi)
    rw [e1, Array.getElem?_eq_getElem hi]
    exact congrArg some e3
  · rw [Array.getElem?_eq_none (by omega), Array.getElem?_eq_none (by omega)]
def XQv (ok : Prop) (D : va_G) (cl : List vw_C) (tys : List (ClassId × FieldType)) (ws1 : va_W) (A : Nat → Prop) : Array Value → State → Outcome → State → Prop := fun a st o t => va_Qv (fun _ : Unit => ok) (nB D cl tys ws1 A) A a st o t ∧ shp st.heap t.heap
def XQi (ok : Prop) (r : Int32) (D : va_G) (cl : List vw_C) (tys : List (ClassId × FieldType)) (ws1 : va_W) (A : Nat → Prop) : Array Value → State → Outcome → State → Prop := fun a st o t => va_Qi (fun (z : Int32) (_ : Unit) => ok ∧ z = r) (nB D cl tys ws1 A) A a st o t ∧ shp st.heap t.heap
def XQd (ok : Prop) (r : UInt64) (D : va_G) (cl : List vw_C) (tys : List (ClassId × FieldType)) (ws1 : va_W) (A : Nat → Prop) : Array Value → State → Outcome → State → Prop := fun a st o t => va_Qd (fun (z : UInt64) (_ : Unit) => ok ∧ z = r) (nB D cl tys ws1 A) A a st o t ∧ shp st.heap t.heap
abbrev XX (ok : Prop) (E : String) (D : va_G) (cl : List vw_C) (tys : List (ClassId × FieldType)) (wsx : va_W) (A : Nat → Prop) : String → State → State → Prop := vx_X (fun _ : Unit => ¬ ok) (nBX D cl tys wsx A E) A
/-- returns where 'ok' with the world ws1 (and the answer r) and no cell made, else throws E with the world wsx -/
def XVv (l : Launch) (y : MethodName) (w : List Cond) (rm : Room) (D : va_G) (cl : List vw_C) (tys : List (ClassId × FieldType)) (av : List Value) (ws0 : va_W) (sz : Nat) (ok : Prop) (E : String) (ws1 wsx : va_W) : Prop :=
  vx_Met l y w rm (va_Pc av (nPre D cl tys ws0 sz)) (XQv ok D cl tys ws1 (va_A ws0 sz)) (XX ok E D cl tys wsx (va_A ws0 sz)) 1 6 (va_A ws0 sz)
def XVi (l : Launch) (y : MethodName) (w : List Cond) (rm : Room) (D : va_G) (cl : List vw_C) (tys : List (ClassId × FieldType)) (av : List Value) (ws0 : va_W) (sz : Nat) (ok : Prop) (E : String) (r : Int32) (ws1 wsx : va_W) : Prop :=
  vx_Met l y w rm (va_Pc av (nPre D cl tys ws0 sz)) (XQi ok r D cl tys ws1 (va_A ws0 sz)) (XX ok E D cl tys wsx (va_A ws0 sz)) 1 6 (va_A ws0 sz)
def XVd (l : Launch) (y : MethodName) (w : List Cond) (rm : Room) (D : va_G) (cl : List vw_C) (tys : List (ClassId × FieldType)) (av : List Value) (ws0 : va_W) (sz : Nat) (ok : Prop) (E : String) (r : UInt64) (ws1 wsx : va_W) : Prop :=
  vx_Met l y w rm (va_Pc av (nPre D cl tys ws0 sz)) (XQd ok r D cl tys ws1 (va_A ws0 sz)) (XX ok E D cl tys wsx (va_A ws0 sz)) 1 6 (va_A ws0 sz)
/-- the exception of a code -/
def exS (Es : List String) (k : Nat) : String := Es.getD (k - 1) ""
section NXZ
variable {l : Launch} {y : MethodName} {w w' : List Cond} {rm : Room} {D : va_G} {cl : List vw_C} {tys : List (ClassId × FieldType)} {av : List Value} {ws0 ws1 wsx : va_W} {sz : Nat} {cc : ByteArray} {maxL : Nat}
theorem nmx_v {ok : Prop} {E : String} (hy : plainName y.cls = true) (hw : w = Cond.code y cc maxL none :: w') (hmx : (lg_sl av).length ≤ maxL)
    (body : ∀ (p : Program) (e : Env) (s : State) (m : MethodId) (below : List Frame) (meth : Method) (c : Code) (A : Nat → Prop) (ls : Array Slot) (H : Heap), nCx p s m meth c A cc none maxL y.cls w av.toArray D cl tys → (∀ x ∈ c.exceptionTable.toList, False) → va_P D cl ws0 H → va_D A ws0 → va_S A s.heap H [] → lv_has ls maxL (lv_args 0 av) →
      W p l e rm s m av.toArray below meth c H [] 0 0 (vx_MQ below (XQv ok  D cl tys ws1 A) (XX ok E D cl tys wsx A) av.toArray s 1 6 A) (F0 m 0 ls [])) : XVv l y w rm D cl tys av ws0 sz ok E  ws1 wsx := by
  refine vx_ofW (cc := cc) (maxL := maxL) (ret := none) hy hw ?_
  intro p e s m args below meth c s₁ B hml hT hv
  obtain ⟨rfl, hsz, hP, hK, hD0, hX⟩ := hv
  subst hsz
  rw [lg_entry_eq]
  exact body p e s m below meth c _ _ _ ⟨B.exec, B.bytes, B.returns, hml, findClass_of_methodNamed B.named, atoms_spec (ws := w) B.pre, B.notSynchronized, fun q h => Or.inr h, hK, hX⟩ hT hP hD0.self va_S.rf (lv_entry av hmx)
theorem nmx_i {ok : Prop} {E : String} {r : Int32} {ret : FieldType} (hy : plainName y.cls = true) (hw : w = Cond.code y cc maxL (some ret) :: w') (hmx : (lg_sl av).length ≤ maxL)
    (body : ∀ (p : Program) (e : Env) (s : State) (m : MethodId) (below : List Frame) (meth : Method) (c : Code) (A : Nat → Prop) (ls : Array Slot) (H : Heap), nCx p s m meth c A cc (some ret) maxL y.cls w av.toArray D cl tys → (∀ x ∈ c.exceptionTable.toList, False) → va_P D cl ws0 H → va_D A ws0 → va_S A s.heap H [] → lv_has ls maxL (lv_args 0 av) →
      W p l e rm s m av.toArray below meth c H [] 0 0 (vx_MQ below (XQi ok r D cl tys ws1 A) (XX ok E D cl tys wsx A) av.toArray s 1 6 A) (F0 m 0 ls [])) : XVi l y w rm D cl tys av ws0 sz ok E r ws1 wsx := by
  refine vx_ofW (cc := cc) (maxL := maxL) (ret := (some ret)) hy hw ?_
  intro p e s m args below meth c s₁ B hml hT hv
  obtain ⟨rfl, hsz, hP, hK, hD0, hX⟩ := hv
  subst hsz
  rw [lg_entry_eq]
  exact body p e s m below meth c _ _ _ ⟨B.exec, B.bytes, B.returns, hml, findClass_of_methodNamed B.named, atoms_spec (ws := w) B.pre, B.notSynchronized, fun q h => Or.inr h, hK, hX⟩ hT hP hD0.self va_S.rf (lv_entry av hmx)
theorem nmx_d {ok : Prop} {E : String} {r : UInt64} (hy : plainName y.cls = true) (hw : w = Cond.code y cc maxL (some .double) :: w') (hmx : (lg_sl av).length ≤ maxL)
    (body : ∀ (p : Program) (e : Env) (s : State) (m : MethodId) (below : List Frame) (meth : Method) (c : Code) (A : Nat → Prop) (ls : Array Slot) (H : Heap), nCx p s m meth c A cc (some .double) maxL y.cls w av.toArray D cl tys → (∀ x ∈ c.exceptionTable.toList, False) → va_P D cl ws0 H → va_D A ws0 → va_S A s.heap H [] → lv_has ls maxL (lv_args 0 av) →
      W p l e rm s m av.toArray below meth c H [] 0 0 (vx_MQ below (XQd ok r D cl tys ws1 A) (XX ok E D cl tys wsx A) av.toArray s 1 6 A) (F0 m 0 ls [])) : XVd l y w rm D cl tys av ws0 sz ok E r ws1 wsx := by
  refine vx_ofW (cc := cc) (maxL := maxL) (ret := (some .double)) hy hw ?_
  intro p e s m args below meth c s₁ B hml hT hv
  obtain ⟨rfl, hsz, hP, hK, hD0, hX⟩ := hv
  subst hsz
  rw [lg_entry_eq]
  exact body p e s m below meth c _ _ _ ⟨B.exec, B.bytes, B.returns, hml, findClass_of_methodNamed B.named, atoms_spec (ws := w) B.pre, B.notSynchronized, fun q h => Or.inr h, hK, hX⟩ hT hP hD0.self va_S.rf (lv_entry av hmx)
end NXZ
section NXR
variable {p : Program} {l : Launch} {e : Env} {R : Room} {s : State} {m : MethodId} {args : Array Value} {below : List Frame} {meth : Method} {c : Code} {H : Heap} {locs : List Loc} {cc : ByteArray} {pc : Nat} {ls : Array Slot} {rest : List Value} {D : va_G} {cl : List vw_C} {tys : List (ClassId × FieldType)} {ws ws1 wsx : va_W} {A : Nat → Prop} {ok : Prop} {free : Addr → Prop}
variable {Qc : Array Value → State → Outcome → State → Prop} {XC : String → State → State → Prop}
theorem nx_ret {g : JFrame} {mc ms : Nat} (k : W p l e R s m args below meth c H locs 0 0 (MQ below Qc args s 0 0 free) g) : W p l e R s m args below meth c H locs 0 0 (vx_MQ below (fun a st o t => Qc a st o t ∧ shp st.heap t.heap) XC args s mc ms free) g := by
  intro T hT X
  obtain ⟨t, a1, o, b1, b2, b3, L, ⟨f1, f2, f3⟩, b5⟩ := k T hT X
  exact ⟨t, a1, o, b1, b2, Or.inl ⟨⟨b3, (have z := shp_of f3; z)⟩, L, ⟨f1, f2, f3.mono (Nat.zero_le _) (Nat.zero_le _)⟩, b5⟩⟩
theorem nrx_v (hx : p.tables.exec = Jvm.exec) (hb : c.code = cc) (hr : meth.sig.returnType = none) (hlocks : meth.locks = false) (hK : va_K D cl tys s) (hP : va_P D cl ws H) (hD : va_D A ws) (hS : va_S A s.heap H locs) (hok : ok) (ew : ws = ws1) (hdg : decode cc pc = .ok (.return_, 1)) :
    W p l e R s m args below meth c H locs 0 0 (vx_MQ below (XQv ok D cl tys ws1 A) XC args s 1 6 A) (F0 m pc ls []) := by
  subst ew
  exact nx_ret (W.vret hx hb hr (fun t ht hW => ⟨⟨(), rfl, hok, by rw [ht]; exact hP, va_K.moved hW.alike hK, hD⟩, hS.F ht⟩) hS.2.2 hdg hlocks)
theorem nrx_i {v r : Int32} (hx : p.tables.exec = Jvm.exec) (hb : c.code = cc) (hr : meth.sig.returnType = some .int) (hlocks : meth.locks = false) (hK : va_K D cl tys s) (hP : va_P D cl ws H) (hD : va_D A ws) (hS : va_S A s.heap H locs) (hok : ok) (er : v = r) (ew : ws = ws1) (hdg : decode cc pc = .ok (.ireturn, 1)) :
    W p l e R s m args below meth c H locs 0 0 (vx_MQ below (XQi ok r D cl tys ws1 A) XC args s 1 6 A) (F0 m pc ls [.int v]) := by
  subst ew
  exact nx_ret (W.iret hx hb hr (fun t ht hW => ⟨⟨v, (), rfl, ⟨hok, er⟩, by rw [ht]; exact hP, va_K.moved hW.alike hK, hD⟩, hS.F ht⟩) hS.2.2 hdg hlocks)
theorem nrx_d {v r : UInt64} (hx : p.tables.exec = Jvm.exec) (hb : c.code = cc) (hr : meth.sig.returnType = some .double) (hlocks : meth.locks = false) (hK : va_K D cl tys s) (hP : va_P D cl ws H) (hD : va_D A ws) (hS : va_S A s.heap H locs) (hok : ok) (er : v = r) (ew : ws = ws1) (hdg : decode cc pc = .ok (.dreturn, 1)) :
    W p l e R s m args below meth c H locs 0 0 (vx_MQ below (XQd ok r D cl tys ws1 A) XC args s 1 6 A) (F0 m pc ls [.double v]) := by
  subst ew
  exact nx_ret (W.dret hx hb hr (fun t ht hW => ⟨⟨v, (), rfl, ⟨hok, er⟩, by rw [ht]; exact hP, va_K.moved hW.alike hK, hD⟩, hS.F ht⟩) hS.2.2 hdg hlocks)
/-- what a throw's end owes -/
theorem nx_thr {E E0 : String} {t : State} (hK : va_K D cl tys s) (hP : va_P D cl wsx H) (hD : va_D A wsx) (hS : va_S A s.heap H locs) (hno : ¬ ok) (hE : E0 = E) (ha : s.vm.Alike t.vm) (hsz : H.size ≤ t.heap.size) (hk : ∀ q : Nat, q < H.size → t.heap[q]? = H[q]?) : XX ok E D cl tys wsx A E0 s t :=
  ⟨(), hno, ⟨hE, hP.kept (fun k q hq => hk q.1 (hP k q hq).lt), va_K.moved ha hK, hD⟩, Nat.le_trans hS.1 hsz, fun q h1 h2 => (hk q (Nat.lt_of_lt_of_le h1 hS.1)).trans (hS.2.1 q h1 h2)⟩
/-- a callee's throw goes on to the caller -/
theorem nx_out {E E0 : String} {ce : Cell} {q9 : Addr} (hT : ∀ x ∈ c.exceptionTable.toList, False) (hlocks : meth.locks = false) (hK : va_K D cl tys s) (hP : va_P D cl ws H) (hD : va_D A ws) (hS : va_S A s.heap H locs) (hcell : H[q9]? = some ce) (hv : ce.vm = .none) (hcl : s.vm.findClass E0 = some ce.cls) (hno : ¬ ok) (hE : E0 = E) (ew : ws = wsx) :
    vx_W p l e R s m args below meth c H locs 1 6 (vx_MQ below Qc (XX ok E D cl tys wsx A) args s 1 6 A) (F0 m pc ls rest) q9 := by
  subst ew
  exact vx_out (fun x h => (hT x h).elim) hlocks hcell hv hcl (fun t ht ha => nx_thr hK hP hD hS hno hE ha (by rw [ht]; exact Nat.le_refl _) (fun q _ => by rw [ht])) hS.2.2 (Nat.le_refl _) (Nat.le_refl _)
end NXR
section NXC
variable {p : Program} {l : Launch} {e : Env} {R : Room} {s : State} {m : MethodId} {args : Array Value} {below : List Frame} {meth : Method} {c : Code} {H : Heap} {locs : List Loc} {cells slots : Nat} {Q : State → Prop} {cc : ByteArray} {pc : Nat} {ls : Array Slot} {rest st0 : List Value} {D : va_G} {cl : List vw_C} {tys : List (ClassId × FieldType)} {ws wc wr w1 wx : va_W} {A : Nat → Prop} {H0 : Heap} {a : Array Value} {ok : Prop} {E0 : String}
/-- no cell was made: the book is as it was -/
theorem nx_narrow {T T' : State} {locs' : List Loc} {k n : Nat} (X : Stand p l e R s m args below meth c T locs cells slots) (X' : Stand p l e R s m args below meth c T' locs' k n) (h : shp T.heap T'.heap) : Stand p l e R s m args below meth c T' locs' cells slots := by
  have hz : T'.heap.size = T.heap.size := by
    have z := congrArg List.length h
    rw [List.length_map, List.length_map, Array.length_toList, Array.length_toList] at z
    exact z
  have hd : ((T'.heap.toList.drop s.heap.size).map (·.slots.size)) = ((T.heap.toList.drop s.heap.size).map (·.slots.size)) := by
    rw [List.map_drop, List.map_drop]
    exact congrArg (List.drop s.heap.size) h
  obtain ⟨-, -, x3, -, x5, -⟩ := X.same
  obtain ⟨y1, y2, y3, y4, y5, y6⟩ := X'.same
  have x3 : T.heap.size ≤ s.heap.size + cells := x3
  have x5 : ((T.heap.toList.drop s.heap.size).map (·.slots.size)).sum ≤ slots := x5
  exact { X' with same := ⟨y1, y2, (show T'.heap.size ≤ _ by omega), y4, (show ((T'.heap.toList.drop s.heap.size).map (·.slots.size)).sum ≤ slots by rw [hd]; exact x5), y6⟩ }
theorem nx_v (hr : vx_Run p l e R s m args below meth c H locs cells slots 1 6 (F0 m pc ls st0) rest (XQv ok  D cl tys w1 (va_A wc H.size) a) (XX ok E0 D cl tys wx (va_A wc H.size)) (va_A wc H.size))
    (hP : va_P D cl ws H) (hD : va_D A ws) (hS : va_S A H0 H locs) (hA : ∀ q, H0.size ≤ q → A q) (isC isR : List Nat) (hC : isC.map (fun i => ws[i]?) = wc.map some) (hR : isR.map (fun i => ws[i]?) = wr.map some) (hn : va_nd isR = true) (hdis : ∀ i ∈ isR, i ∉ isC)
    (kx : ¬ ok → ∀ (ce : Cell) (q9 : Addr) (H1 : Heap) (locs1 : List Loc), va_P D cl (wr ++ wx) H1 → va_D A (wr ++ wx) → va_S A H0 H1 locs1 → H1[q9]? = some ce → ce.vm = .none → s.vm.findClass E0 = some ce.cls → vx_W p l e R s m args below meth c H1 locs1 (cells + 1) (slots + 6) Q (F0 m pc ls rest) q9)
    (kk : ok → ∀ (H1 : Heap) (locs1 : List Loc), va_P D cl (wr ++ w1) H1 → va_D A (wr ++ w1) → va_S A H0 H1 locs1 → W p l e R s m args below meth c H1 locs1 cells slots Q (F0 m (pc + 3) ls rest)) : W p l e R s m args below meth c H locs cells slots Q (F0 m pc ls st0) := by
  have hF := va_free (wc := wc) hD hS hA isC hC
  intro T hT X
  rcases hr T hT X with ⟨v, st₀, t, T', L, h0, X', hL, e1, e2, ⟨⟨⟨u, hv, hp, hb⟩, hF1⟩, hsh⟩, st⟩ | ⟨q, st₀, t, T', L, E, ce, h0, X', hL, e1, e2, ⟨u, hp, hb, hF1⟩, hce, hcv, hcl, st⟩
  · cases hv
    obtain ⟨k1, k2, k3⟩ := vx_keep h0 e1 hS (fun q _ h => hF q h) hF hL hF1
    obtain ⟨hP1, hK1, hD1⟩ := hb
    rw [← e1] at hP1
    obtain ⟨hP2, hD2⟩ := va_join hP hD isC isR hC hR hn hdis k2 hF hP1 hD1
    have Y := nx_narrow X X' (by rw [hT, e1, ← h0]; exact hsh)
    obtain ⟨t2, a1, b1⟩ := kk hp T'.heap (locs ++ L) hP2 hD2 k3 T' rfl Y
    exact ⟨t2, st t2 a1, b1⟩
  · obtain ⟨k1, k2, k3⟩ := vx_keep h0 e1 hS (fun q _ h => hF q h) hF hL hF1
    obtain ⟨rfl, hP1, hK1, hD1⟩ := hb
    rw [← e1] at hP1
    obtain ⟨hP2, hD2⟩ := va_join hP hD isC isR hC hR hn hdis k2 hF hP1 hD1
    obtain ⟨t2, a1, b1⟩ := kx hp ce q T'.heap (locs ++ L) hP2 hD2 k3 (by rw [e1]; exact hce) hcv hcl T' rfl X'
    exact ⟨t2, st.trans a1, b1⟩
theorem nx_i {r : Int32} (hr : vx_Run p l e R s m args below meth c H locs cells slots 1 6 (F0 m pc ls st0) rest (XQi ok r D cl tys w1 (va_A wc H.size) a) (XX ok E0 D cl tys wx (va_A wc H.size)) (va_A wc H.size))
    (hP : va_P D cl ws H) (hD : va_D A ws) (hS : va_S A H0 H locs) (hA : ∀ q, H0.size ≤ q → A q) (isC isR : List Nat) (hC : isC.map (fun i => ws[i]?) = wc.map some) (hR : isR.map (fun i => ws[i]?) = wr.map some) (hn : va_nd isR = true) (hdis : ∀ i ∈ isR, i ∉ isC)
    (kx : ¬ ok → ∀ (ce : Cell) (q9 : Addr) (H1 : Heap) (locs1 : List Loc), va_P D cl (wr ++ wx) H1 → va_D A (wr ++ wx) → va_S A H0 H1 locs1 → H1[q9]? = some ce → ce.vm = .none → s.vm.findClass E0 = some ce.cls → vx_W p l e R s m args below meth c H1 locs1 (cells + 1) (slots + 6) Q (F0 m pc ls rest) q9)
    (kk : ok → ∀ (H1 : Heap) (locs1 : List Loc), va_P D cl (wr ++ w1) H1 → va_D A (wr ++ w1) → va_S A H0 H1 locs1 → W p l e R s m args below meth c H1 locs1 cells slots Q (F0 m (pc + 3) ls (.int r :: rest))) : W p l e R s m args below meth c H locs cells slots Q (F0 m pc ls st0) := by
  have hF := va_free (wc := wc) hD hS hA isC hC
  intro T hT X
  rcases hr T hT X with ⟨v, st₀, t, T', L, h0, X', hL, e1, e2, ⟨⟨⟨z, u, hv, hp, hb⟩, hF1⟩, hsh⟩, st⟩ | ⟨q, st₀, t, T', L, E, ce, h0, X', hL, e1, e2, ⟨u, hp, hb, hF1⟩, hce, hcv, hcl, st⟩
  · cases hv
    obtain ⟨k1, k2, k3⟩ := vx_keep h0 e1 hS (fun q _ h => hF q h) hF hL hF1
    obtain ⟨hP1, hK1, hD1⟩ := hb
    rw [← e1] at hP1
    obtain ⟨hP2, hD2⟩ := va_join hP hD isC isR hC hR hn hdis k2 hF hP1 hD1
    have Y := nx_narrow X X' (by rw [hT, e1, ← h0]; exact hsh)
    obtain ⟨hp, rfl⟩ := hp
    obtain ⟨t2, a1, b1⟩ := kk hp T'.heap (locs ++ L) hP2 hD2 k3 T' rfl Y
    exact ⟨t2, st t2 a1, b1⟩
  · obtain ⟨k1, k2, k3⟩ := vx_keep h0 e1 hS (fun q _ h => hF q h) hF hL hF1
    obtain ⟨rfl, hP1, hK1, hD1⟩ := hb
    rw [← e1] at hP1
    obtain ⟨hP2, hD2⟩ := va_join hP hD isC isR hC hR hn hdis k2 hF hP1 hD1
    obtain ⟨t2, a1, b1⟩ := kx hp ce q T'.heap (locs ++ L) hP2 hD2 k3 (by rw [e1]; exact hce) hcv hcl T' rfl X'
    exact ⟨t2, st.trans a1, b1⟩
theorem nx_d {r : UInt64} (hr : vx_Run p l e R s m args below meth c H locs cells slots 1 6 (F0 m pc ls st0) rest (XQd ok r D cl tys w1 (va_A wc H.size) a) (XX ok E0 D cl tys wx (va_A wc H.size)) (va_A wc H.size))
    (hP : va_P D cl ws H) (hD : va_D A ws) (hS : va_S A H0 H locs) (hA : ∀ q, H0.size ≤ q → A q) (isC isR : List Nat) (hC : isC.map (fun i => ws[i]?) = wc.map some) (hR : isR.map (fun i => ws[i]?) = wr.map some) (hn : va_nd isR = true) (hdis : ∀ i ∈ isR, i ∉ isC)
    (kx : ¬ ok → ∀ (ce : Cell) (q9 : Addr) (H1 : Heap) (locs1 : List Loc), va_P D cl (wr ++ wx) H1 → va_D A (wr ++ wx) → va_S A H0 H1 locs1 → H1[q9]? = some ce → ce.vm = .none → s.vm.findClass E0 = some ce.cls → vx_W p l e R s m args below meth c H1 locs1 (cells + 1) (slots + 6) Q (F0 m pc ls rest) q9)
    (kk : ok → ∀ (H1 : Heap) (locs1 : List Loc), va_P D cl (wr ++ w1) H1 → va_D A (wr ++ w1) → va_S A H0 H1 locs1 → W p l e R s m args below meth c H1 locs1 cells slots Q (F0 m (pc + 3) ls (.double r :: rest))) : W p l e R s m args below meth c H locs cells slots Q (F0 m pc ls st0) := by
  have hF := va_free (wc := wc) hD hS hA isC hC
  intro T hT X
  rcases hr T hT X with ⟨v, st₀, t, T', L, h0, X', hL, e1, e2, ⟨⟨⟨z, u, hv, hp, hb⟩, hF1⟩, hsh⟩, st⟩ | ⟨q, st₀, t, T', L, E, ce, h0, X', hL, e1, e2, ⟨u, hp, hb, hF1⟩, hce, hcv, hcl, st⟩
  · cases hv
    obtain ⟨k1, k2, k3⟩ := vx_keep h0 e1 hS (fun q _ h => hF q h) hF hL hF1
    obtain ⟨hP1, hK1, hD1⟩ := hb
    rw [← e1] at hP1
    obtain ⟨hP2, hD2⟩ := va_join hP hD isC isR hC hR hn hdis k2 hF hP1 hD1
    have Y := nx_narrow X X' (by rw [hT, e1, ← h0]; exact hsh)
    obtain ⟨hp, rfl⟩ := hp
    obtain ⟨t2, a1, b1⟩ := kk hp T'.heap (locs ++ L) hP2 hD2 k3 T' rfl Y
    exact ⟨t2, st t2 a1, b1⟩
  · obtain ⟨k1, k2, k3⟩ := vx_keep h0 e1 hS (fun q _ h => hF q h) hF hL hF1
    obtain ⟨rfl, hP1, hK1, hD1⟩ := hb
    rw [← e1] at hP1
    obtain ⟨hP2, hD2⟩ := va_join hP hD isC isR hC hR hn hdis k2 hF hP1 hD1
    obtain ⟨t2, a1, b1⟩ := kx hp ce q T'.heap (locs ++ L) hP2 hD2 k3 (by rw [e1]; exact hce) hcv hcl T' rfl X'
    exact ⟨t2, st.trans a1, b1⟩
end NXC
/-- the words of a throw: good ones of the tables, the rest among NW -/
def atOk (L : List Cond) : Bool := L.all (fun w => (decide (w ∈ lw_tbl) && goodWord w) || decide (w ∈ NW))
theorem hat_of {L : List Cond} (h : atOk L = true) {c0 : Cond} {args : Array Value} {s : State} (hts : ∀ x ∈ c0 :: WA, x.before args s = true) (hN : ∀ w ∈ NW, va_Nw w s) : ∀ w ∈ L, w.before args s = true := by
  intro w hw
  have h1 := List.all_eq_true.mp h w hw
  simp only [Bool.or_eq_true, Bool.and_eq_true, decide_eq_true_eq] at h1
  rcases h1 with ⟨a, b⟩ | a
  · exact hts w (List.mem_cons_of_mem _ (List.mem_filter.mpr ⟨a, b⟩))
  · exact va_Nw.use (by have := NW_kind w a; revert this; cases w <;> first | (intro q; exact absurd q Bool.false_ne_true) | (intro _; rfl)) (hN w a)
theorem at_IllegalArgumentException : atOk (vx_atS "PulseGraph" 159 "java/lang/IllegalArgumentException" ["java/lang/RuntimeException", "java/lang/Exception"]) = true := by decide +kernel
theorem ot_IllegalArgumentException : ∀ w ∈ Cond.classLink "PulseGraph" 155 "java/lang/IllegalArgumentException" :: Cond.initialized "java/lang/IllegalArgumentException" :: vx_atS "PulseGraph" 159 "java/lang/IllegalArgumentException" ["java/lang/RuntimeException", "java/lang/Exception"], vx_ot w = true := by decide +kernel
theorem at_IllegalStateException : atOk (vx_atS "PulseGraph" 171 "java/lang/IllegalStateException" ["java/lang/RuntimeException", "java/lang/Exception"]) = true := by decide +kernel
theorem ot_IllegalStateException : ∀ w ∈ Cond.classLink "PulseGraph" 167 "java/lang/IllegalStateException" :: Cond.initialized "java/lang/IllegalStateException" :: vx_atS "PulseGraph" 171 "java/lang/IllegalStateException" ["java/lang/RuntimeException", "java/lang/Exception"], vx_ot w = true := by decide +kernel
theorem at_UnsupportedOperationException : atOk (vx_atS "PulseGraph" 118 "java/lang/UnsupportedOperationException" ["java/lang/RuntimeException", "java/lang/Exception"]) = true := by decide +kernel
theorem ot_UnsupportedOperationException : ∀ w ∈ Cond.classLink "PulseGraph" 114 "java/lang/UnsupportedOperationException" :: Cond.initialized "java/lang/UnsupportedOperationException" :: vx_atS "PulseGraph" 118 "java/lang/UnsupportedOperationException" ["java/lang/RuntimeException", "java/lang/Exception"], vx_ot w = true := by decide +kernel
theorem at_IndexOutOfBoundsException : atOk (vx_atS "PulseGraph" 128 "java/lang/IndexOutOfBoundsException" ["java/lang/RuntimeException", "java/lang/Exception"]) = true := by decide +kernel
theorem ot_IndexOutOfBoundsException : ∀ w ∈ Cond.classLink "PulseGraph" 124 "java/lang/IndexOutOfBoundsException" :: Cond.initialized "java/lang/IndexOutOfBoundsException" :: vx_atS "PulseGraph" 128 "java/lang/IndexOutOfBoundsException" ["java/lang/RuntimeException", "java/lang/Exception"], vx_ot w = true := by decide +kernel

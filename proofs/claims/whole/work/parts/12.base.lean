/-! a contract out of the walk of its body; the ends -/
section NZ
variable {l : Launch} {y : MethodName} {w w' : List Cond} {rm : Room} {D : va_G} {cl : List vw_C} {tys : List (ClassId × FieldType)} {av : List Value} {ws0 ws1 : va_W} {sz : Nat} {cc : ByteArray} {maxL : Nat}
/-- what a body's walk starts with -/
def nCx (p : Program) (s : State) (m : MethodId) (meth : Method) (c : Code) (A : Nat → Prop) (cc : ByteArray) (ret : Option FieldType) (maxL : Nat) (own : String) (w : List Cond) (args : Array Value) (D : va_G) (cl : List vw_C) (tys : List (ClassId × FieldType)) : Prop :=
  p.tables.exec = Jvm.exec ∧ c.code = cc ∧ meth.sig.returnType = ret ∧ c.maxLocals = maxL ∧ s.vm.findClass own = some m.cls ∧ (∀ x ∈ w, x.before args s = true) ∧ meth.locks = false ∧ (∀ q, s.heap.size ≤ q → A q) ∧ va_K D cl tys s ∧ nX A s
theorem nm_v (hy : plainName y.cls = true) (hw : w = Cond.code y cc maxL none :: w') (hmx : (lg_sl av).length ≤ maxL)
    (body : ∀ (p : Program) (e : Env) (s : State) (m : MethodId) (below : List Frame) (meth : Method) (c : Code) (A : Nat → Prop) (ls : Array Slot) (H : Heap), nCx p s m meth c A cc none maxL y.cls w av.toArray D cl tys → va_P D cl ws0 H → va_D A ws0 → va_S A s.heap H [] → lv_has ls maxL (lv_args 0 av) →
      W p l e rm s m av.toArray below meth c H [] 0 0 (MQ below (va_Qv (fun _ : Unit => True) (nB D cl tys ws1 A) A) av.toArray s 0 0 A) (F0 m 0 ls [])) : MVv l y w rm D cl tys av ws0 sz ws1 := by
  refine Met.ofW (cc := cc) (maxL := maxL) (ret := none) hy hw ?_
  intro p e s m args below meth c s₁ B hml hv
  obtain ⟨rfl, hsz, hP, hK, hD0, hX⟩ := hv
  subst hsz
  rw [lg_entry_eq]
  exact body p e s m below meth c _ _ _ ⟨B.exec, B.bytes, B.returns, hml, findClass_of_methodNamed B.named, atoms_spec (ws := w) B.pre, B.notSynchronized, fun q h => Or.inr h, hK, hX⟩ hP hD0.self va_S.rf (lv_entry av hmx)
theorem nm_i {r : Int32} {ret : FieldType} (hy : plainName y.cls = true) (hw : w = Cond.code y cc maxL (some ret) :: w') (hmx : (lg_sl av).length ≤ maxL)
    (body : ∀ (p : Program) (e : Env) (s : State) (m : MethodId) (below : List Frame) (meth : Method) (c : Code) (A : Nat → Prop) (ls : Array Slot) (H : Heap), nCx p s m meth c A cc (some ret) maxL y.cls w av.toArray D cl tys → va_P D cl ws0 H → va_D A ws0 → va_S A s.heap H [] → lv_has ls maxL (lv_args 0 av) →
      W p l e rm s m av.toArray below meth c H [] 0 0 (MQ below (va_Qi (fun (z : Int32) (_ : Unit) => z = r) (nB D cl tys ws1 A) A) av.toArray s 0 0 A) (F0 m 0 ls [])) : MVi l y w rm D cl tys av ws0 sz r ws1 := by
  refine Met.ofW (cc := cc) (maxL := maxL) (ret := some ret) hy hw ?_
  intro p e s m args below meth c s₁ B hml hv
  obtain ⟨rfl, hsz, hP, hK, hD0, hX⟩ := hv
  subst hsz
  rw [lg_entry_eq]
  exact body p e s m below meth c _ _ _ ⟨B.exec, B.bytes, B.returns, hml, findClass_of_methodNamed B.named, atoms_spec (ws := w) B.pre, B.notSynchronized, fun q h => Or.inr h, hK, hX⟩ hP hD0.self va_S.rf (lv_entry av hmx)
theorem nm_d {r : UInt64} (hy : plainName y.cls = true) (hw : w = Cond.code y cc maxL (some .double) :: w') (hmx : (lg_sl av).length ≤ maxL)
    (body : ∀ (p : Program) (e : Env) (s : State) (m : MethodId) (below : List Frame) (meth : Method) (c : Code) (A : Nat → Prop) (ls : Array Slot) (H : Heap), nCx p s m meth c A cc (some .double) maxL y.cls w av.toArray D cl tys → va_P D cl ws0 H → va_D A ws0 → va_S A s.heap H [] → lv_has ls maxL (lv_args 0 av) →
      W p l e rm s m av.toArray below meth c H [] 0 0 (MQ below (va_Qd (fun (z : UInt64) (_ : Unit) => z = r) (nB D cl tys ws1 A) A) av.toArray s 0 0 A) (F0 m 0 ls [])) : MVd l y w rm D cl tys av ws0 sz r ws1 := by
  refine Met.ofW (cc := cc) (maxL := maxL) (ret := some .double) hy hw ?_
  intro p e s m args below meth c s₁ B hml hv
  obtain ⟨rfl, hsz, hP, hK, hD0, hX⟩ := hv
  subst hsz
  rw [lg_entry_eq]
  exact body p e s m below meth c _ _ _ ⟨B.exec, B.bytes, B.returns, hml, findClass_of_methodNamed B.named, atoms_spec (ws := w) B.pre, B.notSynchronized, fun q h => Or.inr h, hK, hX⟩ hP hD0.self va_S.rf (lv_entry av hmx)
end NZ
section NV
variable {p : Program} {l : Launch} {e : Env} {R : Room} {s : State} {m : MethodId} {args : Array Value} {below : List Frame} {meth : Method} {c : Code} {H : Heap} {locs : List Loc} {cc : ByteArray} {pc : Nat} {ls : Array Slot} {D : va_G} {cl : List vw_C} {tys : List (ClassId × FieldType)} {ws ws1 : va_W} {A : Nat → Prop}
theorem nr_v (hx : p.tables.exec = Jvm.exec) (hb : c.code = cc) (hr : meth.sig.returnType = none) (hlocks : meth.locks = false) (hK : va_K D cl tys s) (hP : va_P D cl ws H) (hD : va_D A ws) (hS : va_S A s.heap H locs) (ew : ws = ws1) (hdg : decode cc pc = .ok (.return_, 1)) :
    W p l e R s m args below meth c H locs 0 0 (MQ below (va_Qv (fun _ : Unit => True) (nB D cl tys ws1 A) A) args s 0 0 A) (F0 m pc ls []) := by
  subst ew
  exact W.vret hx hb hr (fun t ht hW => ⟨⟨(), rfl, trivial, by rw [ht]; exact hP, va_K.moved hW.alike hK, hD⟩, hS.F ht⟩) hS.2.2 hdg hlocks
theorem nr_i {v r : Int32} (hx : p.tables.exec = Jvm.exec) (hb : c.code = cc) (hr : meth.sig.returnType = some .int) (hlocks : meth.locks = false) (hK : va_K D cl tys s) (hP : va_P D cl ws H) (hD : va_D A ws) (hS : va_S A s.heap H locs) (er : v = r) (ew : ws = ws1) (hdg : decode cc pc = .ok (.ireturn, 1)) :
    W p l e R s m args below meth c H locs 0 0 (MQ below (va_Qi (fun (z : Int32) (_ : Unit) => z = r) (nB D cl tys ws1 A) A) args s 0 0 A) (F0 m pc ls [.int v]) := by
  subst ew
  exact W.iret hx hb hr (fun t ht hW => ⟨⟨v, (), rfl, er, by rw [ht]; exact hP, va_K.moved hW.alike hK, hD⟩, hS.F ht⟩) hS.2.2 hdg hlocks
theorem nr_b {v r : Bool} (hx : p.tables.exec = Jvm.exec) (hb : c.code = cc) (hr : meth.sig.returnType = some .boolean) (hlocks : meth.locks = false) (hK : va_K D cl tys s) (hP : va_P D cl ws H) (hD : va_D A ws) (hS : va_S A s.heap H locs) (er : v = r) (ew : ws = ws1) (hdg : decode cc pc = .ok (.ireturn, 1)) :
    W p l e R s m args below meth c H locs 0 0 (MQ below (va_Qi (fun (z : Int32) (_ : Unit) => z = bI r) (nB D cl tys ws1 A) A) args s 0 0 A) (F0 m pc ls [.int (bI v)]) := by
  subst ew
  exact W.zret hx hb hr (bI_narrow v) (fun t ht hW => ⟨⟨bI v, (), rfl, by rw [er], by rw [ht]; exact hP, va_K.moved hW.alike hK, hD⟩, hS.F ht⟩) hS.2.2 hdg hlocks
theorem nr_d {v r : UInt64} (hx : p.tables.exec = Jvm.exec) (hb : c.code = cc) (hr : meth.sig.returnType = some .double) (hlocks : meth.locks = false) (hK : va_K D cl tys s) (hP : va_P D cl ws H) (hD : va_D A ws) (hS : va_S A s.heap H locs) (er : v = r) (ew : ws = ws1) (hdg : decode cc pc = .ok (.dreturn, 1)) :
    W p l e R s m args below meth c H locs 0 0 (MQ below (va_Qd (fun (z : UInt64) (_ : Unit) => z = r) (nB D cl tys ws1 A) A) args s 0 0 A) (F0 m pc ls [.double v]) := by
  subst ew
  exact W.dret hx hb hr (fun t ht hW => ⟨⟨v, (), rfl, er, by rw [ht]; exact hP, va_K.moved hW.alike hK, hD⟩, hS.F ht⟩) hS.2.2 hdg hlocks
end NV

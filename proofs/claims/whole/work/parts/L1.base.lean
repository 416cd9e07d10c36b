/-! the law's helpers: long arrays, catching, contracts that return a code -/
abbrev cL (a cA n : Nat) (f : Nat → Int64) : Nat × va_E := (a, .inl (cA, n, .inr (.inl f)))
def NCP : List (String × String) := [("java/lang/IllegalStateException", "java/lang/IllegalArgumentException"), ("java/util/NoSuchElementException", "java/lang/IllegalArgumentException"), ("java/lang/UnsupportedOperationException", "java/lang/IllegalArgumentException"), ("java/lang/IndexOutOfBoundsException", "java/lang/IllegalArgumentException"), ("java/lang/IllegalStateException", "java/util/NoSuchElementException"), ("java/lang/IndexOutOfBoundsException", "java/util/NoSuchElementException"), ("java/lang/UnsupportedOperationException", "java/lang/IllegalStateException")]
def nNC (U : State) : Prop := ∀ q ∈ NCP, va_Nc q.1 q.2 U
theorem nNC.moved {u U : State} (hvm : u.vm.Alike U.vm) (h : nNC u) : nNC U := fun q hq => va_Nc.moved hvm (h q hq)
theorem nCast {args : Array Value} {s : State} {E : String} (hm : Cond.castable E E ∈ NW) (hN : ∀ w ∈ NW, va_Nw w s) : (Cond.castable E E).before args s = true := va_Nw.use rfl (hN _ hm)
theorem hK_3 {D : va_G} {cl : List vw_C} {cZ cI cF cJ : ClassId} {s : State} (h : va_K D cl [(cZ, .boolean), (cI, .int), (cF, .double), (cJ, .long)] s) : va_K D cl [(cZ, .boolean), (cI, .int), (cF, .double)] s :=
  ⟨h.1, fun k q hk => h.2 k q (by
    have hl : k < 3 := (List.getElem?_eq_some_iff.mp hk).1
    rw [show ([(cZ, FieldType.boolean), (cI, .int), (cF, .double), (cJ, .long)] : List (ClassId × FieldType)) = [(cZ, .boolean), (cI, .int), (cF, .double)] ++ [(cJ, .long)] from rfl, List.getElem?_append_left hl]
    exact hk)⟩
section LNW
variable {p : Program} {l : Launch} {e : Env} {R : Room} {s : State} {m : MethodId} {args : Array Value} {below : List Frame} {meth : Method} {c : Code} {H : Heap} {locs : List Loc} {cells slots : Nat} {Q : State → Prop} {cc : ByteArray} {pc : Nat} {ls : Array Slot} {rest : List Value} {D : va_G} {cl : List vw_C} {tys : List (ClassId × FieldType)} {ws : va_W} {A : Nat → Prop} {H0 : Heap} {a : Nat}
theorem nw_lald (hx : p.tables.exec = Jvm.exec) (hb : c.code = cc) (hK : va_K D cl tys s) (hP : va_P D cl ws H) (q0 t0 : Nat) {cA : ClassId} {n : Nat} {f : Nat → Int64} (ha : ws[q0]? = some (cL a cA n f)) (ht : tys[t0]? = some (cA, .long)) {i : Nat} (hi : i < n) (hn : n < 2 ^ 31) (hdg : decode cc pc = .ok (.laload, 1))
    (kk : W p l e R s m args below meth c H locs cells slots Q (F0 m (pc + 1) ls (.long (f i) :: rest))) : W p l e R s m args below meth c H locs cells slots Q (F0 m pc ls (.int (nI i) :: .ref a :: rest)) :=
  va_lald hx hb hK hP q0 t0 ha ht (vp_in_nI hi hn) hdg (by rw [nI_clamp (Nat.lt_trans hi hn)]; exact kk)
theorem nw_last (hx : p.tables.exec = Jvm.exec) (hb : c.code = cc) (hK : va_K D cl tys s) (hP : va_P D cl ws H) (hD : va_D A ws) (hS : va_S A H0 H locs) (q0 t0 : Nat) {cA : ClassId} {n : Nat} {f : Nat → Int64} (ha : ws[q0]? = some (cL a cA n f)) (ht : tys[t0]? = some (cA, .long)) {i : Nat} {x : Int64} (hi : i < n) (hn : n < 2 ^ 31) (hdg : decode cc pc = .ok (.lastore, 1))
    (kk : ∀ (H1 : Heap) (locs1 : List Loc), va_P D cl (ws.set q0 (cL a cA n (va_up f i x))) H1 → va_D A (ws.set q0 (cL a cA n (va_up f i x))) → va_S A H0 H1 locs1 → W p l e R s m args below meth c H1 locs1 cells slots Q (F0 m (pc + 1) ls rest)) : W p l e R s m args below meth c H locs cells slots Q (F0 m pc ls (.long x :: .int (nI i) :: .ref a :: rest)) :=
  va_last hx hb hK hP hD hS q0 t0 ha ht (vp_in_nI hi hn) hdg (fun H1 locs1 hP1 hD1 hS1 => by
    rw [nI_clamp (Nat.lt_trans hi hn)] at hP1 hD1
    exact kk H1 locs1 hP1 hD1 hS1)
end LNW
def nPreL (D : va_G) (cl : List vw_C) (tys : List (ClassId × FieldType)) (ws0 : va_W) (sz : Nat) : State → Prop := fun U => nPre D cl tys ws0 sz U ∧ nNC U
theorem nPreL_blind {D : va_G} {cl : List vw_C} {tys : List (ClassId × FieldType)} {ws0 : va_W} {sz : Nat} {av : List Value} : FrameBlind (va_Pc av (nPreL D cl tys ws0 sz)) := by
  intro a U g mk q
  obtain ⟨q0, ⟨q1, qP, qK, qD, qX⟩, qN⟩ := q
  exact ⟨q0, ⟨q1, qP, va_K.moved (u := U) (U := U.calling g mk a) (Vm.Alike.refl U.vm) qK, qD, nX_moved qX rfl rfl⟩, qN.moved (u := U) (U := U.calling g mk a) (Vm.Alike.refl U.vm)⟩
def LVi {S : Type} (l : Launch) (y : MethodName) (w : List Cond) (rm : Room) (D : va_G) (cl : List vw_C) (tys : List (ClassId × FieldType)) (av : List Value) (ws0 : va_W) (sz : Nat) (r : Int32) (ws1 : S → va_W) : Prop :=
  vx_Met l y w rm (va_Pc av (nPreL D cl tys ws0 sz)) (va_Qi (fun (z : Int32) (_ : S) => z = r) (fun u t => nB D cl tys (ws1 u) (va_A ws0 sz) () t) (va_A ws0 sz)) (vx_X (fun _ : Unit => False) (fun _ _ _ => False) (va_A ws0 sz)) 1 6 (va_A ws0 sz)
section LZ
variable {l : Launch} {y : MethodName} {w w' : List Cond} {rm : Room} {D : va_G} {cl : List vw_C} {tys : List (ClassId × FieldType)} {av : List Value} {ws0 : va_W} {sz : Nat} {cc : ByteArray} {maxL : Nat} {S : Type} {ws1 : S → va_W} {hh : List (Nat × Nat × Nat × Nat)}
theorem nml_i {r : Int32} {ret : FieldType} (hy : plainName y.cls = true) (hw : w = Cond.codeWith y cc maxL (some ret) hh :: w') (hmx : (lg_sl av).length ≤ maxL)
    (body : ∀ (p : Program) (e : Env) (s : State) (m : MethodId) (below : List Frame) (meth : Method) (c : Code) (A : Nat → Prop) (ls : Array Slot) (H : Heap), nCx p s m meth c A cc (some ret) maxL y.cls w av.toArray D cl tys → nNC s → c.exceptionTable.toList = tableOf hh → va_P D cl ws0 H → va_D A ws0 → va_S A s.heap H [] → lv_has ls maxL (lv_args 0 av) →
      W p l e rm s m av.toArray below meth c H [] 0 0 (vx_MQ below (va_Qi (fun (z : Int32) (_ : S) => z = r) (fun u t => nB D cl tys (ws1 u) A () t) A) (vx_X (fun _ : Unit => False) (fun _ _ _ => False) A) av.toArray s 1 6 A) (F0 m 0 ls [])) : LVi l y w rm D cl tys av ws0 sz r ws1 := by
  refine vx_ofWH (cc := cc) (maxL := maxL) (ret := some ret) (hh := hh) hy hw ?_
  intro p e s m args below meth c s₁ B hml hv
  have htab : c.exceptionTable.toList = tableOf hh := vx_table (x := y) B (atoms_spec (ws := w) B.pre (Cond.codeWith y cc maxL (some ret) hh) (by rw [hw]; exact List.mem_cons_self))
  obtain ⟨rfl, ⟨hsz, hP, hK, hD0, hX⟩, hN⟩ := hv
  subst hsz
  rw [lg_entry_eq]
  exact body p e s m below meth c _ _ _ ⟨B.exec, B.bytes, B.returns, hml, findClass_of_methodNamed B.named, atoms_spec (ws := w) B.pre, B.notSynchronized, fun q h => Or.inr h, hK, hX⟩ hN htab hP hD0.self va_S.rf (lv_entry av hmx)
end LZ
section LR
variable {p : Program} {l : Launch} {e : Env} {R : Room} {s : State} {m : MethodId} {args : Array Value} {below : List Frame} {meth : Method} {c : Code} {H : Heap} {locs : List Loc} {cc : ByteArray} {pc cells slots : Nat} {ls : Array Slot} {D : va_G} {cl : List vw_C} {tys : List (ClassId × FieldType)} {ws : va_W} {A : Nat → Prop} {S : Type} {ws1 : S → va_W} {XC : String → State → State → Prop}
theorem lr_i {v r : Int32} (u : S) (hx : p.tables.exec = Jvm.exec) (hb : c.code = cc) (hr : meth.sig.returnType = some .int) (hlocks : meth.locks = false) (hK : va_K D cl tys s) (hP : va_P D cl ws H) (hD : va_D A ws) (hS : va_S A s.heap H locs) (er : v = r) (ew : ws = ws1 u) (hdg : decode cc pc = .ok (.ireturn, 1)) (h1 : cells ≤ 1) (h2 : slots ≤ 6) :
    W p l e R s m args below meth c H locs cells slots (vx_MQ below (va_Qi (fun (z : Int32) (_ : S) => z = r) (fun u t => nB D cl tys (ws1 u) A () t) A) XC args s 1 6 A) (F0 m pc ls [.int v]) := by
  subst ew
  exact W.widen h1 h2 (vx_ret (W.iret hx hb hr (fun t ht hW => ⟨⟨v, u, rfl, er, by rw [ht]; exact hP, va_K.moved hW.alike hK, hD⟩, hS.F ht⟩) hS.2.2 hdg hlocks))
end LR
theorem nlt1 {k : Nat} (h : k < 2) (h1 : ¬ k = 1) : k = 0 := by omega
theorem nlt2 {k : Nat} (h : k < 3) (h1 : ¬ k = 1) (h2 : ¬ k = 2) : k = 0 := by omega
theorem nlt3 {k : Nat} (h : k < 4) (h1 : ¬ k = 1) (h2 : ¬ k = 2) (h3 : ¬ k = 3) : k = 0 := by omega

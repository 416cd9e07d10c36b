/-! contracts whose world behind is known but for some part u -/
def MEi {S : Type} (l : Launch) (y : MethodName) (w : List Cond) (rm : Room) (D : va_G) (cl : List vw_C) (tys : List (ClassId × FieldType)) (av : List Value) (ws0 : va_W) (sz : Nat) (r : Int32) (ws1 : S → va_W) : Prop :=
  Met l y w rm (va_Pc av (nPre D cl tys ws0 sz)) (va_Qi (fun (z : Int32) (_ : S) => z = r) (fun u t => nB D cl tys (ws1 u) (va_A ws0 sz) () t) (va_A ws0 sz)) 0 0 (va_A ws0 sz)
section NEZ
variable {l : Launch} {y : MethodName} {w w' : List Cond} {rm : Room} {D : va_G} {cl : List vw_C} {tys : List (ClassId × FieldType)} {av : List Value} {ws0 : va_W} {sz : Nat} {cc : ByteArray} {maxL : Nat} {S : Type} {ws1 : S → va_W}
theorem nme_i {r : Int32} {ret : FieldType} (hy : plainName y.cls = true) (hw : w = Cond.code y cc maxL (some ret) :: w') (hmx : (lg_sl av).length ≤ maxL)
    (body : ∀ (p : Program) (e : Env) (s : State) (m : MethodId) (below : List Frame) (meth : Method) (c : Code) (A : Nat → Prop) (ls : Array Slot) (H : Heap), nCx p s m meth c A cc (some ret) maxL y.cls w av.toArray D cl tys → va_P D cl ws0 H → va_D A ws0 → va_S A s.heap H [] → lv_has ls maxL (lv_args 0 av) →
      W p l e rm s m av.toArray below meth c H [] 0 0 (MQ below (va_Qi (fun (z : Int32) (_ : S) => z = r) (fun u t => nB D cl tys (ws1 u) A () t) A) av.toArray s 0 0 A) (F0 m 0 ls [])) : MEi l y w rm D cl tys av ws0 sz r ws1 := by
  refine Met.ofW (cc := cc) (maxL := maxL) (ret := some ret) hy hw ?_
  intro p e s m args below meth c s₁ B hml hv
  obtain ⟨rfl, hsz, hP, hK, hD0, hX⟩ := hv
  subst hsz
  rw [lg_entry_eq]
  exact body p e s m below meth c _ _ _ ⟨B.exec, B.bytes, B.returns, hml, findClass_of_methodNamed B.named, atoms_spec (ws := w) B.pre, B.notSynchronized, fun q h => Or.inr h, hK, hX⟩ hP hD0.self va_S.rf (lv_entry av hmx)
end NEZ
section NEV
variable {p : Program} {l : Launch} {e : Env} {R : Room} {s : State} {m : MethodId} {args : Array Value} {below : List Frame} {meth : Method} {c : Code} {H : Heap} {locs : List Loc} {cc : ByteArray} {pc : Nat} {ls : Array Slot} {D : va_G} {cl : List vw_C} {tys : List (ClassId × FieldType)} {ws : va_W} {A : Nat → Prop} {S : Type} {ws1 : S → va_W}
theorem nre_i {v r : Int32} (u : S) (hx : p.tables.exec = Jvm.exec) (hb : c.code = cc) (hr : meth.sig.returnType = some .int) (hlocks : meth.locks = false) (hK : va_K D cl tys s) (hP : va_P D cl ws H) (hD : va_D A ws) (hS : va_S A s.heap H locs) (er : v = r) (ew : ws = ws1 u) (hdg : decode cc pc = .ok (.ireturn, 1)) :
    W p l e R s m args below meth c H locs 0 0 (MQ below (va_Qi (fun (z : Int32) (_ : S) => z = r) (fun u t => nB D cl tys (ws1 u) A () t) A) args s 0 0 A) (F0 m pc ls [.int v]) := by
  subst ew
  exact W.iret hx hb hr (fun t ht hW => ⟨⟨v, u, rfl, er, by rw [ht]; exact hP, va_K.moved hW.alike hK, hD⟩, hS.F ht⟩) hS.2.2 hdg hlocks
end NEV
section NEC
variable {p : Program} {l : Launch} {e : Env} {R : Room} {s : State} {m : MethodId} {args : Array Value} {below : List Frame} {meth : Method} {c : Code} {H : Heap} {locs : List Loc} {cells slots : Nat} {Q : State → Prop} {cc : ByteArray} {pc : Nat} {ls : Array Slot} {rest st0 : List Value} {D : va_G} {cl : List vw_C} {tys : List (ClassId × FieldType)} {ws wc wr : va_W} {A : Nat → Prop} {H0 : Heap} {a : Array Value} {S : Type} {w1 : S → va_W}
theorem nce_i {r : Int32} (hr : va_Run p l e R s m args below meth c H locs cells slots 0 0 (F0 m pc ls st0) rest (va_Qi (fun (z : Int32) (_ : S) => z = r) (fun u t => nB D cl tys (w1 u) (va_A wc H.size) () t) (va_A wc H.size) a) (va_A wc H.size))
    (hP : va_P D cl ws H) (hD : va_D A ws) (hS : va_S A H0 H locs) (hA : ∀ q, H0.size ≤ q → A q) (isC isR : List Nat) (hC : isC.map (fun i => ws[i]?) = wc.map some) (hR : isR.map (fun i => ws[i]?) = wr.map some) (hn : va_nd isR = true) (hdis : ∀ i ∈ isR, i ∉ isC)
    (kk : ∀ (u : S) (H1 : Heap) (locs1 : List Loc), va_P D cl (wr ++ w1 u) H1 → va_D A (wr ++ w1 u) → va_S A H0 H1 locs1 → W p l e R s m args below meth c H1 locs1 cells slots Q (F0 m (pc + 3) ls (.int r :: rest))) : W p l e R s m args below meth c H locs cells slots Q (F0 m pc ls st0) := by
  have hF := va_free (wc := wc) hD hS hA isC hC
  refine va_calli hr hS (fun q _ h => hF q h) hF (fun z u t H1 locs1 ht hvm hw hB hz1 hk1 hS1 => ?_)
  obtain ⟨hP1, hK1, hD1⟩ := hB
  rw [ht] at hP1
  obtain ⟨hP2, hD2⟩ := va_join hP hD isC isR hC hR hn hdis hk1 hF hP1 hD1
  rw [hw]
  exact kk u H1 locs1 hP2 hD2 hS1
end NEC
/-- what step leaves -/
def rStp (pg nb : Nat) (cb : Bool) (a : Int32) (y : RS) : RS := if inR a (nI 1) (nI 10) = true ∧ y.2.2.2.2.2.2.2.2.2.2.1 = 1 then rRun pg nb cb a.toNatClampNeg y else y
theorem rRun_stop {pg nb : Nat} {cb : Bool} {y : RS} (h : y.2.2.2.2.2.2.2.2.2.2.1 ≠ 1) : ∀ n, rRun pg nb cb n y = y
  | 0 => rfl
  | n + 1 => by unfold rRun; rw [if_neg h]
theorem rDone_stop {pg nb : Nat} {cb : Bool} {y : RS} (h : y.2.2.2.2.2.2.2.2.2.2.1 ≠ 1) : ∀ n, rDone pg nb cb n y = 0
  | 0 => rfl
  | n + 1 => by unfold rDone; rw [if_neg h]
theorem rRun_go {pg nb : Nat} {cb : Bool} {y : RS} (h : y.2.2.2.2.2.2.2.2.2.2.1 = 1) (n : Nat) : rRun pg nb cb (n + 1) y = rRun pg nb cb n (rS pg nb cb y) := by rw [rRun, if_pos h]
theorem rDone_go {pg nb : Nat} {cb : Bool} {y : RS} (h : y.2.2.2.2.2.2.2.2.2.2.1 = 1) (n : Nat) : rDone pg nb cb (n + 1) y = rDone pg nb cb n (rS pg nb cb y) + 1 := by rw [rDone, if_pos h]
theorem rS_st {pg nb : Nat} {cb : Bool} {y : RS} : (rS pg nb cb y).2.2.2.2.2.2.2.2.2.2.1 < 3 := by
  unfold rS; split
  · exact (by decide : 2 < 3)
  · show (if _ then 1 else 0) < 3; split <;> decide
theorem rS_ss {pg nb : Nat} {cb : Bool} {y : RS} : (rS pg nb cb y).2.2.2.2.2.2.2.2.1 0 ≤ y.2.2.2.2.2.2.2.2.1 0 + 1 := by
  unfold rS; split
  · exact Nat.le_succ _
  · exact Nat.le_of_eq rfl

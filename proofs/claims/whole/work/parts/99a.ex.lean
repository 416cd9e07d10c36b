/-! contracts that return or throw, the world behind known but for some part u -/
def XEQ {S : Type} (ok : Prop) (r : Int32) (D : va_G) (cl : List vw_C) (tys : List (ClassId × FieldType)) (ws1 : S → va_W) (A : Nat → Prop) : Array Value → State → Outcome → State → Prop := fun a st o t => va_Qi (fun (z : Int32) (_ : S) => ok ∧ z = r) (fun u t => nB D cl tys (ws1 u) A () t) A a st o t ∧ shp st.heap t.heap
abbrev XEX {S : Type} (ok : Prop) (E : String) (D : va_G) (cl : List vw_C) (tys : List (ClassId × FieldType)) (wsx : S → va_W) (A : Nat → Prop) : String → State → State → Prop := vx_X (fun _ : S => ¬ ok) (fun E' u t => E' = E ∧ nB D cl tys (wsx u) A () t) A
def XEi {S : Type} (l : Launch) (y : MethodName) (w : List Cond) (rm : Room) (D : va_G) (cl : List vw_C) (tys : List (ClassId × FieldType)) (av : List Value) (ws0 : va_W) (sz : Nat) (ok : Prop) (E : String) (r : Int32) (ws1 wsx : S → va_W) : Prop :=
  vx_Met l y w rm (va_Pc av (nPre D cl tys ws0 sz)) (XEQ ok r D cl tys ws1 (va_A ws0 sz)) (XEX ok E D cl tys wsx (va_A ws0 sz)) 1 6 (va_A ws0 sz)
section XEZ
variable {l : Launch} {y : MethodName} {w w' : List Cond} {rm : Room} {D : va_G} {cl : List vw_C} {tys : List (ClassId × FieldType)} {av : List Value} {ws0 : va_W} {sz : Nat} {cc : ByteArray} {maxL : Nat} {S : Type} {ws1 wsx : S → va_W}
theorem nmxe_i {ok : Prop} {E : String} {r : Int32} {ret : FieldType} (hy : plainName y.cls = true) (hw : w = Cond.code y cc maxL (some ret) :: w') (hmx : (lg_sl av).length ≤ maxL)
    (body : ∀ (p : Program) (e : Env) (s : State) (m : MethodId) (below : List Frame) (meth : Method) (c : Code) (A : Nat → Prop) (ls : Array Slot) (H : Heap), nCx p s m meth c A cc (some ret) maxL y.cls w av.toArray D cl tys → (∀ x ∈ c.exceptionTable.toList, False) → va_P D cl ws0 H → va_D A ws0 → va_S A s.heap H [] → lv_has ls maxL (lv_args 0 av) →
      W p l e rm s m av.toArray below meth c H [] 0 0 (vx_MQ below (XEQ ok r D cl tys ws1 A) (XEX ok E D cl tys wsx A) av.toArray s 1 6 A) (F0 m 0 ls [])) : XEi l y w rm D cl tys av ws0 sz ok E r ws1 wsx := by
  refine vx_ofW (cc := cc) (maxL := maxL) (ret := some ret) hy hw ?_
  intro p e s m args below meth c s₁ B hml hT hv
  obtain ⟨rfl, hsz, hP, hK, hD0, hX⟩ := hv
  subst hsz
  rw [lg_entry_eq]
  exact body p e s m below meth c _ _ _ ⟨B.exec, B.bytes, B.returns, hml, findClass_of_methodNamed B.named, atoms_spec (ws := w) B.pre, B.notSynchronized, fun q h => Or.inr h, hK, hX⟩ hT hP hD0.self va_S.rf (lv_entry av hmx)
end XEZ
section XER
variable {p : Program} {l : Launch} {e : Env} {R : Room} {s : State} {m : MethodId} {args : Array Value} {below : List Frame} {meth : Method} {c : Code} {H : Heap} {locs : List Loc} {cc : ByteArray} {pc : Nat} {ls : Array Slot} {rest : List Value} {D : va_G} {cl : List vw_C} {tys : List (ClassId × FieldType)} {ws : va_W} {A : Nat → Prop} {ok : Prop} {S : Type} {ws1 wsx : S → va_W}
variable {Qc : Array Value → State → Outcome → State → Prop} {XC : String → State → State → Prop}
theorem nrxe_i {v r : Int32} (u : S) (hx : p.tables.exec = Jvm.exec) (hb : c.code = cc) (hr : meth.sig.returnType = some .int) (hlocks : meth.locks = false) (hK : va_K D cl tys s) (hP : va_P D cl ws H) (hD : va_D A ws) (hS : va_S A s.heap H locs) (hok : ok) (er : v = r) (ew : ws = ws1 u) (hdg : decode cc pc = .ok (.ireturn, 1)) :
    W p l e R s m args below meth c H locs 0 0 (vx_MQ below (XEQ ok r D cl tys ws1 A) XC args s 1 6 A) (F0 m pc ls [.int v]) := by
  subst ew
  exact nx_ret (W.iret hx hb hr (fun t ht hW => ⟨⟨v, u, rfl, ⟨hok, er⟩, by rw [ht]; exact hP, va_K.moved hW.alike hK, hD⟩, hS.F ht⟩) hS.2.2 hdg hlocks)
theorem nxe_out {E E0 : String} {ce : Cell} {q9 : Addr} (u : S) (hT : ∀ x ∈ c.exceptionTable.toList, False) (hlocks : meth.locks = false) (hK : va_K D cl tys s) (hP : va_P D cl ws H) (hD : va_D A ws) (hS : va_S A s.heap H locs) (hcell : H[q9]? = some ce) (hv : ce.vm = .none) (hcl : s.vm.findClass E0 = some ce.cls) (hno : ¬ ok) (hE : E0 = E) (ew : ws = wsx u) :
    vx_W p l e R s m args below meth c H locs 1 6 (vx_MQ below Qc (XEX ok E D cl tys wsx A) args s 1 6 A) (F0 m pc ls rest) q9 := by
  subst ew
  exact vx_out (fun x h => (hT x h).elim) hlocks hcell hv hcl (fun t ht ha => ⟨u, hno, ⟨hE, by rw [ht]; exact hP, va_K.moved ha hK, hD⟩, hS.F ht⟩) hS.2.2 (Nat.le_refl _) (Nat.le_refl _)
end XER
section XEC
variable {p : Program} {l : Launch} {e : Env} {R : Room} {s : State} {m : MethodId} {args : Array Value} {below : List Frame} {meth : Method} {c : Code} {H : Heap} {locs : List Loc} {cells slots : Nat} {Q : State → Prop} {cc : ByteArray} {pc : Nat} {ls : Array Slot} {rest st0 : List Value} {D : va_G} {cl : List vw_C} {tys : List (ClassId × FieldType)} {ws wc wr : va_W} {A : Nat → Prop} {H0 : Heap} {a : Array Value} {ok : Prop} {E0 : String} {S : Type} {w1 wx : S → va_W}
theorem nxe_i {r : Int32} (hr : vx_Run p l e R s m args below meth c H locs cells slots 1 6 (F0 m pc ls st0) rest (XEQ ok r D cl tys w1 (va_A wc H.size) a) (XEX ok E0 D cl tys wx (va_A wc H.size)) (va_A wc H.size))
    (hP : va_P D cl ws H) (hD : va_D A ws) (hS : va_S A H0 H locs) (hA : ∀ q, H0.size ≤ q → A q) (isC isR : List Nat) (hC : isC.map (fun i => ws[i]?) = wc.map some) (hR : isR.map (fun i => ws[i]?) = wr.map some) (hn : va_nd isR = true) (hdis : ∀ i ∈ isR, i ∉ isC)
    (kx : ¬ ok → ∀ (u : S) (ce : Cell) (q9 : Addr) (H1 : Heap) (locs1 : List Loc), va_P D cl (wr ++ wx u) H1 → va_D A (wr ++ wx u) → va_S A H0 H1 locs1 → H1[q9]? = some ce → ce.vm = .none → s.vm.findClass E0 = some ce.cls → vx_W p l e R s m args below meth c H1 locs1 (cells + 1) (slots + 6) Q (F0 m pc ls rest) q9)
    (kk : ok → ∀ (u : S) (H1 : Heap) (locs1 : List Loc), va_P D cl (wr ++ w1 u) H1 → va_D A (wr ++ w1 u) → va_S A H0 H1 locs1 → W p l e R s m args below meth c H1 locs1 cells slots Q (F0 m (pc + 3) ls (.int r :: rest))) : W p l e R s m args below meth c H locs cells slots Q (F0 m pc ls st0) := by
  have hF := va_free (wc := wc) hD hS hA isC hC
  intro T hT X
  rcases hr T hT X with ⟨v, st₀, t, T', L, h0, X', hL, e1, e2, ⟨⟨⟨z, u, hv, hp, hb⟩, hF1⟩, hsh⟩, st⟩ | ⟨q, st₀, t, T', L, E, ce, h0, X', hL, e1, e2, ⟨u, hp, hb, hF1⟩, hce, hcv, hcl, st⟩
  · cases hv
    obtain ⟨k1, k2, k3⟩ := vx_keep h0 e1 hS (fun q _ h => hF q h) hF hL hF1
    obtain ⟨hP1, hK1, hD1⟩ := hb
    rw [← e1] at hP1
    obtain ⟨hP2, hD2⟩ := va_join hP hD isC isR hC hR hn hdis k2 hF hP1 hD1
    have Y := nx_narrow X X' (by rw [hT, e1, ← h0]; exact hsh)
    obtain ⟨hp, rfl⟩ := hp
    obtain ⟨t2, a1, b1⟩ := kk hp u T'.heap (locs ++ L) hP2 hD2 k3 T' rfl Y
    exact ⟨t2, st t2 a1, b1⟩
  · obtain ⟨k1, k2, k3⟩ := vx_keep h0 e1 hS (fun q _ h => hF q h) hF hL hF1
    obtain ⟨rfl, hP1, hK1, hD1⟩ := hb
    rw [← e1] at hP1
    obtain ⟨hP2, hD2⟩ := va_join hP hD isC isR hC hR hn hdis k2 hF hP1 hD1
    obtain ⟨t2, a1, b1⟩ := kx hp u ce q T'.heap (locs ++ L) hP2 hD2 k3 (by rw [e1]; exact hce) hcv hcl T' rfl X'
    exact ⟨t2, st.trans a1, b1⟩
end XEC

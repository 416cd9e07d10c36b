/-! methods that return or throw: the world stays as it was where they throw -/
def nBX (D : va_G) (cl : List vw_C) (tys : List (ClassId × FieldType)) (ws1 : va_W) (A : Nat → Prop) (E0 : String) : String → Unit → State → Prop := fun E u t => E = E0 ∧ nB D cl tys ws1 A u t
def XVv (l : Launch) (y : MethodName) (w : List Cond) (rm : Room) (D : va_G) (cl : List vw_C) (tys : List (ClassId × FieldType)) (av : List Value) (ws0 : va_W) (sz : Nat) (ok : Prop) (E0 : String) : Prop :=
  vx_Met l y w rm (va_Pc av (nPre D cl tys ws0 sz)) (va_Qv (fun _ : Unit => ok) (nB D cl tys ws0 (va_A ws0 sz)) (va_A ws0 sz)) (vx_X (fun _ : Unit => ¬ ok) (nBX D cl tys ws0 (va_A ws0 sz) E0) (va_A ws0 sz)) 1 6 (va_A ws0 sz)
section NXZ
variable {l : Launch} {y : MethodName} {w w' : List Cond} {rm : Room} {D : va_G} {cl : List vw_C} {tys : List (ClassId × FieldType)} {av : List Value} {ws0 ws1 : va_W} {sz : Nat} {cc : ByteArray} {maxL : Nat}
theorem nmx_v {ok : Prop} {E0 : String} (hy : plainName y.cls = true) (hw : w = Cond.code y cc maxL none :: w') (hmx : (lg_sl av).length ≤ maxL)
    (body : ∀ (p : Program) (e : Env) (s : State) (m : MethodId) (below : List Frame) (meth : Method) (c : Code) (A : Nat → Prop) (ls : Array Slot) (H : Heap), nCx p s m meth c A cc none maxL y.cls w av.toArray D cl tys → (∀ x ∈ c.exceptionTable.toList, False) → va_P D cl ws0 H → va_D A ws0 → va_S A s.heap H [] → lv_has ls maxL (lv_args 0 av) →
      W p l e rm s m av.toArray below meth c H [] 0 0 (vx_MQ below (va_Qv (fun _ : Unit => ok) (nB D cl tys ws0 A) A) (vx_X (fun _ : Unit => ¬ ok) (nBX D cl tys ws0 A E0) A) av.toArray s 1 6 A) (F0 m 0 ls [])) : XVv l y w rm D cl tys av ws0 sz ok E0 := by
  refine vx_ofW (cc := cc) (maxL := maxL) (ret := none) hy hw ?_
  intro p e s m args below meth c s₁ B hml hT hv
  obtain ⟨rfl, hsz, hP, hK, hD0, hX⟩ := hv
  subst hsz
  rw [lg_entry_eq]
  exact body p e s m below meth c _ _ _ ⟨B.exec, B.bytes, B.returns, hml, findClass_of_methodNamed B.named, atoms_spec (ws := w) B.pre, B.notSynchronized, fun q h => Or.inr h, hK, hX⟩ hT hP hD0.self va_S.rf (lv_entry av hmx)
end NXZ
/-- the words of a throw: good ones of the tables, the rest among NW -/
def atOk (L : List Cond) : Bool := L.all (fun w => (decide (w ∈ lw_tbl) && goodWord w) || decide (w ∈ NW))
theorem hat_of {L : List Cond} (h : atOk L = true) {c0 : Cond} {args : Array Value} {s : State} (hts : ∀ x ∈ c0 :: WA, x.before args s = true) (hN : ∀ w ∈ NW, va_Nw w s) : ∀ w ∈ L, w.before args s = true := by
  intro w hw
  have h1 := List.all_eq_true.mp h w hw
  simp only [Bool.or_eq_true, Bool.and_eq_true, decide_eq_true_eq] at h1
  rcases h1 with ⟨a, b⟩ | a
  · exact hts w (List.mem_cons_of_mem _ (List.mem_filter.mpr ⟨a, b⟩))
  · exact va_Nw.use (by have := NW_kind w a; revert this; cases w <;> first | (intro q; exact absurd q Bool.false_ne_true) | (intro _; rfl)) (hN w a)
theorem at_IllegalArgumentException : atOk (vx_atS "PulseGraph" 159 "java/lang/IllegalArgumentException" ["java/lang/RuntimeException", "java/lang/Exception"]) = true := by decide +kernel
theorem ot_IllegalArgumentException : ∀ w ∈ Cond.classLink "PulseGraph" 155 "java/lang/IllegalArgumentException" :: Cond.initialized "java/lang/IllegalArgumentException" :: vx_atS "PulseGraph" 159 "java/lang/IllegalArgumentException" ["java/lang/RuntimeException", "java/lang/Exception"], vx_ot w = true := by decide +kernel
theorem at_IllegalStateException : atOk (vx_atS "PulseGraph" 171 "java/lang/IllegalStateException" ["java/lang/RuntimeException", "java/lang/Exception"]) = true := by decide +kernel
theorem ot_IllegalStateException : ∀ w ∈ Cond.classLink "PulseGraph" 167 "java/lang/IllegalStateException" :: Cond.initialized "java/lang/IllegalStateException" :: vx_atS "PulseGraph" 171 "java/lang/IllegalStateException" ["java/lang/RuntimeException", "java/lang/Exception"], vx_ot w = true := by decide +kernel
theorem at_UnsupportedOperationException : atOk (vx_atS "PulseGraph" 118 "java/lang/UnsupportedOperationException" ["java/lang/RuntimeException", "java/lang/Exception"]) = true := by decide +kernel
theorem ot_UnsupportedOperationException : ∀ w ∈ Cond.classLink "PulseGraph" 114 "java/lang/UnsupportedOperationException" :: Cond.initialized "java/lang/UnsupportedOperationException" :: vx_atS "PulseGraph" 118 "java/lang/UnsupportedOperationException" ["java/lang/RuntimeException", "java/lang/Exception"], vx_ot w = true := by decide +kernel
theorem at_IndexOutOfBoundsException : atOk (vx_atS "PulseGraph" 128 "java/lang/IndexOutOfBoundsException" ["java/lang/RuntimeException", "java/lang/Exception"]) = true := by decide +kernel
theorem ot_IndexOutOfBoundsException : ∀ w ∈ Cond.classLink "PulseGraph" 124 "java/lang/IndexOutOfBoundsException" :: Cond.initialized "java/lang/IndexOutOfBoundsException" :: vx_atS "PulseGraph" 128 "java/lang/IndexOutOfBoundsException" ["java/lang/RuntimeException", "java/lang/Exception"], vx_ot w = true := by decide +kernel
set_option maxHeartbeats 4000000 in
set_option maxRecDepth 100000 in
/-- requireRange: returns where the number is in range, else throws -/
theorem c_S_requireRange (l : Launch) (hl9 : l.stackTraces = false) (D : va_G) (cZ cI cF : Nat) (a1 a2 a3 : Int32) (sz : Nat) : XVv l y_S_requireRange w_S_requireRange ({ frames := 6, cells := 1, slots := 6, locals := 90 } : Room) D CL [(cZ, .boolean), (cI, .int), (cF, .double)] [.int a1, .int a2, .int a3] [] sz (inR a1 a2 a3 = true) "java/lang/IllegalArgumentException" := by
  refine nmx_v (cc := b_S_requireRange) (maxL := 3) (by decide) rfl (Nat.le_of_ble_eq_true rfl) ?_
  intro p e s m below meth c A ls H C hT hP hD hS hl
  obtain ⟨hx, hb, hr, hml, hown, hts, hlocks, hA, hK, hX⟩ := C
  have hl : lv_has ls 3 [(0, .int a1), (1, .int a2), (2, .int a3)] := hl
  have hth : inR a1 a2 a3 = false → W p l e ({ frames := 6, cells := 1, slots := 6, locals := 90 } : Room) s m ([.int a1, .int a2, .int a3] : List Value).toArray below meth c H [] 0 0 (vx_MQ below (va_Qv (fun _ : Unit => inR a1 a2 a3 = true) (nB D CL [(cZ, .boolean), (cI, .int), (cF, .double)] [] A) A) (vx_X (fun _ : Unit => ¬ inR a1 a2 a3 = true) (nBX D CL [(cZ, .boolean), (cI, .int), (cF, .double)] [] A "java/lang/IllegalArgumentException") A) ([.int a1, .int a2, .int a3] : List Value).toArray s 1 6 A) (F0 m 10 ls []) := by
    intro hno
    obtain ⟨sa, hsa⟩ := hX.2.2.2 ("PulseGraph", 157, "a number is out of range") (by decide)
    refine vx_throwS (own := "PulseGraph") (cls := "java/lang/IllegalArgumentException") (names := ["java/lang/RuntimeException", "java/lang/Exception"]) (ik := 155) (is := 157) (ic := 159) hx hb hl9 hown (by decide +kernel) (by decide +kernel) (hts _ (List.mem_cons_of_mem _ mw_162)) (hts _ (List.mem_cons_of_mem _ mw_9)) hsa (hat_of at_IllegalArgumentException hts hX.1) ot_IllegalArgumentException hX.2.1 hX.2.2.1 hS (hl.1.trans hml.symm) d_S_requireRange_10 d_S_requireRange_13 d_S_requireRange_14 d_S_requireRange_16 d_S_requireRange_19 (fun x h => (hT x h).elim) (Nat.le_of_ble_eq_true rfl) (Nat.le_of_ble_eq_true rfl) (Nat.le_of_ble_eq_true rfl) (Nat.le_of_ble_eq_true rfl) hlocks (fun t ha hsz hk => ⟨(), by rw [hno]; exact Bool.false_ne_true, ⟨rfl, hP.kept (fun k q hq => hk q.1 (hP k q hq).lt), va_K.moved ha hK, hD⟩, Nat.le_trans hS.1 hsz, fun q h1 h2 => (hk q (Nat.lt_of_lt_of_le h1 hS.1)).trans (hS.2.1 q h1 h2)⟩) hS.2.2 (Nat.le_refl 1) (Nat.le_refl 6)
  refine lv_iload_n hx hb d_S_requireRange_0 rfl (lv_at hl 0 rfl) ?_
  refine lv_iload_n hx hb d_S_requireRange_1 rfl (lv_at hl 1 rfl) ?_
  refine lv_icmp_lt (tgt := 10) hx hb d_S_requireRange_2 (by decide) (fun h_2 => hth (by simp [inR, h_2])) (fun h_2 => ?_)
  refine lv_iload_n hx hb d_S_requireRange_5 rfl (lv_at hl 0 rfl) ?_
  refine lv_iload_n hx hb d_S_requireRange_6 rfl (lv_at hl 2 rfl) ?_
  refine lv_icmp_le (tgt := 20) hx hb d_S_requireRange_7 (by decide) (fun h_7 => ?_) (fun h_7 => hth (by simp [inR, Int32.not_le.mp h_7]))
  refine vx_ret (W.widen (k := 1) (n := 6) (by decide) (by decide) ?_)
  exact W.vret hx hb hr (fun t ht hW => ⟨⟨(), rfl, by simp [inR, h_2, Int32.not_lt.mpr h_7], by rw [ht]; exact hP, va_K.moved hW.alike hK, hD⟩, hS.F ht⟩) hS.2.2 d_S_requireRange_20 hlocks

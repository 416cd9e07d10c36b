/-! whole arrays copied -/
section NC
variable {p : Program} {l : Launch} {e : Env} {R : Room} {s : State} {m : MethodId} {args : Array Value} {below : List Frame} {meth : Method} {c : Code} {H : Heap} {locs : List Loc} {cells slots : Nat} {Q : State → Prop} {cc : ByteArray} {pc : Nat} {ls : Array Slot} {rest : List Value} {D : va_G} {cl : List vw_C} {tys : List (ClassId × FieldType)} {ws : va_W} {A : Nat → Prop} {H0 : Heap} {a : Nat}
theorem nw_cpyN (hx : p.tables.exec = Jvm.exec) (hb : c.code = cc) (hml : c.maxLocals = ls.size) {own : String} {index : Nat} (hown : s.vm.findClass own = some m.cls) (hlink : (Cond.methodLink own index arraycopyName).before args s = true) (hnat : (Cond.native arraycopyName).before args s = true) (hstat : (Cond.static arraycopyName).before args s = true) (hini : (Cond.initialized "java/lang/System").before args s = true)
    (hK : va_K D cl tys s) (hP : va_P D cl ws H) (hD : va_D A ws) (hS : va_S A H0 H locs) (q0 q1 t0 : Nat) {a0 c0 c1 n : Nat} {f g : Nat → Nat} (ha0 : ws[q0]? = some (cN a0 c0 n f)) (ha1 : ws[q1]? = some (cN a c1 n g)) (ht0 : tys[t0]? = some (c0, .int)) (ht1 : tys[t0]? = some (c1, .int)) (hn : n < 2 ^ 31)
    (hframes : 1 ≤ R.frames) (hlocals : (rest.map fun v => v.category).sum + (nativeFrameWords "java/lang/System" "arraycopy" 5 + 11) ≤ R.locals) (hdg : decode cc pc = .ok (.invokestatic index, 3))
    (kk : ∀ (H1 : Heap) (locs1 : List Loc), va_P D cl (ws.set q1 (cN a c1 n f)) H1 → va_D A (ws.set q1 (cN a c1 n f)) → va_S A H0 H1 locs1 → W p l e R s m args below meth c H1 locs1 cells slots Q (F0 m (pc + 3) ls rest)) : W p l e R s m args below meth c H locs cells slots Q (F0 m pc ls (.int (nI n) :: .int (nI 0) :: .ref a :: .int (nI 0) :: .ref a0 :: rest)) := by
  have z0 : (nI 0).toNatClampNeg = 0 := nI_clamp (by decide)
  have zn : (nI n).toNatClampNeg = n := nI_clamp hn
  refine va_copyi hx hb hml hown hlink hnat hstat hini hK hP hD hS q0 q1 t0 t0 ha0 ha1 ht0 ht1 rfl (nI_pos (by decide)) (nI_pos (by decide)) (nI_pos hn) (by rw [z0, zn]; omega) (by rw [z0, zn]; omega) (fun _ _ => rfl) hframes hlocals hdg (fun H1 locs1 hP1 hD1 hS1 => ?_)
  rw [z0, zn] at hP1 hD1
  have hl : q1 < ws.length := (List.getElem?_eq_some_iff.mp ha1).1
  have e : va_cpy (fun j => nI (f j)) (fun j => nI (g j)) 0 0 n = fun j => nI (mix n f g j) := by
    funext j; unfold va_cpy mix
    by_cases h : j < n
    · rw [if_pos ⟨Nat.zero_le _, by omega⟩, if_pos h]; simp
    · rw [if_neg (by omega), if_neg h]
  rw [e] at hP1 hD1
  have hP2 := nExtN (g := f) hP1 q1 (List.getElem?_set_self hl) (fun j hj => by simp [mix, hj])
  have hD2 := nExtD (y := .inl (c1, n, .inl (fun j => nI (f j)))) hD1 q1 (List.getElem?_set_self hl)
  rw [List.set_set] at hP2 hD2
  exact kk H1 locs1 hP2 hD2 hS1
theorem nw_cpyB (hx : p.tables.exec = Jvm.exec) (hb : c.code = cc) (hml : c.maxLocals = ls.size) {own : String} {index : Nat} (hown : s.vm.findClass own = some m.cls) (hlink : (Cond.methodLink own index arraycopyName).before args s = true) (hnat : (Cond.native arraycopyName).before args s = true) (hstat : (Cond.static arraycopyName).before args s = true) (hini : (Cond.initialized "java/lang/System").before args s = true)
    (hK : va_K D cl tys s) (hP : va_P D cl ws H) (hD : va_D A ws) (hS : va_S A H0 H locs) (q0 q1 t0 : Nat) {a0 c0 c1 n : Nat} {f g : Nat → Bool} (ha0 : ws[q0]? = some (cB a0 c0 n f)) (ha1 : ws[q1]? = some (cB a c1 n g)) (ht0 : tys[t0]? = some (c0, .boolean)) (ht1 : tys[t0]? = some (c1, .boolean)) (hn : n < 2 ^ 31)
    (hframes : 1 ≤ R.frames) (hlocals : (rest.map fun v => v.category).sum + (nativeFrameWords "java/lang/System" "arraycopy" 5 + 11) ≤ R.locals) (hdg : decode cc pc = .ok (.invokestatic index, 3))
    (kk : ∀ (H1 : Heap) (locs1 : List Loc), va_P D cl (ws.set q1 (cB a c1 n f)) H1 → va_D A (ws.set q1 (cB a c1 n f)) → va_S A H0 H1 locs1 → W p l e R s m args below meth c H1 locs1 cells slots Q (F0 m (pc + 3) ls rest)) : W p l e R s m args below meth c H locs cells slots Q (F0 m pc ls (.int (nI n) :: .int (nI 0) :: .ref a :: .int (nI 0) :: .ref a0 :: rest)) := by
  have z0 : (nI 0).toNatClampNeg = 0 := nI_clamp (by decide)
  have zn : (nI n).toNatClampNeg = n := nI_clamp hn
  refine va_copyi hx hb hml hown hlink hnat hstat hini hK hP hD hS q0 q1 t0 t0 ha0 ha1 ht0 ht1 rfl (nI_pos (by decide)) (nI_pos (by decide)) (nI_pos hn) (by rw [z0, zn]; omega) (by rw [z0, zn]; omega) (fun _ _ => bI_fit _) hframes hlocals hdg (fun H1 locs1 hP1 hD1 hS1 => ?_)
  rw [z0, zn] at hP1 hD1
  have hl : q1 < ws.length := (List.getElem?_eq_some_iff.mp ha1).1
  have e : va_cpy (fun j => bI (f j)) (fun j => bI (g j)) 0 0 n = fun j => bI (mix n f g j) := by
    funext j; unfold va_cpy mix
    by_cases h : j < n
    · rw [if_pos ⟨Nat.zero_le _, by omega⟩, if_pos h]; simp
    · rw [if_neg (by omega), if_neg h]
  rw [e] at hP1 hD1
  have hP2 := nExtB (g := f) hP1 q1 (List.getElem?_set_self hl) (fun j hj => by simp [mix, hj])
  have hD2 := nExtD (y := .inl (c1, n, .inl (fun j => bI (f j)))) hD1 q1 (List.getElem?_set_self hl)
  rw [List.set_set] at hP2 hD2
  exact kk H1 locs1 hP2 hD2 hS1
theorem nw_cpyD (hx : p.tables.exec = Jvm.exec) (hb : c.code = cc) (hml : c.maxLocals = ls.size) {own : String} {index : Nat} (hown : s.vm.findClass own = some m.cls) (hlink : (Cond.methodLink own index arraycopyName).before args s = true) (hnat : (Cond.native arraycopyName).before args s = true) (hstat : (Cond.static arraycopyName).before args s = true) (hini : (Cond.initialized "java/lang/System").before args s = true)
    (hK : va_K D cl tys s) (hP : va_P D cl ws H) (hD : va_D A ws) (hS : va_S A H0 H locs) (q0 q1 t0 : Nat) {a0 c0 c1 n : Nat} {f g : Nat → UInt64} (ha0 : ws[q0]? = some (cD a0 c0 n f)) (ha1 : ws[q1]? = some (cD a c1 n g)) (ht0 : tys[t0]? = some (c0, .double)) (ht1 : tys[t0]? = some (c1, .double)) (hn : n < 2 ^ 31)
    (hframes : 1 ≤ R.frames) (hlocals : (rest.map fun v => v.category).sum + (nativeFrameWords "java/lang/System" "arraycopy" 5 + 11) ≤ R.locals) (hdg : decode cc pc = .ok (.invokestatic index, 3))
    (kk : ∀ (H1 : Heap) (locs1 : List Loc), va_P D cl (ws.set q1 (cD a c1 n f)) H1 → va_D A (ws.set q1 (cD a c1 n f)) → va_S A H0 H1 locs1 → W p l e R s m args below meth c H1 locs1 cells slots Q (F0 m (pc + 3) ls rest)) : W p l e R s m args below meth c H locs cells slots Q (F0 m pc ls (.int (nI n) :: .int (nI 0) :: .ref a :: .int (nI 0) :: .ref a0 :: rest)) := by
  have z0 : (nI 0).toNatClampNeg = 0 := nI_clamp (by decide)
  have zn : (nI n).toNatClampNeg = n := nI_clamp hn
  refine va_copyd hx hb hml hown hlink hnat hstat hini hK hP hD hS q0 q1 t0 t0 ha0 ha1 ht0 ht1 rfl (nI_pos (by decide)) (nI_pos (by decide)) (nI_pos hn) (by rw [z0, zn]; omega) (by rw [z0, zn]; omega) (fun _ _ => rfl) hframes hlocals hdg (fun H1 locs1 hP1 hD1 hS1 => ?_)
  rw [z0, zn] at hP1 hD1
  have hl : q1 < ws.length := (List.getElem?_eq_some_iff.mp ha1).1
  have e : va_cpy f g 0 0 n = mix n f g := by
    funext j; unfold va_cpy mix
    by_cases h : j < n
    · rw [if_pos ⟨Nat.zero_le _, by omega⟩, if_pos h]; simp
    · rw [if_neg (by omega), if_neg h]
  rw [e] at hP1 hD1
  have hP2 := nExtDd (g := f) hP1 q1 (List.getElem?_set_self hl) (fun j hj => by simp [mix, hj])
  have hD2 := nExtD (y := .inl (c1, n, .inr (.inr (.inr (.inl f))))) hD1 q1 (List.getElem?_set_self hl)
  rw [List.set_set] at hP2 hD2
  exact kk H1 locs1 hP2 hD2 hS1
end NC
section NDC
variable {p : Program} {l : Launch} {e : Env} {R : Room} {s : State} {m : MethodId} {args : Array Value} {below : List Frame} {meth : Method} {c : Code} {H : Heap} {locs : List Loc} {cells slots : Nat} {Q : State → Prop} {cc : ByteArray} {pc : Nat} {ls : Array Slot} {rest : List Value}
theorem nw_dgtT (hx : p.tables.exec = Jvm.exec) (hb : c.code = cc) {x y : UInt64} {off : Int} {tgt : Nat} (hd1 : decode cc pc = .ok (.dcmp .l, 1)) (hd2 : decode cc (pc + 1) = .ok (.ifCond .gt off, 3)) (ht : ((pc + 1 : Nat) : Int) + off = (tgt : Int))
    (kt : dgt x y = true → W p l e R s m args below meth c H locs cells slots Q (F0 m tgt ls rest)) (kf : dgt x y = false → W p l e R s m args below meth c H locs cells slots Q (F0 m (pc + 4) ls rest)) : W p l e R s m args below meth c H locs cells slots Q (F0 m pc ls (.double y :: .double x :: rest)) := by
  refine lv_dcmp hx hb hd1 ?_
  unfold dgt at kt kf
  cases hc : FP.dcmp x y with
  | none => exact lv_if_gt hx hb hd2 ht (fun q => absurd q (by decide)) (fun _ => kf (by rw [hc]; rfl))
  | some o =>
    rw [hc] at kt kf
    cases o
    · exact lv_if_gt hx hb hd2 ht (fun q => absurd q (by decide)) (fun _ => kf rfl)
    · exact lv_if_gt hx hb hd2 ht (fun q => absurd q (by decide)) (fun _ => kf rfl)
    · exact lv_if_gt hx hb hd2 ht (fun _ => kt rfl) (fun q => absurd (by decide) q)
theorem nw_deq (hx : p.tables.exec = Jvm.exec) (hb : c.code = cc) {x y : UInt64} {off : Int} {tgt : Nat} (hd1 : decode cc pc = .ok (.dcmp .l, 1)) (hd2 : decode cc (pc + 1) = .ok (.ifCond .ne off, 3)) (ht : ((pc + 1 : Nat) : Int) + off = (tgt : Int))
    (kt : deq x y = false → W p l e R s m args below meth c H locs cells slots Q (F0 m tgt ls rest)) (kf : deq x y = true → W p l e R s m args below meth c H locs cells slots Q (F0 m (pc + 4) ls rest)) : W p l e R s m args below meth c H locs cells slots Q (F0 m pc ls (.double y :: .double x :: rest)) := by
  refine lv_dcmp hx hb hd1 ?_
  unfold deq at kt kf
  cases hc : FP.dcmp x y with
  | none => exact lv_if_ne hx hb hd2 ht (fun _ => kt (by rw [hc]; rfl)) (fun q => absurd q (by decide))
  | some o =>
    rw [hc] at kt kf
    cases o
    · exact lv_if_ne hx hb hd2 ht (fun _ => kt rfl) (fun q => absurd q (by decide))
    · exact lv_if_ne hx hb hd2 ht (fun q => absurd rfl q) (fun _ => kf rfl)
    · exact lv_if_ne hx hb hd2 ht (fun _ => kt rfl) (fun q => absurd q (by decide))
theorem nw_dge (hx : p.tables.exec = Jvm.exec) (hb : c.code = cc) {x y : UInt64} {off : Int} {tgt : Nat} (hd1 : decode cc pc = .ok (.dcmp .l, 1)) (hd2 : decode cc (pc + 1) = .ok (.ifCond .lt off, 3)) (ht : ((pc + 1 : Nat) : Int) + off = (tgt : Int))
    (kt : dge x y = false → W p l e R s m args below meth c H locs cells slots Q (F0 m tgt ls rest)) (kf : dge x y = true → W p l e R s m args below meth c H locs cells slots Q (F0 m (pc + 4) ls rest)) : W p l e R s m args below meth c H locs cells slots Q (F0 m pc ls (.double y :: .double x :: rest)) := by
  refine lv_dcmp hx hb hd1 ?_
  unfold dge at kt kf
  cases hc : FP.dcmp x y with
  | none => exact lv_if_lt hx hb hd2 ht (fun _ => kt (by rw [hc]; rfl)) (fun q => absurd (by decide) q)
  | some o =>
    rw [hc] at kt kf
    cases o
    · exact lv_if_lt hx hb hd2 ht (fun _ => kt rfl) (fun q => absurd (by decide) q)
    · exact lv_if_lt hx hb hd2 ht (fun q => absurd q (by decide)) (fun _ => kf rfl)
    · exact lv_if_lt hx hb hd2 ht (fun q => absurd q (by decide)) (fun _ => kf rfl)
theorem nw_dle (hx : p.tables.exec = Jvm.exec) (hb : c.code = cc) {x y : UInt64} {off : Int} {tgt : Nat} (hd1 : decode cc pc = .ok (.dcmp .g, 1)) (hd2 : decode cc (pc + 1) = .ok (.ifCond .gt off, 3)) (ht : ((pc + 1 : Nat) : Int) + off = (tgt : Int))
    (kt : dle x y = false → W p l e R s m args below meth c H locs cells slots Q (F0 m tgt ls rest)) (kf : dle x y = true → W p l e R s m args below meth c H locs cells slots Q (F0 m (pc + 4) ls rest)) : W p l e R s m args below meth c H locs cells slots Q (F0 m pc ls (.double y :: .double x :: rest)) := by
  refine lv_dcmp hx hb hd1 ?_
  unfold dle at kt kf
  cases hc : FP.dcmp x y with
  | none => exact lv_if_gt hx hb hd2 ht (fun _ => kt (by rw [hc]; rfl)) (fun q => absurd (by decide) q)
  | some o =>
    rw [hc] at kt kf
    cases o
    · exact lv_if_gt hx hb hd2 ht (fun q => absurd q (by decide)) (fun _ => kf rfl)
    · exact lv_if_gt hx hb hd2 ht (fun q => absurd q (by decide)) (fun _ => kf rfl)
    · exact lv_if_gt hx hb hd2 ht (fun _ => kt rfl) (fun q => absurd (by decide) q)
end NDC
section NMC
variable {p : Program} {l : Launch} {e : Env} {R : Room} {s : State} {m : MethodId} {args : Array Value} {below : List Frame} {meth : Method} {c : Code} {H : Heap} {locs : List Loc} {cells slots : Nat} {Q : State → Prop} {cc : ByteArray} {pc : Nat} {ls : Array Slot} {rest : List Value}
theorem nw_imulC (hx : p.tables.exec = Jvm.exec) (hb : c.code = cc) {x y : Nat} (hdg : decode cc pc = .ok (.imul, 1)) (k : W p l e R s m args below meth c H locs cells slots Q (F0 m (pc + 1) ls (.int (nI (y * x)) :: rest))) : W p l e R s m args below meth c H locs cells slots Q (F0 m pc ls (.int (nI y) :: .int (nI x) :: rest)) :=
  lv_imul hx hb hdg (by rw [pk_mul, Nat.mul_comm]; exact k)
end NMC
section NS
variable {p : Program} {l : Launch} {e : Env} {R : Room} {s : State} {m : MethodId} {args : Array Value} {below : List Frame} {meth : Method} {c : Code} {H : Heap} {locs : List Loc} {cells slots : Nat} {Q : State → Prop} {cc : ByteArray} {pc : Nat} {ls : Array Slot} {rest : List Value}
theorem nw_tab (hx : p.tables.exec = Jvm.exec) (hb : c.code = cc) {dflt lo hi : Int} {offs : Array Int} {len : Nat} {x k : Nat} {off : Int} {tgt : Nat} (hdg : decode cc pc = .ok (.tableswitch dflt lo hi offs, len)) (e1 : x = k) (h : (¬ (nI k).toInt < lo ∧ ¬ hi < (nI k).toInt) ∧ offs[((nI k).toInt - lo).toNat]? = some off) (ht : (pc : Int) + off = (tgt : Int))
    (kk : W p l e R s m args below meth c H locs cells slots Q (F0 m tgt ls rest)) : W p l e R s m args below meth c H locs cells slots Q (F0 m pc ls (.int (nI x) :: rest)) := by
  subst e1
  exact lv_tableIn hx hb hdg h.1.1 h.1.2 h.2 ht kk
theorem nw_tabO (hx : p.tables.exec = Jvm.exec) (hb : c.code = cc) {dflt lo hi : Int} {offs : Array Int} {len : Nat} {x : Nat} {tgt : Nat} (h1 : x < 2 ^ 31) (hdg : decode cc pc = .ok (.tableswitch dflt lo hi offs, len)) (h : hi < (x : Int)) (ht : (pc : Int) + dflt = (tgt : Int))
    (kk : W p l e R s m args below meth c H locs cells slots Q (F0 m tgt ls rest)) : W p l e R s m args below meth c H locs cells slots Q (F0 m pc ls (.int (nI x) :: rest)) :=
  lv_tableOut hx hb hdg (Or.inr (by rw [nI_toInt h1]; exact h)) ht kk
theorem nw_look (hx : p.tables.exec = Jvm.exec) (hb : c.code = cc) {dflt : Int} {ps : Array (Int × Int)} {len : Nat} {x k : Nat} {off : Int} {tgt : Nat} (hdg : decode cc pc = .ok (.lookupswitch dflt ps, len)) (e1 : x = k) (h : (ps.toList.zip (ps.toList.drop 1)).all (fun (a, next) => a.1 < next.1) = true ∧ Op.lookupswitch.offset ps.toList dflt (nI k).toInt = off) (ht : (pc : Int) + off = (tgt : Int))
    (kk : W p l e R s m args below meth c H locs cells slots Q (F0 m tgt ls rest)) : W p l e R s m args below meth c H locs cells slots Q (F0 m pc ls (.int (nI x) :: rest)) := by
  subst e1
  exact lv_lookup hx hb hdg h.1 h.2 ht kk
theorem nw_lookO (hx : p.tables.exec = Jvm.exec) (hb : c.code = cc) {dflt : Int} {ps : Array (Int × Int)} {len : Nat} {x : Nat} {tgt : Nat} (h1 : x < 2 ^ 31) (hdg : decode cc pc = .ok (.lookupswitch dflt ps, len)) (h0 : (ps.toList.zip (ps.toList.drop 1)).all (fun (a, next) => a.1 < next.1) = true) (h : Op.lookupswitch.offset ps.toList dflt (x : Int) = dflt) (ht : (pc : Int) + dflt = (tgt : Int))
    (kk : W p l e R s m args below meth c H locs cells slots Q (F0 m tgt ls rest)) : W p l e R s m args below meth c H locs cells slots Q (F0 m pc ls (.int (nI x) :: rest)) :=
  lv_lookup hx hb hdg h0 (by rw [nI_toInt h1]; exact h) ht kk
end NS

set_option maxHeartbeats 4000000 in
set_option maxRecDepth 100000 in
/-- no letters -/
theorem c_O_empty (l : Launch) (D : va_G) (cZ : Nat) (cI : Nat) (cF : Nat) (o : Nat) (o0 : Nat) (o1 : Nat) (fi : Nat → Bool) (sz : Nat)  : MVv l y_O_empty w_O_empty ({ frames := 0, cells := 0, slots := 0, locals := 0 } : Room) D CL [(cZ, .boolean), (cI, .int), (cF, .double)] [.ref o] [cO o 1 [.ref o0, .ref o1], cB o0 cZ 144 fi] sz [cO o 1 [.ref o0, .ref o1], cB o0 cZ 144 (fun _ => false)] := by
  refine nm_v (cc := b_O_empty) (maxL := 2) (by decide) rfl (Nat.le_of_ble_eq_true rfl) ?_
  intro p e s m below meth c A ls H C hP hD hS hl
  obtain ⟨hx, hb, hr, hml, hown, hts, hlocks, hA, hK, hX⟩ := C
  have hl : lv_has ls 2 [(0, .ref o)] := hl
  refine lv_iconst (v := nI 0) hx hb d_O_empty_0 (by decide +kernel) ?_
  refine lv_istore_n (lv' := [(1, .int (nI 0)), (0, .ref o)]) hx hb d_O_empty_1 rfl hl (by decide) rfl (fun ls hl => ?_)
  have loop_2 : ∀ (n_2 i : Nat), i ≤ 144 → 144 < i + n_2 → ∀ (H : Heap) (locs : List Loc) (ls : Array Slot), va_P D CL [cO o 1 [.ref o0, .ref o1], cB o0 cZ 144 (mix i (fun _ => false) fi)] H → va_D A [cO o 1 [.ref o0, .ref o1], cB o0 cZ 144 (mix i (fun _ => false) fi)] → va_S A s.heap H locs → lv_has ls 2 [(0, .ref o), (1, .int (nI i))] → W p l e ({ frames := 0, cells := 0, slots := 0, locals := 0 } : Room) s m ([.ref o] : List Value).toArray below meth c H locs 0 0 (MQ below (va_Qv (fun _ : Unit => True) (nB D CL [(cZ, .boolean), (cI, .int), (cF, .double)] [cO o 1 [.ref o0, .ref o1], cB o0 cZ 144 (fun _ => false)] A) A) ([.ref o] : List Value).toArray s 0 0 A) (F0 m 2 ls []) := by
    intro n_2
    induction n_2 with
    | zero => intro i h1 h2; exact absurd h2 (by omega)
    | succ n_2 ih_2 =>
      intro i hi_2 hn_2   H locs ls hP hD hS hl
      refine lv_iload_n hx hb d_O_empty_2 rfl (lv_at hl 1 rfl) ?_
      refine lv_sipush (v := nI 144) hx hb d_O_empty_3 (by decide +kernel) ?_
      refine nw_ge (x := i) (y := 144) (tgt := 22) hx hb (by omega) (by omega) d_O_empty_6 (by decide) (fun h_6 => ?_) (fun h_6 => ?_)
      · obtain rfl : i = 144 := by omega
        have hP : va_P D CL [cO o 1 [.ref o0, .ref o1], cB o0 cZ 144 (fun _ => false)] H := nExtB hP 1 rfl (by intro j hj; simp [mix, hj])
        have hD : va_D A [cO o 1 [.ref o0, .ref o1], cB o0 cZ 144 (fun _ => false)] := nExtD hD 1 rfl
        exact nr_v hx hb hr hlocks hK hP hD hS rfl d_O_empty_22
      · refine lv_aload_n hx hb d_O_empty_9 rfl (lv_at hl 0 rfl) ?_
        refine va_get (ci := 1) (v := .ref o0) (C := "PulseGraph$Outbox") (T := T_O) (N := 2) hx hb hts (fun w h => List.mem_cons_of_mem _ (inW_O w h)) hown hK hP 0 rfl rfl 0 (by decide) (hts _ (List.mem_cons_of_mem _ mw_92)) (fun _ h9 => h9) rfl d_O_empty_10 ?_
        refine lv_iload_n hx hb d_O_empty_13 rfl (lv_at hl 1 rfl) ?_
        refine lv_iconst (v := bI false) hx hb d_O_empty_14 (by decide +kernel) ?_
        refine nw_bast (f := (mix i (fun _ => false) fi)) hx hb hK hP hD hS 1 0 rfl rfl (i := i) (x := false) (by omega) (by decide) d_O_empty_15 (fun H locs hP hD hS => ?_)
        have hP : va_P D CL [cO o 1 [.ref o0, .ref o1], cB o0 cZ 144 (va_up (mix i (fun _ => false) fi) i false)] H := hP
        have hD : va_D A [cO o 1 [.ref o0, .ref o1], cB o0 cZ 144 (va_up (mix i (fun _ => false) fi) i false)] := hD
        refine nw_iinc (x := i) (d := 1) (lv' := [(1, .int (nI (i + 1))), (0, .ref o)]) hx hb d_O_empty_16 hl (k := 1) rfl (by decide) rfl (fun ls hl => ?_)
        refine lv_goto (tgt := 2) hx hb d_O_empty_19 (by decide) ?_
        exact ih_2 (i + 1) (by omega) (by omega)  _ _ _ (nEqP (ws := [cO o 1 [.ref o0, .ref o1], cB o0 cZ 144 (va_up (mix i (fun _ => false) fi) i false)]) (by rw [← mix_s]) hP) (nEqD (ws := [cO o 1 [.ref o0, .ref o1], cB o0 cZ 144 (va_up (mix i (fun _ => false) fi) i false)]) (by rw [← mix_s]) hD) hS (lv_sub (l' := [(0, .ref o), (1, .int (nI (i + 1)))]) hl [1, 0] rfl)
  exact loop_2 (144 + 1) 0 (by omega) (by omega)  _ _ _ (nEqP (ws := [cO o 1 [.ref o0, .ref o1], cB o0 cZ 144 fi]) (by rw [mix_0]) hP) (nEqD (ws := [cO o 1 [.ref o0, .ref o1], cB o0 cZ 144 fi]) (by rw [mix_0]) hD) hS (lv_sub (l' := [(0, .ref o), (1, .int (nI 0))]) hl [1, 0] rfl)

set_option maxHeartbeats 4000000 in
set_option maxRecDepth 100000 in
/-- a letter -/
theorem c_O_put (l : Launch) (D : va_G) (cZ : Nat) (cI : Nat) (cF : Nat) (o : Nat) (o0 : Nat) (o1 : Nat) (fi : Nat → Bool) (lt : Nat → UInt64) (fr : Nat) (to : Nat) (x : UInt64) (sz : Nat) (hf : fr < 12) (ht : to < 12) : MVv l y_O_put w_O_put ({ frames := 0, cells := 0, slots := 0, locals := 0 } : Room) D CL [(cZ, .boolean), (cI, .int), (cF, .double)] [.ref o, .int (nI fr), .int (nI to), .double x] [cO o 1 [.ref o0, .ref o1], cB o0 cZ 144 fi, cD o1 cF 144 lt] sz [cO o 1 [.ref o0, .ref o1], cB o0 cZ 144 (va_up fi (to * 12 + fr) true), cD o1 cF 144 (va_up lt (to * 12 + fr) x)] := by
  refine nm_v (cc := b_O_put) (maxL := 5) (by decide) rfl (Nat.le_of_ble_eq_true rfl) ?_
  intro p e s m below meth c A ls H C hP hD hS hl
  obtain ⟨hx, hb, hr, hml, hown, hts, hlocks, hA, hK, hX⟩ := C
  have hl : lv_has ls 5 [(0, .ref o), (1, .int (nI fr)), (2, .int (nI to)), (3, .double x)] := hl
  refine lv_aload_n hx hb d_O_put_0 rfl (lv_at hl 0 rfl) ?_
  refine va_get (ci := 1) (v := .ref o1) (C := "PulseGraph$Outbox") (T := T_O) (N := 2) hx hb hts (fun w h => List.mem_cons_of_mem _ (inW_O w h)) hown hK hP 0 rfl rfl 1 (by decide) (hts _ (List.mem_cons_of_mem _ mw_93)) (fun _ h9 => h9) rfl d_O_put_1 ?_
  refine lv_iload_n hx hb d_O_put_4 rfl (lv_at hl 2 rfl) ?_
  refine lv_bipush (v := nI 12) hx hb d_O_put_5 (by decide +kernel) ?_
  refine nw_imul (x := to) (y := 12) hx hb d_O_put_7 ?_
  refine lv_iload_n hx hb d_O_put_8 rfl (lv_at hl 1 rfl) ?_
  refine nw_iadd (x := (to * 12)) (y := fr) hx hb d_O_put_9 ?_
  refine lv_dload_n hx hb d_O_put_10 rfl (lv_at hl 3 rfl) ?_
  refine nw_dast (f := lt) hx hb hK hP hD hS 2 2 rfl rfl (i := ((to * 12) + fr)) (x := x) (by omega) (by decide) d_O_put_11 (fun H locs hP hD hS => ?_)
  have hP : va_P D CL [cO o 1 [.ref o0, .ref o1], cB o0 cZ 144 fi, cD o1 cF 144 (va_up lt ((to * 12) + fr) x)] H := hP
  have hD : va_D A [cO o 1 [.ref o0, .ref o1], cB o0 cZ 144 fi, cD o1 cF 144 (va_up lt ((to * 12) + fr) x)] := hD
  refine lv_aload_n hx hb d_O_put_12 rfl (lv_at hl 0 rfl) ?_
  refine va_get (ci := 1) (v := .ref o0) (C := "PulseGraph$Outbox") (T := T_O) (N := 2) hx hb hts (fun w h => List.mem_cons_of_mem _ (inW_O w h)) hown hK hP 0 rfl rfl 0 (by decide) (hts _ (List.mem_cons_of_mem _ mw_92)) (fun _ h9 => h9) rfl d_O_put_13 ?_
  refine lv_iload_n hx hb d_O_put_16 rfl (lv_at hl 2 rfl) ?_
  refine lv_bipush (v := nI 12) hx hb d_O_put_17 (by decide +kernel) ?_
  refine nw_imul (x := to) (y := 12) hx hb d_O_put_19 ?_
  refine lv_iload_n hx hb d_O_put_20 rfl (lv_at hl 1 rfl) ?_
  refine nw_iadd (x := (to * 12)) (y := fr) hx hb d_O_put_21 ?_
  refine lv_iconst (v := bI true) hx hb d_O_put_22 (by decide +kernel) ?_
  refine nw_bast (f := fi) hx hb hK hP hD hS 1 0 rfl rfl (i := ((to * 12) + fr)) (x := true) (by omega) (by decide) d_O_put_23 (fun H locs hP hD hS => ?_)
  have hP : va_P D CL [cO o 1 [.ref o0, .ref o1], cB o0 cZ 144 (va_up fi ((to * 12) + fr) true), cD o1 cF 144 (va_up lt ((to * 12) + fr) x)] H := hP
  have hD : va_D A [cO o 1 [.ref o0, .ref o1], cB o0 cZ 144 (va_up fi ((to * 12) + fr) true), cD o1 cF 144 (va_up lt ((to * 12) + fr) x)] := hD
  exact nr_v hx hb hr hlocks hK hP hD hS rfl d_O_put_24

set_option maxHeartbeats 4000000 in
set_option maxRecDepth 100000 in
/-- each letter a message -/
theorem c_O_deliverEach (l : Launch) (D : va_G) (cZ : Nat) (cI : Nat) (cF : Nat) (o : Nat) (o0 : Nat) (o1 : Nat) (fi : Nat → Bool) (lt : Nat → UInt64) (g : Nat) (g0 : Nat) (g1 : Nat) (g2 : Nat) (g3 : Nat) (g4 : Nat) (g5 : Nat) (g6 : Nat) (g7 : Nat) (ss : Nat) (ag : UInt64) (mc : Nat → Nat) (ml : Nat → UInt64) (sz : Nat) (hm : ∀ j, mc j = 0) : MVv l y_O_deliverEach w_O_deliverEach ({ frames := 1, cells := 0, slots := 0, locals := 23 } : Room) D CL [(cZ, .boolean), (cI, .int), (cF, .double)] [.ref o, .ref g] [cO o 1 [.ref o0, .ref o1], cB o0 cZ 144 fi, cD o1 cF 144 lt, cO g 0 [.ref g0, .ref g1, .ref g2, .ref g3, .ref g4, .ref g5, .ref g6, .ref g7, .int (nI ss), .double ag], cN g6 cI 12 mc, cD g7 cF 144 ml] sz [cO o 1 [.ref o0, .ref o1], cB o0 cZ 144 fi, cD o1 cF 144 lt, cO g 0 [.ref g0, .ref g1, .ref g2, .ref g3, .ref g4, .ref g5, .ref g6, .ref g7, .int (nI ss), .double ag], cN g6 cI 12 (dlvC fi mc 12), cD g7 cF 144 (dlvM fi lt ml 12)] := by
  refine nm_v (cc := b_O_deliverEach) (maxL := 4) (by decide) rfl (Nat.le_of_ble_eq_true rfl) ?_
  intro p e s m below meth c A ls H C hP hD hS hl
  obtain ⟨hx, hb, hr, hml, hown, hts, hlocks, hA, hK, hX⟩ := C
  have hl : lv_has ls 4 [(0, .ref o), (1, .ref g)] := hl
  refine lv_iconst (v := nI 0) hx hb d_O_deliverEach_0 (by decide +kernel) ?_
  refine lv_istore_n (lv' := [(2, .int (nI 0)), (0, .ref o), (1, .ref g)]) hx hb d_O_deliverEach_1 rfl hl (by decide) rfl (fun ls hl => ?_)
  have loop_2 : ∀ (n_2 i : Nat), i ≤ 12 → 12 < i + n_2 → ∀ (H : Heap) (locs : List Loc) (ls : Array Slot), va_P D CL [cO o 1 [.ref o0, .ref o1], cB o0 cZ 144 fi, cD o1 cF 144 lt, cO g 0 [.ref g0, .ref g1, .ref g2, .ref g3, .ref g4, .ref g5, .ref g6, .ref g7, .int (nI ss), .double ag], cN g6 cI 12 (dlvC fi mc i), cD g7 cF 144 (dlvM fi lt ml i)] H → va_D A [cO o 1 [.ref o0, .ref o1], cB o0 cZ 144 fi, cD o1 cF 144 lt, cO g 0 [.ref g0, .ref g1, .ref g2, .ref g3, .ref g4, .ref g5, .ref g6, .ref g7, .int (nI ss), .double ag], cN g6 cI 12 (dlvC fi mc i), cD g7 cF 144 (dlvM fi lt ml i)] → va_S A s.heap H locs → lv_has ls 4 [(0, .ref o), (1, .ref g), (2, .int (nI i))] → W p l e ({ frames := 1, cells := 0, slots := 0, locals := 23 } : Room) s m ([.ref o, .ref g] : List Value).toArray below meth c H locs 0 0 (MQ below (va_Qv (fun _ : Unit => True) (nB D CL [(cZ, .boolean), (cI, .int), (cF, .double)] [cO o 1 [.ref o0, .ref o1], cB o0 cZ 144 fi, cD o1 cF 144 lt, cO g 0 [.ref g0, .ref g1, .ref g2, .ref g3, .ref g4, .ref g5, .ref g6, .ref g7, .int (nI ss), .double ag], cN g6 cI 12 (dlvC fi mc 12), cD g7 cF 144 (dlvM fi lt ml 12)] A) A) ([.ref o, .ref g] : List Value).toArray s 0 0 A) (F0 m 2 ls []) := by
    intro n_2
    induction n_2 with
    | zero => intro i h1 h2; exact absurd h2 (by omega)
    | succ n_2 ih_2 =>
      intro i hi_2 hn_2   H locs ls hP hD hS hl
      refine lv_iload_n hx hb d_O_deliverEach_2 rfl (lv_at hl 2 rfl) ?_
      refine lv_bipush (v := nI 12) hx hb d_O_deliverEach_3 (by decide +kernel) ?_
      refine nw_ge (x := i) (y := 12) (tgt := 58) hx hb (by omega) (by omega) d_O_deliverEach_5 (by decide) (fun h_5 => ?_) (fun h_5 => ?_)
      · obtain rfl : i = 12 := by omega
        exact nr_v hx hb hr hlocks hK hP hD hS rfl d_O_deliverEach_58
      · refine lv_iconst (v := nI 0) hx hb d_O_deliverEach_8 (by decide +kernel) ?_
        refine lv_istore_n (lv' := [(3, .int (nI 0)), (0, .ref o), (1, .ref g), (2, .int (nI i))]) hx hb d_O_deliverEach_9 rfl hl (by decide) rfl (fun ls hl => ?_)
        have loop_10 : ∀ (n_10 j : Nat), j ≤ 12 → 12 < j + n_10 → ∀ (H : Heap) (locs : List Loc) (ls : Array Slot), va_P D CL [cO o 1 [.ref o0, .ref o1], cB o0 cZ 144 fi, cD o1 cF 144 lt, cO g 0 [.ref g0, .ref g1, .ref g2, .ref g3, .ref g4, .ref g5, .ref g6, .ref g7, .int (nI ss), .double ag], cN g6 cI 12 (va_up (dlvC fi mc i) i (delC fi (i * 12) j)), cD g7 cF 144 (delM fi lt (dlvM fi lt ml i) (i * 12) j)] H → va_D A [cO o 1 [.ref o0, .ref o1], cB o0 cZ 144 fi, cD o1 cF 144 lt, cO g 0 [.ref g0, .ref g1, .ref g2, .ref g3, .ref g4, .ref g5, .ref g6, .ref g7, .int (nI ss), .double ag], cN g6 cI 12 (va_up (dlvC fi mc i) i (delC fi (i * 12) j)), cD g7 cF 144 (delM fi lt (dlvM fi lt ml i) (i * 12) j)] → va_S A s.heap H locs → lv_has ls 4 [(0, .ref o), (1, .ref g), (2, .int (nI i)), (3, .int (nI j))] → W p l e ({ frames := 1, cells := 0, slots := 0, locals := 23 } : Room) s m ([.ref o, .ref g] : List Value).toArray below meth c H locs 0 0 (MQ below (va_Qv (fun _ : Unit => True) (nB D CL [(cZ, .boolean), (cI, .int), (cF, .double)] [cO o 1 [.ref o0, .ref o1], cB o0 cZ 144 fi, cD o1 cF 144 lt, cO g 0 [.ref g0, .ref g1, .ref g2, .ref g3, .ref g4, .ref g5, .ref g6, .ref g7, .int (nI ss), .double ag], cN g6 cI 12 (dlvC fi mc 12), cD g7 cF 144 (dlvM fi lt ml 12)] A) A) ([.ref o, .ref g] : List Value).toArray s 0 0 A) (F0 m 10 ls []) := by
          intro n_10
          induction n_10 with
          | zero => intro j h1 h2; exact absurd h2 (by omega)
          | succ n_10 ih_10 =>
            intro j hi_10 hn_10   H locs ls hP hD hS hl
            refine lv_iload_n hx hb d_O_deliverEach_10 rfl (lv_at hl 3 rfl) ?_
            refine lv_bipush (v := nI 12) hx hb d_O_deliverEach_11 (by decide +kernel) ?_
            refine nw_ge (x := j) (y := 12) (tgt := 52) hx hb (by omega) (by omega) d_O_deliverEach_13 (by decide) (fun h_13 => ?_) (fun h_13 => ?_)
            · obtain rfl : j = 12 := by omega
              refine nw_iinc (x := i) (d := 1) (lv' := [(2, .int (nI (i + 1))), (0, .ref o), (1, .ref g), (3, .int (nI 12))]) hx hb d_O_deliverEach_52 hl (k := 2) rfl (by decide) rfl (fun ls hl => ?_)
              refine lv_goto (tgt := 2) hx hb d_O_deliverEach_55 (by decide) ?_
              exact ih_2 (i + 1) (by omega) (by omega)  _ _ _ hP hD hS (lv_sub (l' := [(0, .ref o), (1, .ref g), (2, .int (nI (i + 1)))]) hl [1, 2, 0] rfl)
            · refine lv_aload_n hx hb d_O_deliverEach_16 rfl (lv_at hl 0 rfl) ?_
              refine va_get (ci := 1) (v := .ref o0) (C := "PulseGraph$Outbox") (T := T_O) (N := 2) hx hb hts (fun w h => List.mem_cons_of_mem _ (inW_O w h)) hown hK hP 0 rfl rfl 0 (by decide) (hts _ (List.mem_cons_of_mem _ mw_92)) (fun _ h9 => h9) rfl d_O_deliverEach_17 ?_
              refine lv_iload_n hx hb d_O_deliverEach_20 rfl (lv_at hl 2 rfl) ?_
              refine lv_bipush (v := nI 12) hx hb d_O_deliverEach_21 (by decide +kernel) ?_
              refine nw_imul (x := i) (y := 12) hx hb d_O_deliverEach_23 ?_
              refine lv_iload_n hx hb d_O_deliverEach_24 rfl (lv_at hl 3 rfl) ?_
              refine nw_iadd (x := (i * 12)) (y := j) hx hb d_O_deliverEach_25 ?_
              refine nw_bald (f := fi) hx hb hK hP 1 0 rfl rfl (i := ((i * 12) + j)) (by omega) (by decide) d_O_deliverEach_26 ?_
              refine nw_bf (x := (fi ((i * 12) + j))) (tgt := 46) hx hb d_O_deliverEach_27 (by decide) (fun h_27 => ?_) (fun h_27 => ?_)
              · refine nw_iinc (x := j) (d := 1) (lv' := [(3, .int (nI (j + 1))), (0, .ref o), (1, .ref g), (2, .int (nI i))]) hx hb d_O_deliverEach_46 hl (k := 3) rfl (by decide) rfl (fun ls hl => ?_)
                refine lv_goto (tgt := 10) hx hb d_O_deliverEach_49 (by decide) ?_
                exact ih_10 (j + 1) (by omega) (by omega)  _ _ _ (nEqP (ws := [cO o 1 [.ref o0, .ref o1], cB o0 cZ 144 fi, cD o1 cF 144 lt, cO g 0 [.ref g0, .ref g1, .ref g2, .ref g3, .ref g4, .ref g5, .ref g6, .ref g7, .int (nI ss), .double ag], cN g6 cI 12 (va_up (dlvC fi mc i) i (delC fi (i * 12) j)), cD g7 cF 144 (delM fi lt (dlvM fi lt ml i) (i * 12) j)]) (by simp [delM, delC, h_27, va_up_self, bx_uu]) hP) (nEqD (ws := [cO o 1 [.ref o0, .ref o1], cB o0 cZ 144 fi, cD o1 cF 144 lt, cO g 0 [.ref g0, .ref g1, .ref g2, .ref g3, .ref g4, .ref g5, .ref g6, .ref g7, .int (nI ss), .double ag], cN g6 cI 12 (va_up (dlvC fi mc i) i (delC fi (i * 12) j)), cD g7 cF 144 (delM fi lt (dlvM fi lt ml i) (i * 12) j)]) (by simp [delM, delC, h_27, va_up_self, bx_uu]) hD) hS (lv_sub (l' := [(0, .ref o), (1, .ref g), (2, .int (nI i)), (3, .int (nI (j + 1)))]) hl [1, 2, 3, 0] rfl)
              · have hde := delC_le fi (i * 12) j
                have hus := va_up_self (dlvC fi mc i) i (delC fi (i * 12) j)
                refine lv_aload_n hx hb d_O_deliverEach_30 rfl (lv_at hl 1 rfl) ?_
                refine lv_iload_n hx hb d_O_deliverEach_31 rfl (lv_at hl 2 rfl) ?_
                refine lv_aload_n hx hb d_O_deliverEach_32 rfl (lv_at hl 0 rfl) ?_
                refine va_get (ci := 1) (v := .ref o1) (C := "PulseGraph$Outbox") (T := T_O) (N := 2) hx hb hts (fun w h => List.mem_cons_of_mem _ (inW_O w h)) hown hK hP 0 rfl rfl 1 (by decide) (hts _ (List.mem_cons_of_mem _ mw_93)) (fun _ h9 => h9) rfl d_O_deliverEach_33 ?_
                refine lv_iload_n hx hb d_O_deliverEach_36 rfl (lv_at hl 2 rfl) ?_
                refine lv_bipush (v := nI 12) hx hb d_O_deliverEach_37 (by decide +kernel) ?_
                refine nw_imul (x := i) (y := 12) hx hb d_O_deliverEach_39 ?_
                refine lv_iload_n hx hb d_O_deliverEach_40 rfl (lv_at hl 3 rfl) ?_
                refine nw_iadd (x := (i * 12)) (y := j) hx hb d_O_deliverEach_41 ?_
                refine nw_dald (f := lt) hx hb hK hP 2 2 rfl rfl (i := ((i * 12) + j)) (by omega) (by decide) d_O_deliverEach_42 ?_
                refine nc_v (wc := [cO g 0 [.ref g0, .ref g1, .ref g2, .ref g3, .ref g4, .ref g5, .ref g6, .ref g7, .int (nI ss), .double ag], cN g6 cI 12 (va_up (dlvC fi mc i) i (delC fi (i * 12) j)), cD g7 cF 144 (delM fi lt (dlvM fi lt ml i) (i * 12) j)]) (wr := [cO o 1 [.ref o0, .ref o1], cB o0 cZ 144 fi, cD o1 cF 144 lt]) (w1 := [cO g 0 [.ref g0, .ref g1, .ref g2, .ref g3, .ref g4, .ref g5, .ref g6, .ref g7, .int (nI ss), .double ag], cN g6 cI 12 (va_up (va_up (dlvC fi mc i) i (delC fi (i * 12) j)) i ((va_up (dlvC fi mc i) i (delC fi (i * 12) j)) i + 1)), cD g7 cF 144 (va_up (delM fi lt (dlvM fi lt ml i) (i * 12) j) (i * 12 + (va_up (dlvC fi mc i) i (delC fi (i * 12) j)) i) (lt ((i * 12) + j)))]) (va_runV (As := [.int (nI i), .double (lt ((i * 12) + j))]) (rest := []) ⟨hx, hb, hml, hown, hts⟩ (c_G_addMail l D cZ cI cF g g0 g1 g2 g3 g4 g5 g6 g7 ss ag (va_up (dlvC fi mc i) i (delC fi (i * 12) j)) (delM fi lt (dlvM fi lt ml i) (i * 12) j) i (lt ((i * 12) + j)) H.size (by omega) (by rw [hus]; omega)) (cwV 2 hts (gi_V mw_442 mw_439 mw_440 mw_441 mw_2) rfl rfl rfl (by decide +kernel) ⟨Nat.le_of_ble_eq_true rfl, Nat.le_of_ble_eq_true rfl⟩) ⟨nPre_blind, va_recv hK hP (ci := 0) (q0 := 3) rfl rfl, nPre_of (wc := [cO g 0 [.ref g0, .ref g1, .ref g2, .ref g3, .ref g4, .ref g5, .ref g6, .ref g7, .int (nI ss), .double ag], cN g6 cI 12 (va_up (dlvC fi mc i) i (delC fi (i * 12) j)), cD g7 cF 144 (delM fi lt (dlvM fi lt ml i) (i * 12) j)]) hP hD hK hX hS hA [3, 4, 5] (by decide) rfl rfl⟩ rfl rfl hl.1 rfl (lv_room (Nat.le_of_ble_eq_true rfl)) d_O_deliverEach_43 ⟨Nat.zero_le _, Nat.zero_le _⟩) hP hD hS hA [3, 4, 5] [0, 1, 2] rfl rfl (by decide) (by decide) (fun H locs hP hD hS => ?_)
                have hP : va_P D CL [cO o 1 [.ref o0, .ref o1], cB o0 cZ 144 fi, cD o1 cF 144 lt, cO g 0 [.ref g0, .ref g1, .ref g2, .ref g3, .ref g4, .ref g5, .ref g6, .ref g7, .int (nI ss), .double ag], cN g6 cI 12 (va_up (va_up (dlvC fi mc i) i (delC fi (i * 12) j)) i ((va_up (dlvC fi mc i) i (delC fi (i * 12) j)) i + 1)), cD g7 cF 144 (va_up (delM fi lt (dlvM fi lt ml i) (i * 12) j) (i * 12 + (va_up (dlvC fi mc i) i (delC fi (i * 12) j)) i) (lt ((i * 12) + j)))] H := hP
                have hD : va_D A [cO o 1 [.ref o0, .ref o1], cB o0 cZ 144 fi, cD o1 cF 144 lt, cO g 0 [.ref g0, .ref g1, .ref g2, .ref g3, .ref g4, .ref g5, .ref g6, .ref g7, .int (nI ss), .double ag], cN g6 cI 12 (va_up (va_up (dlvC fi mc i) i (delC fi (i * 12) j)) i ((va_up (dlvC fi mc i) i (delC fi (i * 12) j)) i + 1)), cD g7 cF 144 (va_up (delM fi lt (dlvM fi lt ml i) (i * 12) j) (i * 12 + (va_up (dlvC fi mc i) i (delC fi (i * 12) j)) i) (lt ((i * 12) + j)))] := hD
                refine nw_iinc (x := j) (d := 1) (lv' := [(3, .int (nI (j + 1))), (0, .ref o), (1, .ref g), (2, .int (nI i))]) hx hb d_O_deliverEach_46 hl (k := 3) rfl (by decide) rfl (fun ls hl => ?_)
                refine lv_goto (tgt := 10) hx hb d_O_deliverEach_49 (by decide) ?_
                exact ih_10 (j + 1) (by omega) (by omega)  _ _ _ (nEqP (ws := [cO o 1 [.ref o0, .ref o1], cB o0 cZ 144 fi, cD o1 cF 144 lt, cO g 0 [.ref g0, .ref g1, .ref g2, .ref g3, .ref g4, .ref g5, .ref g6, .ref g7, .int (nI ss), .double ag], cN g6 cI 12 (va_up (va_up (dlvC fi mc i) i (delC fi (i * 12) j)) i ((va_up (dlvC fi mc i) i (delC fi (i * 12) j)) i + 1)), cD g7 cF 144 (va_up (delM fi lt (dlvM fi lt ml i) (i * 12) j) (i * 12 + (va_up (dlvC fi mc i) i (delC fi (i * 12) j)) i) (lt ((i * 12) + j)))]) (by simp [delM, delC, h_27, va_up_self, bx_uu]) hP) (nEqD (ws := [cO o 1 [.ref o0, .ref o1], cB o0 cZ 144 fi, cD o1 cF 144 lt, cO g 0 [.ref g0, .ref g1, .ref g2, .ref g3, .ref g4, .ref g5, .ref g6, .ref g7, .int (nI ss), .double ag], cN g6 cI 12 (va_up (va_up (dlvC fi mc i) i (delC fi (i * 12) j)) i ((va_up (dlvC fi mc i) i (delC fi (i * 12) j)) i + 1)), cD g7 cF 144 (va_up (delM fi lt (dlvM fi lt ml i) (i * 12) j) (i * 12 + (va_up (dlvC fi mc i) i (delC fi (i * 12) j)) i) (lt ((i * 12) + j)))]) (by simp [delM, delC, h_27, va_up_self, bx_uu]) hD) hS (lv_sub (l' := [(0, .ref o), (1, .ref g), (2, .int (nI i)), (3, .int (nI (j + 1)))]) hl [1, 2, 3, 0] rfl)
        exact loop_10 (12 + 1) 0 (by omega) (by omega)  _ _ _ (nEqP (ws := [cO o 1 [.ref o0, .ref o1], cB o0 cZ 144 fi, cD o1 cF 144 lt, cO g 0 [.ref g0, .ref g1, .ref g2, .ref g3, .ref g4, .ref g5, .ref g6, .ref g7, .int (nI ss), .double ag], cN g6 cI 12 (dlvC fi mc i), cD g7 cF 144 (dlvM fi lt ml i)]) (by simp [delC, delM, dlvC_up hm]) hP) (nEqD (ws := [cO o 1 [.ref o0, .ref o1], cB o0 cZ 144 fi, cD o1 cF 144 lt, cO g 0 [.ref g0, .ref g1, .ref g2, .ref g3, .ref g4, .ref g5, .ref g6, .ref g7, .int (nI ss), .double ag], cN g6 cI 12 (dlvC fi mc i), cD g7 cF 144 (dlvM fi lt ml i)]) (by simp [delC, delM, dlvC_up hm]) hD) hS (lv_sub (l' := [(0, .ref o), (1, .ref g), (2, .int (nI i)), (3, .int (nI 0))]) hl [1, 2, 3, 0] rfl)
  exact loop_2 (12 + 1) 0 (by omega) (by omega)  _ _ _ hP hD hS (lv_sub (l' := [(0, .ref o), (1, .ref g), (2, .int (nI 0))]) hl [1, 2, 0] rfl)

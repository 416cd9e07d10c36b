set_option maxHeartbeats 4000000 in
set_option maxRecDepth 100000 in
/-- how many are there -/
theorem c_G_countThere (l : Launch) (D : va_G) (cZ : Nat) (cI : Nat) (cF : Nat) (g : Nat) (g0 : Nat) (g1 : Nat) (g2 : Nat) (g3 : Nat) (g4 : Nat) (g5 : Nat) (g6 : Nat) (g7 : Nat) (ss : Nat) (ag : UInt64) (th : Nat → Bool) (sz : Nat)  : MVi l y_G_countThere w_G_countThere ({ frames := 0, cells := 0, slots := 0, locals := 0 } : Room) D CL [(cZ, .boolean), (cI, .int), (cF, .double)] [.ref g] [cO g 0 [.ref g0, .ref g1, .ref g2, .ref g3, .ref g4, .ref g5, .ref g6, .ref g7, .int (nI ss), .double ag], cB g0 cZ 12 th] sz (nI (cnt th 12)) [cO g 0 [.ref g0, .ref g1, .ref g2, .ref g3, .ref g4, .ref g5, .ref g6, .ref g7, .int (nI ss), .double ag], cB g0 cZ 12 th] := by
  refine nm_i (cc := b_G_countThere) (maxL := 3) (by decide) rfl (Nat.le_of_ble_eq_true rfl) ?_
  intro p e s m below meth c A ls H C hP hD hS hl
  obtain ⟨hx, hb, hr, hml, hown, hts, hlocks, hA, hK, hX⟩ := C
  have hl : lv_has ls 3 [(0, .ref g)] := hl
  refine lv_iconst (v := nI 0) hx hb d_G_countThere_0 (by decide +kernel) ?_
  refine lv_istore_n (lv' := [(1, .int (nI 0)), (0, .ref g)]) hx hb d_G_countThere_1 rfl hl (by decide) rfl (fun ls hl => ?_)
  refine lv_iconst (v := nI 0) hx hb d_G_countThere_2 (by decide +kernel) ?_
  refine lv_istore_n (lv' := [(2, .int (nI 0)), (1, .int (nI 0)), (0, .ref g)]) hx hb d_G_countThere_3 rfl hl (by decide) rfl (fun ls hl => ?_)
  have loop_4 : ∀ (n_4 i : Nat), i ≤ 12 → 12 < i + n_4 → ∀ (H : Heap) (locs : List Loc) (ls : Array Slot), va_P D CL [cO g 0 [.ref g0, .ref g1, .ref g2, .ref g3, .ref g4, .ref g5, .ref g6, .ref g7, .int (nI ss), .double ag], cB g0 cZ 12 th] H → va_D A [cO g 0 [.ref g0, .ref g1, .ref g2, .ref g3, .ref g4, .ref g5, .ref g6, .ref g7, .int (nI ss), .double ag], cB g0 cZ 12 th] → va_S A s.heap H locs → lv_has ls 3 [(0, .ref g), (1, .int (nI (cnt th i))), (2, .int (nI i))] → W p l e ({ frames := 0, cells := 0, slots := 0, locals := 0 } : Room) s m ([.ref g] : List Value).toArray below meth c H locs 0 0 (MQ below (va_Qi (fun (z : Int32) (_ : Unit) => z = nI (cnt th 12)) (nB D CL [(cZ, .boolean), (cI, .int), (cF, .double)] [cO g 0 [.ref g0, .ref g1, .ref g2, .ref g3, .ref g4, .ref g5, .ref g6, .ref g7, .int (nI ss), .double ag], cB g0 cZ 12 th] A) A) ([.ref g] : List Value).toArray s 0 0 A) (F0 m 4 ls []) := by
    intro n_4
    induction n_4 with
    | zero => intro i h1 h2; exact absurd h2 (by omega)
    | succ n_4 ih_4 =>
      intro i hi_4 hn_4   H locs ls hP hD hS hl
      refine lv_iload_n hx hb d_G_countThere_4 rfl (lv_at hl 2 rfl) ?_
      refine lv_bipush (v := nI 12) hx hb d_G_countThere_5 (by decide +kernel) ?_
      refine nw_ge (x := i) (y := 12) (tgt := 28) hx hb (by omega) (by omega) d_G_countThere_7 (by decide) (fun h_7 => ?_) (fun h_7 => ?_)
      · obtain rfl : i = 12 := by omega
        refine lv_iload_n hx hb d_G_countThere_28 rfl (lv_at hl 1 rfl) ?_
        exact nr_i hx hb hr hlocks hK hP hD hS rfl rfl d_G_countThere_29
      · refine lv_aload_n hx hb d_G_countThere_10 rfl (lv_at hl 0 rfl) ?_
        refine va_get (ci := 0) (v := .ref g0) (C := "PulseGraph$Graph") (T := T_G) (N := 10) hx hb hts (fun w h => List.mem_cons_of_mem _ (inW_G w h)) hown hK hP 0 rfl rfl 0 (by decide) (hts _ (List.mem_cons_of_mem _ mw_29)) (fun _ h9 => h9) rfl d_G_countThere_11 ?_
        refine lv_iload_n hx hb d_G_countThere_14 rfl (lv_at hl 2 rfl) ?_
        refine nw_bald (f := th) hx hb hK hP 1 0 rfl rfl (i := i) (by omega) (by decide) d_G_countThere_15 ?_
        refine nw_bf (x := (th i)) (tgt := 22) hx hb d_G_countThere_16 (by decide) (fun h_16 => ?_) (fun h_16 => ?_)
        · refine nw_iinc (x := i) (d := 1) (lv' := [(2, .int (nI (i + 1))), (0, .ref g), (1, .int (nI (cnt th i)))]) hx hb d_G_countThere_22 hl (k := 2) rfl (by decide) rfl (fun ls hl => ?_)
          refine lv_goto (tgt := 4) hx hb d_G_countThere_25 (by decide) ?_
          exact ih_4 (i + 1) (by omega) (by omega)  _ _ _ hP hD hS (nEqL (l := [(0, .ref g), (1, .int (nI (cnt th i))), (2, .int (nI (i + 1)))]) (by simp [cnt, h_16]) (lv_sub (l' := [(0, .ref g), (1, .int (nI (cnt th i))), (2, .int (nI (i + 1)))]) hl [1, 2, 0] rfl))
        · refine nw_iinc (x := (cnt th i)) (d := 1) (lv' := [(1, .int (nI (cnt th i + 1))), (0, .ref g), (2, .int (nI i))]) hx hb d_G_countThere_19 hl (k := 1) rfl (by decide) rfl (fun ls hl => ?_)
          refine nw_iinc (x := i) (d := 1) (lv' := [(2, .int (nI (i + 1))), (1, .int (nI (cnt th i + 1))), (0, .ref g)]) hx hb d_G_countThere_22 hl (k := 2) rfl (by decide) rfl (fun ls hl => ?_)
          refine lv_goto (tgt := 4) hx hb d_G_countThere_25 (by decide) ?_
          exact ih_4 (i + 1) (by omega) (by omega)  _ _ _ hP hD hS (nEqL (l := [(0, .ref g), (1, .int (nI (cnt th i + 1))), (2, .int (nI (i + 1)))]) (by simp [cnt, h_16]) (lv_sub (l' := [(0, .ref g), (1, .int (nI (cnt th i + 1))), (2, .int (nI (i + 1)))]) hl [2, 1, 0] rfl))
  exact loop_4 (12 + 1) 0 (by omega) (by omega)  _ _ _ hP hD hS (lv_sub (l' := [(0, .ref g), (1, .int (nI 0)), (2, .int (nI 0))]) hl [2, 1, 0] rfl)

set_option maxHeartbeats 4000000 in
set_option maxRecDepth 100000 in
/-- awake are those there -/
theorem c_G_wakeAll (l : Launch) (D : va_G) (cZ : Nat) (cI : Nat) (cF : Nat) (g : Nat) (g0 : Nat) (g1 : Nat) (g2 : Nat) (g3 : Nat) (g4 : Nat) (g5 : Nat) (g6 : Nat) (g7 : Nat) (ss : Nat) (ag : UInt64) (th : Nat → Bool) (aw : Nat → Bool) (sz : Nat)  : MVv l y_G_wakeAll w_G_wakeAll ({ frames := 0, cells := 0, slots := 0, locals := 0 } : Room) D CL [(cZ, .boolean), (cI, .int), (cF, .double)] [.ref g] [cO g 0 [.ref g0, .ref g1, .ref g2, .ref g3, .ref g4, .ref g5, .ref g6, .ref g7, .int (nI ss), .double ag], cB g0 cZ 12 th, cB g5 cZ 12 aw] sz [cO g 0 [.ref g0, .ref g1, .ref g2, .ref g3, .ref g4, .ref g5, .ref g6, .ref g7, .int (nI ss), .double ag], cB g0 cZ 12 th, cB g5 cZ 12 th] := by
  refine nm_v (cc := b_G_wakeAll) (maxL := 2) (by decide) rfl (Nat.le_of_ble_eq_true rfl) ?_
  intro p e s m below meth c A ls H C hP hD hS hl
  obtain ⟨hx, hb, hr, hml, hown, hts, hlocks, hA, hK, hX⟩ := C
  have hl : lv_has ls 2 [(0, .ref g)] := hl
  refine lv_iconst (v := nI 0) hx hb d_G_wakeAll_0 (by decide +kernel) ?_
  refine lv_istore_n (lv' := [(1, .int (nI 0)), (0, .ref g)]) hx hb d_G_wakeAll_1 rfl hl (by decide) rfl (fun ls hl => ?_)
  have loop_2 : ∀ (n_2 i : Nat), i ≤ 12 → 12 < i + n_2 → ∀ (H : Heap) (locs : List Loc) (ls : Array Slot), va_P D CL [cO g 0 [.ref g0, .ref g1, .ref g2, .ref g3, .ref g4, .ref g5, .ref g6, .ref g7, .int (nI ss), .double ag], cB g0 cZ 12 th, cB g5 cZ 12 (mix i th aw)] H → va_D A [cO g 0 [.ref g0, .ref g1, .ref g2, .ref g3, .ref g4, .ref g5, .ref g6, .ref g7, .int (nI ss), .double ag], cB g0 cZ 12 th, cB g5 cZ 12 (mix i th aw)] → va_S A s.heap H locs → lv_has ls 2 [(0, .ref g), (1, .int (nI i))] → W p l e ({ frames := 0, cells := 0, slots := 0, locals := 0 } : Room) s m ([.ref g] : List Value).toArray below meth c H locs 0 0 (MQ below (va_Qv (fun _ : Unit => True) (nB D CL [(cZ, .boolean), (cI, .int), (cF, .double)] [cO g 0 [.ref g0, .ref g1, .ref g2, .ref g3, .ref g4, .ref g5, .ref g6, .ref g7, .int (nI ss), .double ag], cB g0 cZ 12 th, cB g5 cZ 12 th] A) A) ([.ref g] : List Value).toArray s 0 0 A) (F0 m 2 ls []) := by
    intro n_2
    induction n_2 with
    | zero => intro i h1 h2; exact absurd h2 (by omega)
    | succ n_2 ih_2 =>
      intro i hi_2 hn_2   H locs ls hP hD hS hl
      refine lv_iload_n hx hb d_G_wakeAll_2 rfl (lv_at hl 1 rfl) ?_
      refine lv_bipush (v := nI 12) hx hb d_G_wakeAll_3 (by decide +kernel) ?_
      refine nw_ge (x := i) (y := 12) (tgt := 26) hx hb (by omega) (by omega) d_G_wakeAll_5 (by decide) (fun h_5 => ?_) (fun h_5 => ?_)
      · obtain rfl : i = 12 := by omega
        have hP : va_P D CL [cO g 0 [.ref g0, .ref g1, .ref g2, .ref g3, .ref g4, .ref g5, .ref g6, .ref g7, .int (nI ss), .double ag], cB g0 cZ 12 th, cB g5 cZ 12 th] H := nExtB hP 2 rfl (by intro j hj; simp [mix, hj])
        have hD : va_D A [cO g 0 [.ref g0, .ref g1, .ref g2, .ref g3, .ref g4, .ref g5, .ref g6, .ref g7, .int (nI ss), .double ag], cB g0 cZ 12 th, cB g5 cZ 12 th] := nExtD hD 2 rfl
        exact nr_v hx hb hr hlocks hK hP hD hS rfl d_G_wakeAll_26
      · refine lv_aload_n hx hb d_G_wakeAll_8 rfl (lv_at hl 0 rfl) ?_
        refine va_get (ci := 0) (v := .ref g5) (C := "PulseGraph$Graph") (T := T_G) (N := 10) hx hb hts (fun w h => List.mem_cons_of_mem _ (inW_G w h)) hown hK hP 0 rfl rfl 5 (by decide) (hts _ (List.mem_cons_of_mem _ mw_41)) (fun _ h9 => h9) rfl d_G_wakeAll_9 ?_
        refine lv_iload_n hx hb d_G_wakeAll_12 rfl (lv_at hl 1 rfl) ?_
        refine lv_aload_n hx hb d_G_wakeAll_13 rfl (lv_at hl 0 rfl) ?_
        refine va_get (ci := 0) (v := .ref g0) (C := "PulseGraph$Graph") (T := T_G) (N := 10) hx hb hts (fun w h => List.mem_cons_of_mem _ (inW_G w h)) hown hK hP 0 rfl rfl 0 (by decide) (hts _ (List.mem_cons_of_mem _ mw_29)) (fun _ h9 => h9) rfl d_G_wakeAll_14 ?_
        refine lv_iload_n hx hb d_G_wakeAll_17 rfl (lv_at hl 1 rfl) ?_
        refine nw_bald (f := th) hx hb hK hP 1 0 rfl rfl (i := i) (by omega) (by decide) d_G_wakeAll_18 ?_
        refine nw_bast (f := (mix i th aw)) hx hb hK hP hD hS 2 0 rfl rfl (i := i) (x := (th i)) (by omega) (by decide) d_G_wakeAll_19 (fun H locs hP hD hS => ?_)
        have hP : va_P D CL [cO g 0 [.ref g0, .ref g1, .ref g2, .ref g3, .ref g4, .ref g5, .ref g6, .ref g7, .int (nI ss), .double ag], cB g0 cZ 12 th, cB g5 cZ 12 (va_up (mix i th aw) i (th i))] H := hP
        have hD : va_D A [cO g 0 [.ref g0, .ref g1, .ref g2, .ref g3, .ref g4, .ref g5, .ref g6, .ref g7, .int (nI ss), .double ag], cB g0 cZ 12 th, cB g5 cZ 12 (va_up (mix i th aw) i (th i))] := hD
        refine nw_iinc (x := i) (d := 1) (lv' := [(1, .int (nI (i + 1))), (0, .ref g)]) hx hb d_G_wakeAll_20 hl (k := 1) rfl (by decide) rfl (fun ls hl => ?_)
        refine lv_goto (tgt := 2) hx hb d_G_wakeAll_23 (by decide) ?_
        exact ih_2 (i + 1) (by omega) (by omega)  _ _ _ (nEqP (ws := [cO g 0 [.ref g0, .ref g1, .ref g2, .ref g3, .ref g4, .ref g5, .ref g6, .ref g7, .int (nI ss), .double ag], cB g0 cZ 12 th, cB g5 cZ 12 (va_up (mix i th aw) i (th i))]) (by rw [mix_s]) hP) (nEqD (ws := [cO g 0 [.ref g0, .ref g1, .ref g2, .ref g3, .ref g4, .ref g5, .ref g6, .ref g7, .int (nI ss), .double ag], cB g0 cZ 12 th, cB g5 cZ 12 (va_up (mix i th aw) i (th i))]) (by rw [mix_s]) hD) hS (lv_sub (l' := [(0, .ref g), (1, .int (nI (i + 1)))]) hl [1, 0] rfl)
  exact loop_2 (12 + 1) 0 (by omega) (by omega)  _ _ _ (nEqP (ws := [cO g 0 [.ref g0, .ref g1, .ref g2, .ref g3, .ref g4, .ref g5, .ref g6, .ref g7, .int (nI ss), .double ag], cB g0 cZ 12 th, cB g5 cZ 12 aw]) (by rw [mix_0]) hP) (nEqD (ws := [cO g 0 [.ref g0, .ref g1, .ref g2, .ref g3, .ref g4, .ref g5, .ref g6, .ref g7, .int (nI ss), .double ag], cB g0 cZ 12 th, cB g5 cZ 12 aw]) (by rw [mix_0]) hD) hS (lv_sub (l' := [(0, .ref g), (1, .int (nI 0))]) hl [1, 0] rfl)

set_option maxHeartbeats 4000000 in
set_option maxRecDepth 100000 in
/-- no mail -/
theorem c_G_clearMail (l : Launch) (D : va_G) (cZ : Nat) (cI : Nat) (cF : Nat) (g : Nat) (g0 : Nat) (g1 : Nat) (g2 : Nat) (g3 : Nat) (g4 : Nat) (g5 : Nat) (g6 : Nat) (g7 : Nat) (ss : Nat) (ag : UInt64) (mc : Nat → Nat) (sz : Nat)  : MVv l y_G_clearMail w_G_clearMail ({ frames := 0, cells := 0, slots := 0, locals := 0 } : Room) D CL [(cZ, .boolean), (cI, .int), (cF, .double)] [.ref g] [cO g 0 [.ref g0, .ref g1, .ref g2, .ref g3, .ref g4, .ref g5, .ref g6, .ref g7, .int (nI ss), .double ag], cN g6 cI 12 mc] sz [cO g 0 [.ref g0, .ref g1, .ref g2, .ref g3, .ref g4, .ref g5, .ref g6, .ref g7, .int (nI ss), .double ag], cN g6 cI 12 (fun _ => 0)] := by
  refine nm_v (cc := b_G_clearMail) (maxL := 2) (by decide) rfl (Nat.le_of_ble_eq_true rfl) ?_
  intro p e s m below meth c A ls H C hP hD hS hl
  obtain ⟨hx, hb, hr, hml, hown, hts, hlocks, hA, hK, hX⟩ := C
  have hl : lv_has ls 2 [(0, .ref g)] := hl
  refine lv_iconst (v := nI 0) hx hb d_G_clearMail_0 (by decide +kernel) ?_
  refine lv_istore_n (lv' := [(1, .int (nI 0)), (0, .ref g)]) hx hb d_G_clearMail_1 rfl hl (by decide) rfl (fun ls hl => ?_)
  have loop_2 : ∀ (n_2 i : Nat), i ≤ 12 → 12 < i + n_2 → ∀ (H : Heap) (locs : List Loc) (ls : Array Slot), va_P D CL [cO g 0 [.ref g0, .ref g1, .ref g2, .ref g3, .ref g4, .ref g5, .ref g6, .ref g7, .int (nI ss), .double ag], cN g6 cI 12 (mix i (fun _ => 0) mc)] H → va_D A [cO g 0 [.ref g0, .ref g1, .ref g2, .ref g3, .ref g4, .ref g5, .ref g6, .ref g7, .int (nI ss), .double ag], cN g6 cI 12 (mix i (fun _ => 0) mc)] → va_S A s.heap H locs → lv_has ls 2 [(0, .ref g), (1, .int (nI i))] → W p l e ({ frames := 0, cells := 0, slots := 0, locals := 0 } : Room) s m ([.ref g] : List Value).toArray below meth c H locs 0 0 (MQ below (va_Qv (fun _ : Unit => True) (nB D CL [(cZ, .boolean), (cI, .int), (cF, .double)] [cO g 0 [.ref g0, .ref g1, .ref g2, .ref g3, .ref g4, .ref g5, .ref g6, .ref g7, .int (nI ss), .double ag], cN g6 cI 12 (fun _ => 0)] A) A) ([.ref g] : List Value).toArray s 0 0 A) (F0 m 2 ls []) := by
    intro n_2
    induction n_2 with
    | zero => intro i h1 h2; exact absurd h2 (by omega)
    | succ n_2 ih_2 =>
      intro i hi_2 hn_2   H locs ls hP hD hS hl
      refine lv_iload_n hx hb d_G_clearMail_2 rfl (lv_at hl 1 rfl) ?_
      refine lv_bipush (v := nI 12) hx hb d_G_clearMail_3 (by decide +kernel) ?_
      refine nw_ge (x := i) (y := 12) (tgt := 21) hx hb (by omega) (by omega) d_G_clearMail_5 (by decide) (fun h_5 => ?_) (fun h_5 => ?_)
      · obtain rfl : i = 12 := by omega
        have hP : va_P D CL [cO g 0 [.ref g0, .ref g1, .ref g2, .ref g3, .ref g4, .ref g5, .ref g6, .ref g7, .int (nI ss), .double ag], cN g6 cI 12 (fun _ => 0)] H := nExtN hP 1 rfl (by intro j hj; simp [mix, hj])
        have hD : va_D A [cO g 0 [.ref g0, .ref g1, .ref g2, .ref g3, .ref g4, .ref g5, .ref g6, .ref g7, .int (nI ss), .double ag], cN g6 cI 12 (fun _ => 0)] := nExtD hD 1 rfl
        exact nr_v hx hb hr hlocks hK hP hD hS rfl d_G_clearMail_21
      · refine lv_aload_n hx hb d_G_clearMail_8 rfl (lv_at hl 0 rfl) ?_
        refine va_get (ci := 0) (v := .ref g6) (C := "PulseGraph$Graph") (T := T_G) (N := 10) hx hb hts (fun w h => List.mem_cons_of_mem _ (inW_G w h)) hown hK hP 0 rfl rfl 6 (by decide) (hts _ (List.mem_cons_of_mem _ mw_44)) (fun _ h9 => h9) rfl d_G_clearMail_9 ?_
        refine lv_iload_n hx hb d_G_clearMail_12 rfl (lv_at hl 1 rfl) ?_
        refine lv_iconst (v := nI 0) hx hb d_G_clearMail_13 (by decide +kernel) ?_
        refine nw_nast (f := (mix i (fun _ => 0) mc)) hx hb hK hP hD hS 1 1 rfl rfl (i := i) (x := 0) (by omega) (by decide) d_G_clearMail_14 (fun H locs hP hD hS => ?_)
        have hP : va_P D CL [cO g 0 [.ref g0, .ref g1, .ref g2, .ref g3, .ref g4, .ref g5, .ref g6, .ref g7, .int (nI ss), .double ag], cN g6 cI 12 (va_up (mix i (fun _ => 0) mc) i 0)] H := hP
        have hD : va_D A [cO g 0 [.ref g0, .ref g1, .ref g2, .ref g3, .ref g4, .ref g5, .ref g6, .ref g7, .int (nI ss), .double ag], cN g6 cI 12 (va_up (mix i (fun _ => 0) mc) i 0)] := hD
        refine nw_iinc (x := i) (d := 1) (lv' := [(1, .int (nI (i + 1))), (0, .ref g)]) hx hb d_G_clearMail_15 hl (k := 1) rfl (by decide) rfl (fun ls hl => ?_)
        refine lv_goto (tgt := 2) hx hb d_G_clearMail_18 (by decide) ?_
        exact ih_2 (i + 1) (by omega) (by omega)  _ _ _ (nEqP (ws := [cO g 0 [.ref g0, .ref g1, .ref g2, .ref g3, .ref g4, .ref g5, .ref g6, .ref g7, .int (nI ss), .double ag], cN g6 cI 12 (va_up (mix i (fun _ => 0) mc) i 0)]) (by rw [← mix_s]) hP) (nEqD (ws := [cO g 0 [.ref g0, .ref g1, .ref g2, .ref g3, .ref g4, .ref g5, .ref g6, .ref g7, .int (nI ss), .double ag], cN g6 cI 12 (va_up (mix i (fun _ => 0) mc) i 0)]) (by rw [← mix_s]) hD) hS (lv_sub (l' := [(0, .ref g), (1, .int (nI (i + 1)))]) hl [1, 0] rfl)
  exact loop_2 (12 + 1) 0 (by omega) (by omega)  _ _ _ (nEqP (ws := [cO g 0 [.ref g0, .ref g1, .ref g2, .ref g3, .ref g4, .ref g5, .ref g6, .ref g7, .int (nI ss), .double ag], cN g6 cI 12 mc]) (by rw [mix_0]) hP) (nEqD (ws := [cO g 0 [.ref g0, .ref g1, .ref g2, .ref g3, .ref g4, .ref g5, .ref g6, .ref g7, .int (nI ss), .double ag], cN g6 cI 12 mc]) (by rw [mix_0]) hD) hS (lv_sub (l' := [(0, .ref g), (1, .int (nI 0))]) hl [1, 0] rfl)

set_option maxHeartbeats 4000000 in
set_option maxRecDepth 100000 in
/-- one message more -/
theorem c_G_addMail (l : Launch) (D : va_G) (cZ : Nat) (cI : Nat) (cF : Nat) (g : Nat) (g0 : Nat) (g1 : Nat) (g2 : Nat) (g3 : Nat) (g4 : Nat) (g5 : Nat) (g6 : Nat) (g7 : Nat) (ss : Nat) (ag : UInt64) (mc : Nat → Nat) (ml : Nat → UInt64) (v : Nat) (x : UInt64) (sz : Nat) (hv : v < 12) (hm : mc v < 12) : MVv l y_G_addMail w_G_addMail ({ frames := 0, cells := 0, slots := 0, locals := 0 } : Room) D CL [(cZ, .boolean), (cI, .int), (cF, .double)] [.ref g, .int (nI v), .double x] [cO g 0 [.ref g0, .ref g1, .ref g2, .ref g3, .ref g4, .ref g5, .ref g6, .ref g7, .int (nI ss), .double ag], cN g6 cI 12 mc, cD g7 cF 144 ml] sz [cO g 0 [.ref g0, .ref g1, .ref g2, .ref g3, .ref g4, .ref g5, .ref g6, .ref g7, .int (nI ss), .double ag], cN g6 cI 12 (va_up mc v (mc v + 1)), cD g7 cF 144 (va_up ml (v * 12 + mc v) x)] := by
  refine nm_v (cc := b_G_addMail) (maxL := 4) (by decide) rfl (Nat.le_of_ble_eq_true rfl) ?_
  intro p e s m below meth c A ls H C hP hD hS hl
  obtain ⟨hx, hb, hr, hml, hown, hts, hlocks, hA, hK, hX⟩ := C
  have hl : lv_has ls 4 [(0, .ref g), (1, .int (nI v)), (2, .double x)] := hl
  refine lv_aload_n hx hb d_G_addMail_0 rfl (lv_at hl 0 rfl) ?_
  refine va_get (ci := 0) (v := .ref g7) (C := "PulseGraph$Graph") (T := T_G) (N := 10) hx hb hts (fun w h => List.mem_cons_of_mem _ (inW_G w h)) hown hK hP 0 rfl rfl 7 (by decide) (hts _ (List.mem_cons_of_mem _ mw_47)) (fun _ h9 => h9) rfl d_G_addMail_1 ?_
  refine lv_iload_n hx hb d_G_addMail_4 rfl (lv_at hl 1 rfl) ?_
  refine lv_bipush (v := nI 12) hx hb d_G_addMail_5 (by decide +kernel) ?_
  refine nw_imul (x := v) (y := 12) hx hb d_G_addMail_7 ?_
  refine lv_aload_n hx hb d_G_addMail_8 rfl (lv_at hl 0 rfl) ?_
  refine va_get (ci := 0) (v := .ref g6) (C := "PulseGraph$Graph") (T := T_G) (N := 10) hx hb hts (fun w h => List.mem_cons_of_mem _ (inW_G w h)) hown hK hP 0 rfl rfl 6 (by decide) (hts _ (List.mem_cons_of_mem _ mw_44)) (fun _ h9 => h9) rfl d_G_addMail_9 ?_
  refine lv_iload_n hx hb d_G_addMail_12 rfl (lv_at hl 1 rfl) ?_
  refine nw_nald (f := mc) hx hb hK hP 1 1 rfl rfl (i := v) (by omega) (by decide) d_G_addMail_13 ?_
  refine nw_iadd (x := (v * 12)) (y := (mc v)) hx hb d_G_addMail_14 ?_
  refine lv_dload_n hx hb d_G_addMail_15 rfl (lv_at hl 2 rfl) ?_
  refine nw_dast (f := ml) hx hb hK hP hD hS 2 2 rfl rfl (i := ((v * 12) + (mc v))) (x := x) (by omega) (by decide) d_G_addMail_16 (fun H locs hP hD hS => ?_)
  have hP : va_P D CL [cO g 0 [.ref g0, .ref g1, .ref g2, .ref g3, .ref g4, .ref g5, .ref g6, .ref g7, .int (nI ss), .double ag], cN g6 cI 12 mc, cD g7 cF 144 (va_up ml ((v * 12) + (mc v)) x)] H := hP
  have hD : va_D A [cO g 0 [.ref g0, .ref g1, .ref g2, .ref g3, .ref g4, .ref g5, .ref g6, .ref g7, .int (nI ss), .double ag], cN g6 cI 12 mc, cD g7 cF 144 (va_up ml ((v * 12) + (mc v)) x)] := hD
  refine lv_aload_n hx hb d_G_addMail_17 rfl (lv_at hl 0 rfl) ?_
  refine va_get (ci := 0) (v := .ref g6) (C := "PulseGraph$Graph") (T := T_G) (N := 10) hx hb hts (fun w h => List.mem_cons_of_mem _ (inW_G w h)) hown hK hP 0 rfl rfl 6 (by decide) (hts _ (List.mem_cons_of_mem _ mw_44)) (fun _ h9 => h9) rfl d_G_addMail_18 ?_
  refine lv_iload_n hx hb d_G_addMail_21 rfl (lv_at hl 1 rfl) ?_
  refine lv_dup2_11 hx hb d_G_addMail_22 rfl rfl ?_
  refine nw_nald (f := mc) hx hb hK hP 1 1 rfl rfl (i := v) (by omega) (by decide) d_G_addMail_23 ?_
  refine lv_iconst (v := nI 1) hx hb d_G_addMail_24 (by decide +kernel) ?_
  refine nw_iadd (x := (mc v)) (y := 1) hx hb d_G_addMail_25 ?_
  refine nw_nast (f := mc) hx hb hK hP hD hS 1 1 rfl rfl (i := v) (x := ((mc v) + 1)) (by omega) (by decide) d_G_addMail_26 (fun H locs hP hD hS => ?_)
  have hP : va_P D CL [cO g 0 [.ref g0, .ref g1, .ref g2, .ref g3, .ref g4, .ref g5, .ref g6, .ref g7, .int (nI ss), .double ag], cN g6 cI 12 (va_up mc v ((mc v) + 1)), cD g7 cF 144 (va_up ml ((v * 12) + (mc v)) x)] H := hP
  have hD : va_D A [cO g 0 [.ref g0, .ref g1, .ref g2, .ref g3, .ref g4, .ref g5, .ref g6, .ref g7, .int (nI ss), .double ag], cN g6 cI 12 (va_up mc v ((mc v) + 1)), cD g7 cF 144 (va_up ml ((v * 12) + (mc v)) x)] := hD
  exact nr_v hx hb hr hlocks hK hP hD hS rfl d_G_addMail_27

set_option maxHeartbeats 4000000 in
set_option maxRecDepth 100000 in
/-- there, and awake or with mail -/
theorem c_G_isActive (l : Launch) (D : va_G) (cZ : Nat) (cI : Nat) (cF : Nat) (g : Nat) (g0 : Nat) (g1 : Nat) (g2 : Nat) (g3 : Nat) (g4 : Nat) (g5 : Nat) (g6 : Nat) (g7 : Nat) (ss : Nat) (ag : UInt64) (th : Nat → Bool) (aw : Nat → Bool) (mc : Nat → Nat) (v : Nat) (sz : Nat) (hv : v < 12) (hm : mc v < 2 ^ 31) : MVi l y_G_isActive w_G_isActive ({ frames := 0, cells := 0, slots := 0, locals := 0 } : Room) D CL [(cZ, .boolean), (cI, .int), (cF, .double)] [.ref g, .int (nI v)] [cO g 0 [.ref g0, .ref g1, .ref g2, .ref g3, .ref g4, .ref g5, .ref g6, .ref g7, .int (nI ss), .double ag], cB g0 cZ 12 th, cB g5 cZ 12 aw, cN g6 cI 12 mc] sz (bI (act th aw mc v)) [cO g 0 [.ref g0, .ref g1, .ref g2, .ref g3, .ref g4, .ref g5, .ref g6, .ref g7, .int (nI ss), .double ag], cB g0 cZ 12 th, cB g5 cZ 12 aw, cN g6 cI 12 mc] := by
  refine nm_i (cc := b_G_isActive) (maxL := 2) (by decide) rfl (Nat.le_of_ble_eq_true rfl) ?_
  intro p e s m below meth c A ls H C hP hD hS hl
  obtain ⟨hx, hb, hr, hml, hown, hts, hlocks, hA, hK, hX⟩ := C
  have hl : lv_has ls 2 [(0, .ref g), (1, .int (nI v))] := hl
  refine lv_aload_n hx hb d_G_isActive_0 rfl (lv_at hl 0 rfl) ?_
  refine va_get (ci := 0) (v := .ref g0) (C := "PulseGraph$Graph") (T := T_G) (N := 10) hx hb hts (fun w h => List.mem_cons_of_mem _ (inW_G w h)) hown hK hP 0 rfl rfl 0 (by decide) (hts _ (List.mem_cons_of_mem _ mw_29)) (fun _ h9 => h9) rfl d_G_isActive_1 ?_
  refine lv_iload_n hx hb d_G_isActive_4 rfl (lv_at hl 1 rfl) ?_
  refine nw_bald (f := th) hx hb hK hP 1 0 rfl rfl (i := v) (by omega) (by decide) d_G_isActive_5 ?_
  refine nw_bf (x := (th v)) (tgt := 31) hx hb d_G_isActive_6 (by decide) (fun h_6 => ?_) (fun h_6 => ?_)
  · refine lv_iconst (v := bI false) hx hb d_G_isActive_31 (by decide +kernel) ?_
    exact nr_b hx hb hr hlocks hK hP hD hS (by simp [act, h_6]) rfl d_G_isActive_32
  · refine lv_aload_n hx hb d_G_isActive_9 rfl (lv_at hl 0 rfl) ?_
    refine va_get (ci := 0) (v := .ref g5) (C := "PulseGraph$Graph") (T := T_G) (N := 10) hx hb hts (fun w h => List.mem_cons_of_mem _ (inW_G w h)) hown hK hP 0 rfl rfl 5 (by decide) (hts _ (List.mem_cons_of_mem _ mw_41)) (fun _ h9 => h9) rfl d_G_isActive_10 ?_
    refine lv_iload_n hx hb d_G_isActive_13 rfl (lv_at hl 1 rfl) ?_
    refine nw_bald (f := aw) hx hb hK hP 2 0 rfl rfl (i := v) (by omega) (by decide) d_G_isActive_14 ?_
    refine nw_bt (x := (aw v)) (tgt := 27) hx hb d_G_isActive_15 (by decide) (fun h_15 => ?_) (fun h_15 => ?_)
    · refine lv_iconst (v := bI true) hx hb d_G_isActive_27 (by decide +kernel) ?_
      refine lv_goto (tgt := 32) hx hb d_G_isActive_28 (by decide) ?_
      exact nr_b hx hb hr hlocks hK hP hD hS (by simp [act, h_6, h_15]) rfl d_G_isActive_32
    · refine lv_aload_n hx hb d_G_isActive_18 rfl (lv_at hl 0 rfl) ?_
      refine va_get (ci := 0) (v := .ref g6) (C := "PulseGraph$Graph") (T := T_G) (N := 10) hx hb hts (fun w h => List.mem_cons_of_mem _ (inW_G w h)) hown hK hP 0 rfl rfl 6 (by decide) (hts _ (List.mem_cons_of_mem _ mw_44)) (fun _ h9 => h9) rfl d_G_isActive_19 ?_
      refine lv_iload_n hx hb d_G_isActive_22 rfl (lv_at hl 1 rfl) ?_
      refine nw_nald (f := mc) hx hb hK hP 3 1 rfl rfl (i := v) (by omega) (by decide) d_G_isActive_23 ?_
      refine nw_le0 (x := (mc v)) (tgt := 31) hx hb (by omega) d_G_isActive_24 (by decide) (fun h_24 => ?_) (fun h_24 => ?_)
      · refine lv_iconst (v := bI false) hx hb d_G_isActive_31 (by decide +kernel) ?_
        exact nr_b hx hb hr hlocks hK hP hD hS (by simp [act, h_6, h_15, h_24]) rfl d_G_isActive_32
      · refine lv_iconst (v := bI true) hx hb d_G_isActive_27 (by decide +kernel) ?_
        refine lv_goto (tgt := 32) hx hb d_G_isActive_28 (by decide) ?_
        exact nr_b hx hb hr hlocks hK hP hD hS (by simp [act, h_6, h_15, h_24]) rfl d_G_isActive_32

set_option maxHeartbeats 4000000 in
set_option maxRecDepth 100000 in
/-- none is active -/
theorem c_G_isQuiet (l : Launch) (D : va_G) (cZ : Nat) (cI : Nat) (cF : Nat) (g : Nat) (g0 : Nat) (g1 : Nat) (g2 : Nat) (g3 : Nat) (g4 : Nat) (g5 : Nat) (g6 : Nat) (g7 : Nat) (ss : Nat) (ag : UInt64) (th : Nat → Bool) (aw : Nat → Bool) (mc : Nat → Nat) (sz : Nat) (hm : ∀ j, j < 12 → mc j < 2 ^ 31) : MVi l y_G_isQuiet w_G_isQuiet ({ frames := 1, cells := 0, slots := 0, locals := 21 } : Room) D CL [(cZ, .boolean), (cI, .int), (cF, .double)] [.ref g] [cO g 0 [.ref g0, .ref g1, .ref g2, .ref g3, .ref g4, .ref g5, .ref g6, .ref g7, .int (nI ss), .double ag], cB g0 cZ 12 th, cB g5 cZ 12 aw, cN g6 cI 12 mc] sz (bI (!anyAct th aw mc 12)) [cO g 0 [.ref g0, .ref g1, .ref g2, .ref g3, .ref g4, .ref g5, .ref g6, .ref g7, .int (nI ss), .double ag], cB g0 cZ 12 th, cB g5 cZ 12 aw, cN g6 cI 12 mc] := by
  refine nm_i (cc := b_G_isQuiet) (maxL := 2) (by decide) rfl (Nat.le_of_ble_eq_true rfl) ?_
  intro p e s m below meth c A ls H C hP hD hS hl
  obtain ⟨hx, hb, hr, hml, hown, hts, hlocks, hA, hK, hX⟩ := C
  have hl : lv_has ls 2 [(0, .ref g)] := hl
  refine lv_iconst (v := nI 0) hx hb d_G_isQuiet_0 (by decide +kernel) ?_
  refine lv_istore_n (lv' := [(1, .int (nI 0)), (0, .ref g)]) hx hb d_G_isQuiet_1 rfl hl (by decide) rfl (fun ls hl => ?_)
  have loop_2 : ∀ (n_2 i : Nat), i ≤ 12 → 12 < i + n_2 → (anyAct th aw mc i = false) → ∀ (H : Heap) (locs : List Loc) (ls : Array Slot), va_P D CL [cO g 0 [.ref g0, .ref g1, .ref g2, .ref g3, .ref g4, .ref g5, .ref g6, .ref g7, .int (nI ss), .double ag], cB g0 cZ 12 th, cB g5 cZ 12 aw, cN g6 cI 12 mc] H → va_D A [cO g 0 [.ref g0, .ref g1, .ref g2, .ref g3, .ref g4, .ref g5, .ref g6, .ref g7, .int (nI ss), .double ag], cB g0 cZ 12 th, cB g5 cZ 12 aw, cN g6 cI 12 mc] → va_S A s.heap H locs → lv_has ls 2 [(0, .ref g), (1, .int (nI i))] → W p l e ({ frames := 1, cells := 0, slots := 0, locals := 21 } : Room) s m ([.ref g] : List Value).toArray below meth c H locs 0 0 (MQ below (va_Qi (fun (z : Int32) (_ : Unit) => z = bI (!anyAct th aw mc 12)) (nB D CL [(cZ, .boolean), (cI, .int), (cF, .double)] [cO g 0 [.ref g0, .ref g1, .ref g2, .ref g3, .ref g4, .ref g5, .ref g6, .ref g7, .int (nI ss), .double ag], cB g0 cZ 12 th, cB g5 cZ 12 aw, cN g6 cI 12 mc] A) A) ([.ref g] : List Value).toArray s 0 0 A) (F0 m 2 ls []) := by
    intro n_2
    induction n_2 with
    | zero => intro i h1 h2; exact absurd h2 (by omega)
    | succ n_2 ih_2 =>
      intro i hi_2 hn_2  hq H locs ls hP hD hS hl
      refine lv_iload_n hx hb d_G_isQuiet_2 rfl (lv_at hl 1 rfl) ?_
      refine lv_bipush (v := nI 12) hx hb d_G_isQuiet_3 (by decide +kernel) ?_
      refine nw_ge (x := i) (y := 12) (tgt := 24) hx hb (by omega) (by omega) d_G_isQuiet_5 (by decide) (fun h_5 => ?_) (fun h_5 => ?_)
      · obtain rfl : i = 12 := by omega
        refine lv_iconst (v := bI true) hx hb d_G_isQuiet_24 (by decide +kernel) ?_
        exact nr_b hx hb hr hlocks hK hP hD hS (by rw [hq]; rfl) rfl d_G_isQuiet_25
      · refine lv_aload_n hx hb d_G_isQuiet_8 rfl (lv_at hl 0 rfl) ?_
        refine lv_iload_n hx hb d_G_isQuiet_9 rfl (lv_at hl 1 rfl) ?_
        refine nc_i (wc := [cO g 0 [.ref g0, .ref g1, .ref g2, .ref g3, .ref g4, .ref g5, .ref g6, .ref g7, .int (nI ss), .double ag], cB g0 cZ 12 th, cB g5 cZ 12 aw, cN g6 cI 12 mc]) (wr := []) (w1 := [cO g 0 [.ref g0, .ref g1, .ref g2, .ref g3, .ref g4, .ref g5, .ref g6, .ref g7, .int (nI ss), .double ag], cB g0 cZ 12 th, cB g5 cZ 12 aw, cN g6 cI 12 mc]) (va_runV (As := [.int (nI i)]) (rest := []) ⟨hx, hb, hml, hown, hts⟩ (c_G_isActive l D cZ cI cF g g0 g1 g2 g3 g4 g5 g6 g7 ss ag th aw mc i H.size h_5 (hm i h_5)) (cwV 1 hts (gi_V mw_377 mw_476 mw_375 mw_376 mw_2) rfl rfl rfl (by decide +kernel) ⟨Nat.le_of_ble_eq_true rfl, Nat.le_of_ble_eq_true rfl⟩) ⟨nPre_blind, va_recv hK hP (ci := 0) (q0 := 0) rfl rfl, nPre_of (wc := [cO g 0 [.ref g0, .ref g1, .ref g2, .ref g3, .ref g4, .ref g5, .ref g6, .ref g7, .int (nI ss), .double ag], cB g0 cZ 12 th, cB g5 cZ 12 aw, cN g6 cI 12 mc]) hP hD hK hX hS hA [0, 1, 2, 3] (by decide) rfl rfl⟩ rfl rfl hl.1 rfl (lv_room (Nat.le_of_ble_eq_true rfl)) d_G_isQuiet_10 ⟨Nat.zero_le _, Nat.zero_le _⟩) hP hD hS hA [0, 1, 2, 3] [] rfl rfl (by decide) (by decide) (fun H locs hP hD hS => ?_)
        have hP : va_P D CL [cO g 0 [.ref g0, .ref g1, .ref g2, .ref g3, .ref g4, .ref g5, .ref g6, .ref g7, .int (nI ss), .double ag], cB g0 cZ 12 th, cB g5 cZ 12 aw, cN g6 cI 12 mc] H := hP
        have hD : va_D A [cO g 0 [.ref g0, .ref g1, .ref g2, .ref g3, .ref g4, .ref g5, .ref g6, .ref g7, .int (nI ss), .double ag], cB g0 cZ 12 th, cB g5 cZ 12 aw, cN g6 cI 12 mc] := hD
        refine nw_bf (x := (act th aw mc i)) (tgt := 18) hx hb d_G_isQuiet_13 (by decide) (fun h_13 => ?_) (fun h_13 => ?_)
        · refine nw_iinc (x := i) (d := 1) (lv' := [(1, .int (nI (i + 1))), (0, .ref g)]) hx hb d_G_isQuiet_18 hl (k := 1) rfl (by decide) rfl (fun ls hl => ?_)
          refine lv_goto (tgt := 2) hx hb d_G_isQuiet_21 (by decide) ?_
          exact ih_2 (i + 1) (by omega) (by omega) (by simp [anyAct, hq, h_13]) _ _ _ hP hD hS (lv_sub (l' := [(0, .ref g), (1, .int (nI (i + 1)))]) hl [1, 0] rfl)
        · refine lv_iconst (v := bI false) hx hb d_G_isQuiet_16 (by decide +kernel) ?_
          exact nr_b hx hb hr hlocks hK hP hD hS (by rw [anyAct_of h_13 12 h_5]; rfl) rfl d_G_isQuiet_17
  exact loop_2 (12 + 1) 0 (by omega) (by omega) rfl _ _ _ hP hD hS (lv_sub (l' := [(0, .ref g), (1, .int (nI 0))]) hl [1, 0] rfl)

set_option maxHeartbeats 4000000 in
set_option maxRecDepth 100000 in
/-- the place of an edge in its row, or the length of the row -/
theorem c_G_placeOf (l : Launch) (D : va_G) (cZ : Nat) (cI : Nat) (cF : Nat) (g : Nat) (g0 : Nat) (g1 : Nat) (g2 : Nat) (g3 : Nat) (g4 : Nat) (g5 : Nat) (g6 : Nat) (g7 : Nat) (ss : Nat) (ag : UInt64) (ec : Nat → Nat) (tg : Nat → Nat) (fr : Nat) (to : Nat) (sz : Nat) (hf : fr < 12) (ht : to < 2 ^ 31) (he : ec fr ≤ 12) (hg : ∀ j, j < ec fr → tg (fr * 12 + j) < 2 ^ 31) : MVi l y_G_placeOf w_G_placeOf ({ frames := 0, cells := 0, slots := 0, locals := 0 } : Room) D CL [(cZ, .boolean), (cI, .int), (cF, .double)] [.ref g, .int (nI fr), .int (nI to)] [cO g 0 [.ref g0, .ref g1, .ref g2, .ref g3, .ref g4, .ref g5, .ref g6, .ref g7, .int (nI ss), .double ag], cN g2 cI 12 ec, cN g3 cI 144 tg] sz (nI (plc ec tg fr to)) [cO g 0 [.ref g0, .ref g1, .ref g2, .ref g3, .ref g4, .ref g5, .ref g6, .ref g7, .int (nI ss), .double ag], cN g2 cI 12 ec, cN g3 cI 144 tg] := by
  refine nm_i (cc := b_G_placeOf) (maxL := 4) (by decide) rfl (Nat.le_of_ble_eq_true rfl) ?_
  intro p e s m below meth c A ls H C hP hD hS hl
  obtain ⟨hx, hb, hr, hml, hown, hts, hlocks, hA, hK, hX⟩ := C
  have hl : lv_has ls 4 [(0, .ref g), (1, .int (nI fr)), (2, .int (nI to))] := hl
  refine lv_iconst (v := nI 0) hx hb d_G_placeOf_0 (by decide +kernel) ?_
  refine lv_istore_n (lv' := [(3, .int (nI 0)), (0, .ref g), (1, .int (nI fr)), (2, .int (nI to))]) hx hb d_G_placeOf_1 rfl hl (by decide) rfl (fun ls hl => ?_)
  have loop_2 : ∀ (n_2 i : Nat), i ≤ (ec fr) → (ec fr) < i + n_2 → (plc ec tg fr to = fnd (fun j => tg (fr * 12 + j)) to (ec fr - i) i) → ∀ (H : Heap) (locs : List Loc) (ls : Array Slot), va_P D CL [cO g 0 [.ref g0, .ref g1, .ref g2, .ref g3, .ref g4, .ref g5, .ref g6, .ref g7, .int (nI ss), .double ag], cN g2 cI 12 ec, cN g3 cI 144 tg] H → va_D A [cO g 0 [.ref g0, .ref g1, .ref g2, .ref g3, .ref g4, .ref g5, .ref g6, .ref g7, .int (nI ss), .double ag], cN g2 cI 12 ec, cN g3 cI 144 tg] → va_S A s.heap H locs → lv_has ls 4 [(0, .ref g), (1, .int (nI fr)), (2, .int (nI to)), (3, .int (nI i))] → W p l e ({ frames := 0, cells := 0, slots := 0, locals := 0 } : Room) s m ([.ref g, .int (nI fr), .int (nI to)] : List Value).toArray below meth c H locs 0 0 (MQ below (va_Qi (fun (z : Int32) (_ : Unit) => z = nI (plc ec tg fr to)) (nB D CL [(cZ, .boolean), (cI, .int), (cF, .double)] [cO g 0 [.ref g0, .ref g1, .ref g2, .ref g3, .ref g4, .ref g5, .ref g6, .ref g7, .int (nI ss), .double ag], cN g2 cI 12 ec, cN g3 cI 144 tg] A) A) ([.ref g, .int (nI fr), .int (nI to)] : List Value).toArray s 0 0 A) (F0 m 2 ls []) := by
    intro n_2
    induction n_2 with
    | zero => intro i h1 h2; exact absurd h2 (by omega)
    | succ n_2 ih_2 =>
      intro i hi_2 hn_2  hq H locs ls hP hD hS hl
      refine lv_iload_n hx hb d_G_placeOf_2 rfl (lv_at hl 3 rfl) ?_
      refine lv_aload_n hx hb d_G_placeOf_3 rfl (lv_at hl 0 rfl) ?_
      refine va_get (ci := 0) (v := .ref g2) (C := "PulseGraph$Graph") (T := T_G) (N := 10) hx hb hts (fun w h => List.mem_cons_of_mem _ (inW_G w h)) hown hK hP 0 rfl rfl 2 (by decide) (hts _ (List.mem_cons_of_mem _ mw_34)) (fun _ h9 => h9) rfl d_G_placeOf_4 ?_
      refine lv_iload_n hx hb d_G_placeOf_7 rfl (lv_at hl 1 rfl) ?_
      refine nw_nald (f := ec) hx hb hK hP 1 1 rfl rfl (i := fr) (by omega) (by decide) d_G_placeOf_8 ?_
      refine nw_ge (x := i) (y := (ec fr)) (tgt := 33) hx hb (by omega) (by omega) d_G_placeOf_9 (by decide) (fun h_9 => ?_) (fun h_9 => ?_)
      · obtain rfl : i = ec fr := by omega
        refine lv_iload_n hx hb d_G_placeOf_33 rfl (lv_at hl 3 rfl) ?_
        exact nr_i hx hb hr hlocks hK hP hD hS (by rw [hq]; simp [fnd]) rfl d_G_placeOf_34
      · have hgi := hg i h_9
        refine lv_aload_n hx hb d_G_placeOf_12 rfl (lv_at hl 0 rfl) ?_
        refine va_get (ci := 0) (v := .ref g3) (C := "PulseGraph$Graph") (T := T_G) (N := 10) hx hb hts (fun w h => List.mem_cons_of_mem _ (inW_G w h)) hown hK hP 0 rfl rfl 3 (by decide) (hts _ (List.mem_cons_of_mem _ mw_37)) (fun _ h9 => h9) rfl d_G_placeOf_13 ?_
        refine lv_iload_n hx hb d_G_placeOf_16 rfl (lv_at hl 1 rfl) ?_
        refine lv_bipush (v := nI 12) hx hb d_G_placeOf_17 (by decide +kernel) ?_
        refine nw_imul (x := fr) (y := 12) hx hb d_G_placeOf_19 ?_
        refine lv_iload_n hx hb d_G_placeOf_20 rfl (lv_at hl 3 rfl) ?_
        refine nw_iadd (x := (fr * 12)) (y := i) hx hb d_G_placeOf_21 ?_
        refine nw_nald (f := tg) hx hb hK hP 2 1 rfl rfl (i := ((fr * 12) + i)) (by omega) (by decide) d_G_placeOf_22 ?_
        refine lv_iload_n hx hb d_G_placeOf_23 rfl (lv_at hl 2 rfl) ?_
        refine nw_eq (x := (tg ((fr * 12) + i))) (y := to) (tgt := 33) hx hb (by omega) (by omega) d_G_placeOf_24 (by decide) (fun h_24 => ?_) (fun h_24 => ?_)
        · refine lv_iload_n hx hb d_G_placeOf_33 rfl (lv_at hl 3 rfl) ?_
          exact nr_i hx hb hr hlocks hK hP hD hS (by rw [hq, show ec fr - i = (ec fr - (i + 1)) + 1 by omega]; simp [fnd, h_24]) rfl d_G_placeOf_34
        · refine nw_iinc (x := i) (d := 1) (lv' := [(3, .int (nI (i + 1))), (0, .ref g), (1, .int (nI fr)), (2, .int (nI to))]) hx hb d_G_placeOf_27 hl (k := 3) rfl (by decide) rfl (fun ls hl => ?_)
          refine lv_goto (tgt := 2) hx hb d_G_placeOf_30 (by decide) ?_
          exact ih_2 (i + 1) (by omega) (by omega) (by rw [hq, show ec fr - i = (ec fr - (i + 1)) + 1 by omega]; simp [fnd, h_24]) _ _ _ hP hD hS (lv_sub (l' := [(0, .ref g), (1, .int (nI fr)), (2, .int (nI to)), (3, .int (nI (i + 1)))]) hl [1, 2, 3, 0] rfl)
  exact loop_2 (ec fr + 1) 0 (by omega) (by omega) rfl _ _ _ hP hD hS (lv_sub (l' := [(0, .ref g), (1, .int (nI fr)), (2, .int (nI to)), (3, .int (nI 0))]) hl [1, 2, 3, 0] rfl)

set_option maxHeartbeats 4000000 in
set_option maxRecDepth 100000 in
/-- where an edge leads, -1 for none -/
theorem c_G_targetOf (l : Launch) (D : va_G) (cZ : Nat) (cI : Nat) (cF : Nat) (g : Nat) (g0 : Nat) (g1 : Nat) (g2 : Nat) (g3 : Nat) (g4 : Nat) (g5 : Nat) (g6 : Nat) (g7 : Nat) (ss : Nat) (ag : UInt64) (ec : Nat → Nat) (tg : Nat → Nat) (fr : Nat) (pl : Nat) (sz : Nat) (hf : fr < 12) (hp : pl < 12) (he : ec fr ≤ 12) : MVi l y_G_targetOf w_G_targetOf ({ frames := 0, cells := 0, slots := 0, locals := 0 } : Room) D CL [(cZ, .boolean), (cI, .int), (cF, .double)] [.ref g, .int (nI fr), .int (nI pl)] [cO g 0 [.ref g0, .ref g1, .ref g2, .ref g3, .ref g4, .ref g5, .ref g6, .ref g7, .int (nI ss), .double ag], cN g2 cI 12 ec, cN g3 cI 144 tg] sz (tof ec tg fr pl) [cO g 0 [.ref g0, .ref g1, .ref g2, .ref g3, .ref g4, .ref g5, .ref g6, .ref g7, .int (nI ss), .double ag], cN g2 cI 12 ec, cN g3 cI 144 tg] := by
  refine nm_i (cc := b_G_targetOf) (maxL := 3) (by decide) rfl (Nat.le_of_ble_eq_true rfl) ?_
  intro p e s m below meth c A ls H C hP hD hS hl
  obtain ⟨hx, hb, hr, hml, hown, hts, hlocks, hA, hK, hX⟩ := C
  have hl : lv_has ls 3 [(0, .ref g), (1, .int (nI fr)), (2, .int (nI pl))] := hl
  refine lv_iload_n hx hb d_G_targetOf_0 rfl (lv_at hl 2 rfl) ?_
  refine lv_aload_n hx hb d_G_targetOf_1 rfl (lv_at hl 0 rfl) ?_
  refine va_get (ci := 0) (v := .ref g2) (C := "PulseGraph$Graph") (T := T_G) (N := 10) hx hb hts (fun w h => List.mem_cons_of_mem _ (inW_G w h)) hown hK hP 0 rfl rfl 2 (by decide) (hts _ (List.mem_cons_of_mem _ mw_34)) (fun _ h9 => h9) rfl d_G_targetOf_2 ?_
  refine lv_iload_n hx hb d_G_targetOf_5 rfl (lv_at hl 1 rfl) ?_
  refine nw_nald (f := ec) hx hb hK hP 1 1 rfl rfl (i := fr) (by omega) (by decide) d_G_targetOf_6 ?_
  refine nw_ge (x := pl) (y := (ec fr)) (tgt := 24) hx hb (by omega) (by omega) d_G_targetOf_7 (by decide) (fun h_7 => ?_) (fun h_7 => ?_)
  · refine lv_iconst (v := (-1)) hx hb d_G_targetOf_24 (by decide +kernel) ?_
    exact nr_i hx hb hr hlocks hK hP hD hS (by unfold tof; rw [if_neg (by omega)]) rfl d_G_targetOf_25
  · refine lv_aload_n hx hb d_G_targetOf_10 rfl (lv_at hl 0 rfl) ?_
    refine va_get (ci := 0) (v := .ref g3) (C := "PulseGraph$Graph") (T := T_G) (N := 10) hx hb hts (fun w h => List.mem_cons_of_mem _ (inW_G w h)) hown hK hP 0 rfl rfl 3 (by decide) (hts _ (List.mem_cons_of_mem _ mw_37)) (fun _ h9 => h9) rfl d_G_targetOf_11 ?_
    refine lv_iload_n hx hb d_G_targetOf_14 rfl (lv_at hl 1 rfl) ?_
    refine lv_bipush (v := nI 12) hx hb d_G_targetOf_15 (by decide +kernel) ?_
    refine nw_imul (x := fr) (y := 12) hx hb d_G_targetOf_17 ?_
    refine lv_iload_n hx hb d_G_targetOf_18 rfl (lv_at hl 2 rfl) ?_
    refine nw_iadd (x := (fr * 12)) (y := pl) hx hb d_G_targetOf_19 ?_
    refine nw_nald (f := tg) hx hb hK hP 2 1 rfl rfl (i := ((fr * 12) + pl)) (by omega) (by decide) d_G_targetOf_20 ?_
    refine lv_goto (tgt := 25) hx hb d_G_targetOf_21 (by decide) ?_
    exact nr_i hx hb hr hlocks hK hP hD hS (by unfold tof; rw [if_pos (by omega)]) rfl d_G_targetOf_25

set_option maxHeartbeats 4000000 in
set_option maxRecDepth 100000 in
/-- an edge laid -/
theorem c_G_join (l : Launch) (D : va_G) (cZ : Nat) (cI : Nat) (cF : Nat) (g : Nat) (g0 : Nat) (g1 : Nat) (g2 : Nat) (g3 : Nat) (g4 : Nat) (g5 : Nat) (g6 : Nat) (g7 : Nat) (ss : Nat) (ag : UInt64) (ec : Nat → Nat) (tg : Nat → Nat) (le : Nat → UInt64) (fr : Nat) (to : Nat) (x : UInt64) (sz : Nat) (hf : fr < 12) (ht : to < 2 ^ 31) (he : ec fr ≤ 12) (hg : ∀ j, j < ec fr → tg (fr * 12 + j) < 2 ^ 31) (hp : plc ec tg fr to < 12) : MVv l y_G_join w_G_join ({ frames := 1, cells := 0, slots := 0, locals := 23 } : Room) D CL [(cZ, .boolean), (cI, .int), (cF, .double)] [.ref g, .int (nI fr), .int (nI to), .double x] [cO g 0 [.ref g0, .ref g1, .ref g2, .ref g3, .ref g4, .ref g5, .ref g6, .ref g7, .int (nI ss), .double ag], cN g2 cI 12 ec, cN g3 cI 144 tg, cD g4 cF 144 le] sz [cO g 0 [.ref g0, .ref g1, .ref g2, .ref g3, .ref g4, .ref g5, .ref g6, .ref g7, .int (nI ss), .double ag], cN g2 cI 12 (if plc ec tg fr to = ec fr then va_up ec fr (ec fr + 1) else ec), cN g3 cI 144 (va_up tg (fr * 12 + plc ec tg fr to) to), cD g4 cF 144 (va_up le (fr * 12 + plc ec tg fr to) x)] := by
  refine nm_v (cc := b_G_join) (maxL := 6) (by decide) rfl (Nat.le_of_ble_eq_true rfl) ?_
  intro p e s m below meth c A ls H C hP hD hS hl
  obtain ⟨hx, hb, hr, hml, hown, hts, hlocks, hA, hK, hX⟩ := C
  have hl : lv_has ls 6 [(0, .ref g), (1, .int (nI fr)), (2, .int (nI to)), (3, .double x)] := hl
  refine lv_aload_n hx hb d_G_join_0 rfl (lv_at hl 0 rfl) ?_
  refine lv_iload_n hx hb d_G_join_1 rfl (lv_at hl 1 rfl) ?_
  refine lv_iload_n hx hb d_G_join_2 rfl (lv_at hl 2 rfl) ?_
  refine nc_i (wc := [cO g 0 [.ref g0, .ref g1, .ref g2, .ref g3, .ref g4, .ref g5, .ref g6, .ref g7, .int (nI ss), .double ag], cN g2 cI 12 ec, cN g3 cI 144 tg]) (wr := [cD g4 cF 144 le]) (w1 := [cO g 0 [.ref g0, .ref g1, .ref g2, .ref g3, .ref g4, .ref g5, .ref g6, .ref g7, .int (nI ss), .double ag], cN g2 cI 12 ec, cN g3 cI 144 tg]) (va_runV (As := [.int (nI fr), .int (nI to)]) (rest := []) ⟨hx, hb, hml, hown, hts⟩ (c_G_placeOf l D cZ cI cF g g0 g1 g2 g3 g4 g5 g6 g7 ss ag ec tg fr to H.size hf ht he hg) (cwV 2 hts (gi_V mw_297 mw_294 mw_295 mw_296 mw_2) rfl rfl rfl (by decide +kernel) ⟨Nat.le_of_ble_eq_true rfl, Nat.le_of_ble_eq_true rfl⟩) ⟨nPre_blind, va_recv hK hP (ci := 0) (q0 := 0) rfl rfl, nPre_of (wc := [cO g 0 [.ref g0, .ref g1, .ref g2, .ref g3, .ref g4, .ref g5, .ref g6, .ref g7, .int (nI ss), .double ag], cN g2 cI 12 ec, cN g3 cI 144 tg]) hP hD hK hX hS hA [0, 1, 2] (by decide) rfl rfl⟩ rfl rfl hl.1 rfl (lv_room (Nat.le_of_ble_eq_true rfl)) d_G_join_3 ⟨Nat.zero_le _, Nat.zero_le _⟩) hP hD hS hA [0, 1, 2] [3] rfl rfl (by decide) (by decide) (fun H locs hP hD hS => ?_)
  have hP : va_P D CL [cD g4 cF 144 le, cO g 0 [.ref g0, .ref g1, .ref g2, .ref g3, .ref g4, .ref g5, .ref g6, .ref g7, .int (nI ss), .double ag], cN g2 cI 12 ec, cN g3 cI 144 tg] H := hP
  have hD : va_D A [cD g4 cF 144 le, cO g 0 [.ref g0, .ref g1, .ref g2, .ref g3, .ref g4, .ref g5, .ref g6, .ref g7, .int (nI ss), .double ag], cN g2 cI 12 ec, cN g3 cI 144 tg] := hD
  refine lv_istore (lv' := [(5, .int (nI (plc ec tg fr to))), (0, .ref g), (1, .int (nI fr)), (2, .int (nI to)), (3, .double x)]) hx hb d_G_join_6 hl (by decide) rfl (fun ls hl => ?_)
  refine lv_aload_n hx hb d_G_join_8 rfl (lv_at hl 1 rfl) ?_
  refine va_get (ci := 0) (v := .ref g3) (C := "PulseGraph$Graph") (T := T_G) (N := 10) hx hb hts (fun w h => List.mem_cons_of_mem _ (inW_G w h)) hown hK hP 1 rfl rfl 3 (by decide) (hts _ (List.mem_cons_of_mem _ mw_37)) (fun _ h9 => h9) rfl d_G_join_9 ?_
  refine lv_iload_n hx hb d_G_join_12 rfl (lv_at hl 2 rfl) ?_
  refine lv_bipush (v := nI 12) hx hb d_G_join_13 (by decide +kernel) ?_
  refine nw_imul (x := fr) (y := 12) hx hb d_G_join_15 ?_
  refine lv_iload hx hb d_G_join_16 (lv_at hl 0 rfl) ?_
  refine nw_iadd (x := (fr * 12)) (y := (plc ec tg fr to)) hx hb d_G_join_18 ?_
  refine lv_iload_n hx hb d_G_join_19 rfl (lv_at hl 3 rfl) ?_
  refine nw_nast (f := tg) hx hb hK hP hD hS 3 1 rfl rfl (i := ((fr * 12) + (plc ec tg fr to))) (x := to) (by omega) (by decide) d_G_join_20 (fun H locs hP hD hS => ?_)
  have hP : va_P D CL [cD g4 cF 144 le, cO g 0 [.ref g0, .ref g1, .ref g2, .ref g3, .ref g4, .ref g5, .ref g6, .ref g7, .int (nI ss), .double ag], cN g2 cI 12 ec, cN g3 cI 144 (va_up tg ((fr * 12) + (plc ec tg fr to)) to)] H := hP
  have hD : va_D A [cD g4 cF 144 le, cO g 0 [.ref g0, .ref g1, .ref g2, .ref g3, .ref g4, .ref g5, .ref g6, .ref g7, .int (nI ss), .double ag], cN g2 cI 12 ec, cN g3 cI 144 (va_up tg ((fr * 12) + (plc ec tg fr to)) to)] := hD
  refine lv_aload_n hx hb d_G_join_21 rfl (lv_at hl 1 rfl) ?_
  refine va_get (ci := 0) (v := .ref g4) (C := "PulseGraph$Graph") (T := T_G) (N := 10) hx hb hts (fun w h => List.mem_cons_of_mem _ (inW_G w h)) hown hK hP 1 rfl rfl 4 (by decide) (hts _ (List.mem_cons_of_mem _ mw_39)) (fun _ h9 => h9) rfl d_G_join_22 ?_
  refine lv_iload_n hx hb d_G_join_25 rfl (lv_at hl 2 rfl) ?_
  refine lv_bipush (v := nI 12) hx hb d_G_join_26 (by decide +kernel) ?_
  refine nw_imul (x := fr) (y := 12) hx hb d_G_join_28 ?_
  refine lv_iload hx hb d_G_join_29 (lv_at hl 0 rfl) ?_
  refine nw_iadd (x := (fr * 12)) (y := (plc ec tg fr to)) hx hb d_G_join_31 ?_
  refine lv_dload_n hx hb d_G_join_32 rfl (lv_at hl 4 rfl) ?_
  refine nw_dast (f := le) hx hb hK hP hD hS 0 2 rfl rfl (i := ((fr * 12) + (plc ec tg fr to))) (x := x) (by omega) (by decide) d_G_join_33 (fun H locs hP hD hS => ?_)
  have hP : va_P D CL [cD g4 cF 144 (va_up le ((fr * 12) + (plc ec tg fr to)) x), cO g 0 [.ref g0, .ref g1, .ref g2, .ref g3, .ref g4, .ref g5, .ref g6, .ref g7, .int (nI ss), .double ag], cN g2 cI 12 ec, cN g3 cI 144 (va_up tg ((fr * 12) + (plc ec tg fr to)) to)] H := hP
  have hD : va_D A [cD g4 cF 144 (va_up le ((fr * 12) + (plc ec tg fr to)) x), cO g 0 [.ref g0, .ref g1, .ref g2, .ref g3, .ref g4, .ref g5, .ref g6, .ref g7, .int (nI ss), .double ag], cN g2 cI 12 ec, cN g3 cI 144 (va_up tg ((fr * 12) + (plc ec tg fr to)) to)] := hD
  refine lv_iload hx hb d_G_join_34 (lv_at hl 0 rfl) ?_
  refine lv_aload_n hx hb d_G_join_36 rfl (lv_at hl 1 rfl) ?_
  refine va_get (ci := 0) (v := .ref g2) (C := "PulseGraph$Graph") (T := T_G) (N := 10) hx hb hts (fun w h => List.mem_cons_of_mem _ (inW_G w h)) hown hK hP 1 rfl rfl 2 (by decide) (hts _ (List.mem_cons_of_mem _ mw_34)) (fun _ h9 => h9) rfl d_G_join_37 ?_
  refine lv_iload_n hx hb d_G_join_40 rfl (lv_at hl 2 rfl) ?_
  refine nw_nald (f := ec) hx hb hK hP 2 1 rfl rfl (i := fr) (by omega) (by decide) d_G_join_41 ?_
  refine nw_ne (x := (plc ec tg fr to)) (y := (ec fr)) (tgt := 55) hx hb (by omega) (by omega) d_G_join_42 (by decide) (fun h_42 => ?_) (fun h_42 => ?_)
  · have hP : va_P D CL [cO g 0 [.ref g0, .ref g1, .ref g2, .ref g3, .ref g4, .ref g5, .ref g6, .ref g7, .int (nI ss), .double ag], cN g2 cI 12 ec, cN g3 cI 144 (va_up tg ((fr * 12) + (plc ec tg fr to)) to), cD g4 cF 144 (va_up le ((fr * 12) + (plc ec tg fr to)) x)] H := hP.sub [1, 2, 3, 0] rfl
    have hD : va_D A [cO g 0 [.ref g0, .ref g1, .ref g2, .ref g3, .ref g4, .ref g5, .ref g6, .ref g7, .int (nI ss), .double ag], cN g2 cI 12 ec, cN g3 cI 144 (va_up tg ((fr * 12) + (plc ec tg fr to)) to), cD g4 cF 144 (va_up le ((fr * 12) + (plc ec tg fr to)) x)] := hD.sub [1, 2, 3, 0] (by decide) rfl
    exact nr_v hx hb hr hlocks hK hP hD hS (by rw [if_neg h_42]) d_G_join_55
  · refine lv_aload_n hx hb d_G_join_45 rfl (lv_at hl 1 rfl) ?_
    refine va_get (ci := 0) (v := .ref g2) (C := "PulseGraph$Graph") (T := T_G) (N := 10) hx hb hts (fun w h => List.mem_cons_of_mem _ (inW_G w h)) hown hK hP 1 rfl rfl 2 (by decide) (hts _ (List.mem_cons_of_mem _ mw_34)) (fun _ h9 => h9) rfl d_G_join_46 ?_
    refine lv_iload_n hx hb d_G_join_49 rfl (lv_at hl 2 rfl) ?_
    refine lv_dup2_11 hx hb d_G_join_50 rfl rfl ?_
    refine nw_nald (f := ec) hx hb hK hP 2 1 rfl rfl (i := fr) (by omega) (by decide) d_G_join_51 ?_
    refine lv_iconst (v := nI 1) hx hb d_G_join_52 (by decide +kernel) ?_
    refine nw_iadd (x := (ec fr)) (y := 1) hx hb d_G_join_53 ?_
    refine nw_nast (f := ec) hx hb hK hP hD hS 2 1 rfl rfl (i := fr) (x := ((ec fr) + 1)) (by omega) (by decide) d_G_join_54 (fun H locs hP hD hS => ?_)
    have hP : va_P D CL [cD g4 cF 144 (va_up le ((fr * 12) + (plc ec tg fr to)) x), cO g 0 [.ref g0, .ref g1, .ref g2, .ref g3, .ref g4, .ref g5, .ref g6, .ref g7, .int (nI ss), .double ag], cN g2 cI 12 (va_up ec fr ((ec fr) + 1)), cN g3 cI 144 (va_up tg ((fr * 12) + (plc ec tg fr to)) to)] H := hP
    have hD : va_D A [cD g4 cF 144 (va_up le ((fr * 12) + (plc ec tg fr to)) x), cO g 0 [.ref g0, .ref g1, .ref g2, .ref g3, .ref g4, .ref g5, .ref g6, .ref g7, .int (nI ss), .double ag], cN g2 cI 12 (va_up ec fr ((ec fr) + 1)), cN g3 cI 144 (va_up tg ((fr * 12) + (plc ec tg fr to)) to)] := hD
    have hP : va_P D CL [cO g 0 [.ref g0, .ref g1, .ref g2, .ref g3, .ref g4, .ref g5, .ref g6, .ref g7, .int (nI ss), .double ag], cN g2 cI 12 (va_up ec fr ((ec fr) + 1)), cN g3 cI 144 (va_up tg ((fr * 12) + (plc ec tg fr to)) to), cD g4 cF 144 (va_up le ((fr * 12) + (plc ec tg fr to)) x)] H := hP.sub [1, 2, 3, 0] rfl
    have hD : va_D A [cO g 0 [.ref g0, .ref g1, .ref g2, .ref g3, .ref g4, .ref g5, .ref g6, .ref g7, .int (nI ss), .double ag], cN g2 cI 12 (va_up ec fr ((ec fr) + 1)), cN g3 cI 144 (va_up tg ((fr * 12) + (plc ec tg fr to)) to), cD g4 cF 144 (va_up le ((fr * 12) + (plc ec tg fr to)) x)] := hD.sub [1, 2, 3, 0] (by decide) rfl
    exact nr_v hx hb hr hlocks hK hP hD hS (by rw [if_pos h_42]) d_G_join_55

set_option maxHeartbeats 4000000 in
set_option maxRecDepth 100000 in
/-- an edge cut, if there is one -/
theorem c_G_cutEdge (l : Launch) (D : va_G) (cZ : Nat) (cI : Nat) (cF : Nat) (g : Nat) (g0 : Nat) (g1 : Nat) (g2 : Nat) (g3 : Nat) (g4 : Nat) (g5 : Nat) (g6 : Nat) (g7 : Nat) (ss : Nat) (ag : UInt64) (ec : Nat → Nat) (tg : Nat → Nat) (le : Nat → UInt64) (fr : Nat) (to : Nat) (sz : Nat) (hf : fr < 12) (ht : to < 2 ^ 31) (he : ec fr ≤ 12) (hg : ∀ j, j < ec fr → tg (fr * 12 + j) < 2 ^ 31) : MVi l y_G_cutEdge w_G_cutEdge ({ frames := 1, cells := 0, slots := 0, locals := 23 } : Room) D CL [(cZ, .boolean), (cI, .int), (cF, .double)] [.ref g, .int (nI fr), .int (nI to)] [cO g 0 [.ref g0, .ref g1, .ref g2, .ref g3, .ref g4, .ref g5, .ref g6, .ref g7, .int (nI ss), .double ag], cN g2 cI 12 ec, cN g3 cI 144 tg, cD g4 cF 144 le] sz (bI (cutR ec tg fr to)) [cO g 0 [.ref g0, .ref g1, .ref g2, .ref g3, .ref g4, .ref g5, .ref g6, .ref g7, .int (nI ss), .double ag], cN g2 cI 12 (cutEc ec tg fr to), cN g3 cI 144 (cutF ec tg tg fr to), cD g4 cF 144 (cutF ec tg le fr to)] := by
  refine nm_i (cc := b_G_cutEdge) (maxL := 6) (by decide) rfl (Nat.le_of_ble_eq_true rfl) ?_
  intro p e s m below meth c A ls H C hP hD hS hl
  obtain ⟨hx, hb, hr, hml, hown, hts, hlocks, hA, hK, hX⟩ := C
  have hl : lv_has ls 6 [(0, .ref g), (1, .int (nI fr)), (2, .int (nI to))] := hl
  refine lv_aload_n hx hb d_G_cutEdge_0 rfl (lv_at hl 0 rfl) ?_
  refine lv_iload_n hx hb d_G_cutEdge_1 rfl (lv_at hl 1 rfl) ?_
  refine lv_iload_n hx hb d_G_cutEdge_2 rfl (lv_at hl 2 rfl) ?_
  refine nc_i (wc := [cO g 0 [.ref g0, .ref g1, .ref g2, .ref g3, .ref g4, .ref g5, .ref g6, .ref g7, .int (nI ss), .double ag], cN g2 cI 12 ec, cN g3 cI 144 tg]) (wr := [cD g4 cF 144 le]) (w1 := [cO g 0 [.ref g0, .ref g1, .ref g2, .ref g3, .ref g4, .ref g5, .ref g6, .ref g7, .int (nI ss), .double ag], cN g2 cI 12 ec, cN g3 cI 144 tg]) (va_runV (As := [.int (nI fr), .int (nI to)]) (rest := []) ⟨hx, hb, hml, hown, hts⟩ (c_G_placeOf l D cZ cI cF g g0 g1 g2 g3 g4 g5 g6 g7 ss ag ec tg fr to H.size hf ht he hg) (cwV 2 hts (gi_V mw_297 mw_294 mw_295 mw_296 mw_2) rfl rfl rfl (by decide +kernel) ⟨Nat.le_of_ble_eq_true rfl, Nat.le_of_ble_eq_true rfl⟩) ⟨nPre_blind, va_recv hK hP (ci := 0) (q0 := 0) rfl rfl, nPre_of (wc := [cO g 0 [.ref g0, .ref g1, .ref g2, .ref g3, .ref g4, .ref g5, .ref g6, .ref g7, .int (nI ss), .double ag], cN g2 cI 12 ec, cN g3 cI 144 tg]) hP hD hK hX hS hA [0, 1, 2] (by decide) rfl rfl⟩ rfl rfl hl.1 rfl (lv_room (Nat.le_of_ble_eq_true rfl)) d_G_cutEdge_3 ⟨Nat.zero_le _, Nat.zero_le _⟩) hP hD hS hA [0, 1, 2] [3] rfl rfl (by decide) (by decide) (fun H locs hP hD hS => ?_)
  have hP : va_P D CL [cD g4 cF 144 le, cO g 0 [.ref g0, .ref g1, .ref g2, .ref g3, .ref g4, .ref g5, .ref g6, .ref g7, .int (nI ss), .double ag], cN g2 cI 12 ec, cN g3 cI 144 tg] H := hP
  have hD : va_D A [cD g4 cF 144 le, cO g 0 [.ref g0, .ref g1, .ref g2, .ref g3, .ref g4, .ref g5, .ref g6, .ref g7, .int (nI ss), .double ag], cN g2 cI 12 ec, cN g3 cI 144 tg] := hD
  refine lv_istore_n (lv' := [(3, .int (nI (plc ec tg fr to))), (0, .ref g), (1, .int (nI fr)), (2, .int (nI to))]) hx hb d_G_cutEdge_6 rfl hl (by decide) rfl (fun ls hl => ?_)
  have hpl := plc_le ec tg fr to
  refine lv_iload_n hx hb d_G_cutEdge_7 rfl (lv_at hl 0 rfl) ?_
  refine lv_aload_n hx hb d_G_cutEdge_8 rfl (lv_at hl 1 rfl) ?_
  refine va_get (ci := 0) (v := .ref g2) (C := "PulseGraph$Graph") (T := T_G) (N := 10) hx hb hts (fun w h => List.mem_cons_of_mem _ (inW_G w h)) hown hK hP 1 rfl rfl 2 (by decide) (hts _ (List.mem_cons_of_mem _ mw_34)) (fun _ h9 => h9) rfl d_G_cutEdge_9 ?_
  refine lv_iload_n hx hb d_G_cutEdge_12 rfl (lv_at hl 2 rfl) ?_
  refine nw_nald (f := ec) hx hb hK hP 2 1 rfl rfl (i := fr) (by omega) (by decide) d_G_cutEdge_13 ?_
  refine nw_ne (x := (plc ec tg fr to)) (y := (ec fr)) (tgt := 19) hx hb (by omega) (by omega) d_G_cutEdge_14 (by decide) (fun h_14 => ?_) (fun h_14 => ?_)
  · have hu : va_up ec fr (ec fr - 1) fr = ec fr - 1 := va_up_self _ _ _
    refine lv_aload_n hx hb d_G_cutEdge_19 rfl (lv_at hl 1 rfl) ?_
    refine va_get (ci := 0) (v := .ref g2) (C := "PulseGraph$Graph") (T := T_G) (N := 10) hx hb hts (fun w h => List.mem_cons_of_mem _ (inW_G w h)) hown hK hP 1 rfl rfl 2 (by decide) (hts _ (List.mem_cons_of_mem _ mw_34)) (fun _ h9 => h9) rfl d_G_cutEdge_20 ?_
    refine lv_iload_n hx hb d_G_cutEdge_23 rfl (lv_at hl 2 rfl) ?_
    refine lv_dup2_11 hx hb d_G_cutEdge_24 rfl rfl ?_
    refine nw_nald (f := ec) hx hb hK hP 2 1 rfl rfl (i := fr) (by omega) (by decide) d_G_cutEdge_25 ?_
    refine lv_iconst (v := nI 1) hx hb d_G_cutEdge_26 (by decide +kernel) ?_
    refine nw_isub (x := (ec fr)) (y := 1) hx hb (by omega) d_G_cutEdge_27 ?_
    refine nw_nast (f := ec) hx hb hK hP hD hS 2 1 rfl rfl (i := fr) (x := ((ec fr) - 1)) (by omega) (by decide) d_G_cutEdge_28 (fun H locs hP hD hS => ?_)
    have hP : va_P D CL [cD g4 cF 144 le, cO g 0 [.ref g0, .ref g1, .ref g2, .ref g3, .ref g4, .ref g5, .ref g6, .ref g7, .int (nI ss), .double ag], cN g2 cI 12 (va_up ec fr ((ec fr) - 1)), cN g3 cI 144 tg] H := hP
    have hD : va_D A [cD g4 cF 144 le, cO g 0 [.ref g0, .ref g1, .ref g2, .ref g3, .ref g4, .ref g5, .ref g6, .ref g7, .int (nI ss), .double ag], cN g2 cI 12 (va_up ec fr ((ec fr) - 1)), cN g3 cI 144 tg] := hD
    refine lv_iload_n hx hb d_G_cutEdge_29 rfl (lv_at hl 2 rfl) ?_
    refine lv_bipush (v := nI 12) hx hb d_G_cutEdge_30 (by decide +kernel) ?_
    refine nw_imul (x := fr) (y := 12) hx hb d_G_cutEdge_32 ?_
    refine lv_istore (lv' := [(4, .int (nI (fr * 12))), (3, .int (nI (plc ec tg fr to))), (0, .ref g), (1, .int (nI fr)), (2, .int (nI to))]) hx hb d_G_cutEdge_33 hl (by decide) rfl (fun ls hl => ?_)
    refine lv_iload_n hx hb d_G_cutEdge_35 rfl (lv_at hl 1 rfl) ?_
    refine lv_istore (lv' := [(5, .int (nI (plc ec tg fr to))), (4, .int (nI (fr * 12))), (3, .int (nI (plc ec tg fr to))), (0, .ref g), (1, .int (nI fr)), (2, .int (nI to))]) hx hb d_G_cutEdge_36 hl (by decide) rfl (fun ls hl => ?_)
    have loop_38 : ∀ (n_38 i : Nat), i ≤ (ec fr - 1 - plc ec tg fr to) → (ec fr - 1 - plc ec tg fr to) < i + n_38 → ∀ (H : Heap) (locs : List Loc) (ls : Array Slot), va_P D CL [cO g 0 [.ref g0, .ref g1, .ref g2, .ref g3, .ref g4, .ref g5, .ref g6, .ref g7, .int (nI ss), .double ag], cN g2 cI 12 (va_up ec fr (ec fr - 1)), cN g3 cI 144 (shl tg (fr * 12 + plc ec tg fr to) i), cD g4 cF 144 (shl le (fr * 12 + plc ec tg fr to) i)] H → va_D A [cO g 0 [.ref g0, .ref g1, .ref g2, .ref g3, .ref g4, .ref g5, .ref g6, .ref g7, .int (nI ss), .double ag], cN g2 cI 12 (va_up ec fr (ec fr - 1)), cN g3 cI 144 (shl tg (fr * 12 + plc ec tg fr to) i), cD g4 cF 144 (shl le (fr * 12 + plc ec tg fr to) i)] → va_S A s.heap H locs → lv_has ls 6 [(0, .ref g), (1, .int (nI fr)), (2, .int (nI to)), (3, .int (nI (plc ec tg fr to))), (4, .int (nI (fr * 12))), (5, .int (nI (plc ec tg fr to + i)))] → W p l e ({ frames := 1, cells := 0, slots := 0, locals := 23 } : Room) s m ([.ref g, .int (nI fr), .int (nI to)] : List Value).toArray below meth c H locs 0 0 (MQ below (va_Qi (fun (z : Int32) (_ : Unit) => z = bI (cutR ec tg fr to)) (nB D CL [(cZ, .boolean), (cI, .int), (cF, .double)] [cO g 0 [.ref g0, .ref g1, .ref g2, .ref g3, .ref g4, .ref g5, .ref g6, .ref g7, .int (nI ss), .double ag], cN g2 cI 12 (cutEc ec tg fr to), cN g3 cI 144 (cutF ec tg tg fr to), cD g4 cF 144 (cutF ec tg le fr to)] A) A) ([.ref g, .int (nI fr), .int (nI to)] : List Value).toArray s 0 0 A) (F0 m 38 ls []) := by
      intro n_38
      induction n_38 with
      | zero => intro i h1 h2; exact absurd h2 (by omega)
      | succ n_38 ih_38 =>
        intro i hi_38 hn_38   H locs ls hP hD hS hl
        refine lv_iload hx hb d_G_cutEdge_38 (lv_at hl 5 rfl) ?_
        refine lv_aload_n hx hb d_G_cutEdge_40 rfl (lv_at hl 0 rfl) ?_
        refine va_get (ci := 0) (v := .ref g2) (C := "PulseGraph$Graph") (T := T_G) (N := 10) hx hb hts (fun w h => List.mem_cons_of_mem _ (inW_G w h)) hown hK hP 0 rfl rfl 2 (by decide) (hts _ (List.mem_cons_of_mem _ mw_34)) (fun _ h9 => h9) rfl d_G_cutEdge_41 ?_
        refine lv_iload_n hx hb d_G_cutEdge_44 rfl (lv_at hl 1 rfl) ?_
        refine nw_nald (f := (va_up ec fr (ec fr - 1))) hx hb hK hP 1 1 rfl rfl (i := fr) (by omega) (by decide) d_G_cutEdge_45 ?_
        refine nw_ge (x := (plc ec tg fr to + i)) (y := ((va_up ec fr (ec fr - 1)) fr)) (tgt := 99) hx hb (by omega) (by omega) d_G_cutEdge_46 (by decide) (fun h_46 => ?_) (fun h_46 => ?_)
        · refine lv_iconst (v := bI true) hx hb d_G_cutEdge_99 (by decide +kernel) ?_
          exact nr_b hx hb hr hlocks hK hP hD hS (by simp [cutR, h_14]) (by rw [show i = ec fr - 1 - plc ec tg fr to by omega]; simp [cutEc, cutF, h_14]) d_G_cutEdge_100
        · refine lv_aload_n hx hb d_G_cutEdge_49 rfl (lv_at hl 0 rfl) ?_
          refine va_get (ci := 0) (v := .ref g3) (C := "PulseGraph$Graph") (T := T_G) (N := 10) hx hb hts (fun w h => List.mem_cons_of_mem _ (inW_G w h)) hown hK hP 0 rfl rfl 3 (by decide) (hts _ (List.mem_cons_of_mem _ mw_37)) (fun _ h9 => h9) rfl d_G_cutEdge_50 ?_
          refine lv_iload hx hb d_G_cutEdge_53 (lv_at hl 4 rfl) ?_
          refine lv_iload hx hb d_G_cutEdge_55 (lv_at hl 5 rfl) ?_
          refine nw_iadd (x := (fr * 12)) (y := (plc ec tg fr to + i)) hx hb d_G_cutEdge_57 ?_
          refine lv_aload_n hx hb d_G_cutEdge_58 rfl (lv_at hl 0 rfl) ?_
          refine va_get (ci := 0) (v := .ref g3) (C := "PulseGraph$Graph") (T := T_G) (N := 10) hx hb hts (fun w h => List.mem_cons_of_mem _ (inW_G w h)) hown hK hP 0 rfl rfl 3 (by decide) (hts _ (List.mem_cons_of_mem _ mw_37)) (fun _ h9 => h9) rfl d_G_cutEdge_59 ?_
          refine lv_iload hx hb d_G_cutEdge_62 (lv_at hl 4 rfl) ?_
          refine lv_iload hx hb d_G_cutEdge_64 (lv_at hl 5 rfl) ?_
          refine nw_iadd (x := (fr * 12)) (y := (plc ec tg fr to + i)) hx hb d_G_cutEdge_66 ?_
          refine lv_iconst (v := nI 1) hx hb d_G_cutEdge_67 (by decide +kernel) ?_
          refine nw_iadd (x := ((fr * 12) + (plc ec tg fr to + i))) (y := 1) hx hb d_G_cutEdge_68 ?_
          refine nw_nald (f := (shl tg (fr * 12 + plc ec tg fr to) i)) hx hb hK hP 2 1 rfl rfl (i := (((fr * 12) + (plc ec tg fr to + i)) + 1)) (by omega) (by decide) d_G_cutEdge_69 ?_
          refine nw_nast (f := (shl tg (fr * 12 + plc ec tg fr to) i)) hx hb hK hP hD hS 2 1 rfl rfl (i := ((fr * 12) + (plc ec tg fr to + i))) (x := ((shl tg (fr * 12 + plc ec tg fr to) i) (((fr * 12) + (plc ec tg fr to + i)) + 1))) (by omega) (by decide) d_G_cutEdge_70 (fun H locs hP hD hS => ?_)
          have hP : va_P D CL [cO g 0 [.ref g0, .ref g1, .ref g2, .ref g3, .ref g4, .ref g5, .ref g6, .ref g7, .int (nI ss), .double ag], cN g2 cI 12 (va_up ec fr (ec fr - 1)), cN g3 cI 144 (va_up (shl tg (fr * 12 + plc ec tg fr to) i) ((fr * 12) + (plc ec tg fr to + i)) ((shl tg (fr * 12 + plc ec tg fr to) i) (((fr * 12) + (plc ec tg fr to + i)) + 1))), cD g4 cF 144 (shl le (fr * 12 + plc ec tg fr to) i)] H := hP
          have hD : va_D A [cO g 0 [.ref g0, .ref g1, .ref g2, .ref g3, .ref g4, .ref g5, .ref g6, .ref g7, .int (nI ss), .double ag], cN g2 cI 12 (va_up ec fr (ec fr - 1)), cN g3 cI 144 (va_up (shl tg (fr * 12 + plc ec tg fr to) i) ((fr * 12) + (plc ec tg fr to + i)) ((shl tg (fr * 12 + plc ec tg fr to) i) (((fr * 12) + (plc ec tg fr to + i)) + 1))), cD g4 cF 144 (shl le (fr * 12 + plc ec tg fr to) i)] := hD
          refine lv_aload_n hx hb d_G_cutEdge_71 rfl (lv_at hl 0 rfl) ?_
          refine va_get (ci := 0) (v := .ref g4) (C := "PulseGraph$Graph") (T := T_G) (N := 10) hx hb hts (fun w h => List.mem_cons_of_mem _ (inW_G w h)) hown hK hP 0 rfl rfl 4 (by decide) (hts _ (List.mem_cons_of_mem _ mw_39)) (fun _ h9 => h9) rfl d_G_cutEdge_72 ?_
          refine lv_iload hx hb d_G_cutEdge_75 (lv_at hl 4 rfl) ?_
          refine lv_iload hx hb d_G_cutEdge_77 (lv_at hl 5 rfl) ?_
          refine nw_iadd (x := (fr * 12)) (y := (plc ec tg fr to + i)) hx hb d_G_cutEdge_79 ?_
          refine lv_aload_n hx hb d_G_cutEdge_80 rfl (lv_at hl 0 rfl) ?_
          refine va_get (ci := 0) (v := .ref g4) (C := "PulseGraph$Graph") (T := T_G) (N := 10) hx hb hts (fun w h => List.mem_cons_of_mem _ (inW_G w h)) hown hK hP 0 rfl rfl 4 (by decide) (hts _ (List.mem_cons_of_mem _ mw_39)) (fun _ h9 => h9) rfl d_G_cutEdge_81 ?_
          refine lv_iload hx hb d_G_cutEdge_84 (lv_at hl 4 rfl) ?_
          refine lv_iload hx hb d_G_cutEdge_86 (lv_at hl 5 rfl) ?_
          refine nw_iadd (x := (fr * 12)) (y := (plc ec tg fr to + i)) hx hb d_G_cutEdge_88 ?_
          refine lv_iconst (v := nI 1) hx hb d_G_cutEdge_89 (by decide +kernel) ?_
          refine nw_iadd (x := ((fr * 12) + (plc ec tg fr to + i))) (y := 1) hx hb d_G_cutEdge_90 ?_
          refine nw_dald (f := (shl le (fr * 12 + plc ec tg fr to) i)) hx hb hK hP 3 2 rfl rfl (i := (((fr * 12) + (plc ec tg fr to + i)) + 1)) (by omega) (by decide) d_G_cutEdge_91 ?_
          refine nw_dast (f := (shl le (fr * 12 + plc ec tg fr to) i)) hx hb hK hP hD hS 3 2 rfl rfl (i := ((fr * 12) + (plc ec tg fr to + i))) (x := ((shl le (fr * 12 + plc ec tg fr to) i) (((fr * 12) + (plc ec tg fr to + i)) + 1))) (by omega) (by decide) d_G_cutEdge_92 (fun H locs hP hD hS => ?_)
          have hP : va_P D CL [cO g 0 [.ref g0, .ref g1, .ref g2, .ref g3, .ref g4, .ref g5, .ref g6, .ref g7, .int (nI ss), .double ag], cN g2 cI 12 (va_up ec fr (ec fr - 1)), cN g3 cI 144 (va_up (shl tg (fr * 12 + plc ec tg fr to) i) ((fr * 12) + (plc ec tg fr to + i)) ((shl tg (fr * 12 + plc ec tg fr to) i) (((fr * 12) + (plc ec tg fr to + i)) + 1))), cD g4 cF 144 (va_up (shl le (fr * 12 + plc ec tg fr to) i) ((fr * 12) + (plc ec tg fr to + i)) ((shl le (fr * 12 + plc ec tg fr to) i) (((fr * 12) + (plc ec tg fr to + i)) + 1)))] H := hP
          have hD : va_D A [cO g 0 [.ref g0, .ref g1, .ref g2, .ref g3, .ref g4, .ref g5, .ref g6, .ref g7, .int (nI ss), .double ag], cN g2 cI 12 (va_up ec fr (ec fr - 1)), cN g3 cI 144 (va_up (shl tg (fr * 12 + plc ec tg fr to) i) ((fr * 12) + (plc ec tg fr to + i)) ((shl tg (fr * 12 + plc ec tg fr to) i) (((fr * 12) + (plc ec tg fr to + i)) + 1))), cD g4 cF 144 (va_up (shl le (fr * 12 + plc ec tg fr to) i) ((fr * 12) + (plc ec tg fr to + i)) ((shl le (fr * 12 + plc ec tg fr to) i) (((fr * 12) + (plc ec tg fr to + i)) + 1)))] := hD
          refine nw_iinc (x := (plc ec tg fr to + i)) (d := 1) (lv' := [(5, .int (nI (plc ec tg fr to + i + 1))), (0, .ref g), (1, .int (nI fr)), (2, .int (nI to)), (3, .int (nI (plc ec tg fr to))), (4, .int (nI (fr * 12)))]) hx hb d_G_cutEdge_93 hl (k := 5) rfl (by decide) rfl (fun ls hl => ?_)
          refine lv_goto (tgt := 38) hx hb d_G_cutEdge_96 (by decide) ?_
          exact ih_38 (i + 1) (by omega) (by omega)  _ _ _ (nEqP (ws := [cO g 0 [.ref g0, .ref g1, .ref g2, .ref g3, .ref g4, .ref g5, .ref g6, .ref g7, .int (nI ss), .double ag], cN g2 cI 12 (va_up ec fr (ec fr - 1)), cN g3 cI 144 (va_up (shl tg (fr * 12 + plc ec tg fr to) i) ((fr * 12) + (plc ec tg fr to + i)) ((shl tg (fr * 12 + plc ec tg fr to) i) (((fr * 12) + (plc ec tg fr to + i)) + 1))), cD g4 cF 144 (va_up (shl le (fr * 12 + plc ec tg fr to) i) ((fr * 12) + (plc ec tg fr to + i)) ((shl le (fr * 12 + plc ec tg fr to) i) (((fr * 12) + (plc ec tg fr to + i)) + 1)))]) (by simp only [shl, Nat.add_assoc]) hP) (nEqD (ws := [cO g 0 [.ref g0, .ref g1, .ref g2, .ref g3, .ref g4, .ref g5, .ref g6, .ref g7, .int (nI ss), .double ag], cN g2 cI 12 (va_up ec fr (ec fr - 1)), cN g3 cI 144 (va_up (shl tg (fr * 12 + plc ec tg fr to) i) ((fr * 12) + (plc ec tg fr to + i)) ((shl tg (fr * 12 + plc ec tg fr to) i) (((fr * 12) + (plc ec tg fr to + i)) + 1))), cD g4 cF 144 (va_up (shl le (fr * 12 + plc ec tg fr to) i) ((fr * 12) + (plc ec tg fr to + i)) ((shl le (fr * 12 + plc ec tg fr to) i) (((fr * 12) + (plc ec tg fr to + i)) + 1)))]) (by simp only [shl, Nat.add_assoc]) hD) hS (lv_sub (l' := [(0, .ref g), (1, .int (nI fr)), (2, .int (nI to)), (3, .int (nI (plc ec tg fr to))), (4, .int (nI (fr * 12))), (5, .int (nI (plc ec tg fr to + i + 1)))]) hl [1, 2, 3, 4, 5, 0] rfl)
    exact loop_38 (ec fr - 1 - plc ec tg fr to + 1) 0 (by omega) (by omega)  _ _ _ (hP.sub (ws' := [cO g 0 [.ref g0, .ref g1, .ref g2, .ref g3, .ref g4, .ref g5, .ref g6, .ref g7, .int (nI ss), .double ag], cN g2 cI 12 (va_up ec fr ((ec fr) - 1)), cN g3 cI 144 tg, cD g4 cF 144 le]) [1, 2, 3, 0] rfl) (hD.sub (ws' := [cO g 0 [.ref g0, .ref g1, .ref g2, .ref g3, .ref g4, .ref g5, .ref g6, .ref g7, .int (nI ss), .double ag], cN g2 cI 12 (va_up ec fr ((ec fr) - 1)), cN g3 cI 144 tg, cD g4 cF 144 le]) [1, 2, 3, 0] (by decide) rfl) hS (lv_sub (l' := [(0, .ref g), (1, .int (nI fr)), (2, .int (nI to)), (3, .int (nI (plc ec tg fr to))), (4, .int (nI (fr * 12))), (5, .int (nI (plc ec tg fr to)))]) hl [3, 4, 5, 2, 1, 0] rfl)
  · refine lv_iconst (v := bI false) hx hb d_G_cutEdge_17 (by decide +kernel) ?_
    have hP : va_P D CL [cO g 0 [.ref g0, .ref g1, .ref g2, .ref g3, .ref g4, .ref g5, .ref g6, .ref g7, .int (nI ss), .double ag], cN g2 cI 12 ec, cN g3 cI 144 tg, cD g4 cF 144 le] H := hP.sub [1, 2, 3, 0] rfl
    have hD : va_D A [cO g 0 [.ref g0, .ref g1, .ref g2, .ref g3, .ref g4, .ref g5, .ref g6, .ref g7, .int (nI ss), .double ag], cN g2 cI 12 ec, cN g3 cI 144 tg, cD g4 cF 144 le] := hD.sub [1, 2, 3, 0] (by decide) rfl
    exact nr_b hx hb hr hlocks hK hP hD hS (by simp [cutR, h_14]) (by simp [cutEc, cutF, h_14]) d_G_cutEdge_18

set_option maxHeartbeats 4000000 in
set_option maxRecDepth 100000 in
/-- a vertex goes, and the edges to it -/
theorem c_G_drop (l : Launch) (D : va_G) (cZ : Nat) (cI : Nat) (cF : Nat) (g : Nat) (g0 : Nat) (g1 : Nat) (g2 : Nat) (g3 : Nat) (g4 : Nat) (g5 : Nat) (g6 : Nat) (g7 : Nat) (ss : Nat) (ag : UInt64) (th : Nat → Bool) (ec : Nat → Nat) (tg : Nat → Nat) (le : Nat → UInt64) (aw : Nat → Bool) (mc : Nat → Nat) (v : Nat) (sz : Nat) (hv : v < 12) (hE : ∀ j, ec j ≤ 12) (hT : ∀ j, tg j < 12) : MVi l y_G_drop w_G_drop ({ frames := 2, cells := 0, slots := 0, locals := 48 } : Room) D CL [(cZ, .boolean), (cI, .int), (cF, .double)] [.ref g, .int (nI v)] [cO g 0 [.ref g0, .ref g1, .ref g2, .ref g3, .ref g4, .ref g5, .ref g6, .ref g7, .int (nI ss), .double ag], cB g0 cZ 12 th, cN g2 cI 12 ec, cN g3 cI 144 tg, cD g4 cF 144 le, cB g5 cZ 12 aw, cN g6 cI 12 mc] sz (nI (dropC (va_up ec v 0) tg le v 12)) [cO g 0 [.ref g0, .ref g1, .ref g2, .ref g3, .ref g4, .ref g5, .ref g6, .ref g7, .int (nI ss), .double ag], cB g0 cZ 12 (va_up th v false), cN g2 cI 12 ((dropS (va_up ec v 0) tg le v 12).1), cN g3 cI 144 ((dropS (va_up ec v 0) tg le v 12).2.1), cD g4 cF 144 ((dropS (va_up ec v 0) tg le v 12).2.2), cB g5 cZ 12 (va_up aw v false), cN g6 cI 12 (va_up mc v 0)] := by
  refine nm_i (cc := b_G_drop) (maxL := 4) (by decide) rfl (Nat.le_of_ble_eq_true rfl) ?_
  intro p e s m below meth c A ls H C hP hD hS hl
  obtain ⟨hx, hb, hr, hml, hown, hts, hlocks, hA, hK, hX⟩ := C
  have hl : lv_has ls 4 [(0, .ref g), (1, .int (nI v))] := hl
  refine lv_aload_n hx hb d_G_drop_0 rfl (lv_at hl 0 rfl) ?_
  refine va_get (ci := 0) (v := .ref g0) (C := "PulseGraph$Graph") (T := T_G) (N := 10) hx hb hts (fun w h => List.mem_cons_of_mem _ (inW_G w h)) hown hK hP 0 rfl rfl 0 (by decide) (hts _ (List.mem_cons_of_mem _ mw_29)) (fun _ h9 => h9) rfl d_G_drop_1 ?_
  refine lv_iload_n hx hb d_G_drop_4 rfl (lv_at hl 1 rfl) ?_
  refine lv_iconst (v := bI false) hx hb d_G_drop_5 (by decide +kernel) ?_
  refine nw_bast (f := th) hx hb hK hP hD hS 1 0 rfl rfl (i := v) (x := false) (by omega) (by decide) d_G_drop_6 (fun H locs hP hD hS => ?_)
  have hP : va_P D CL [cO g 0 [.ref g0, .ref g1, .ref g2, .ref g3, .ref g4, .ref g5, .ref g6, .ref g7, .int (nI ss), .double ag], cB g0 cZ 12 (va_up th v false), cN g2 cI 12 ec, cN g3 cI 144 tg, cD g4 cF 144 le, cB g5 cZ 12 aw, cN g6 cI 12 mc] H := hP
  have hD : va_D A [cO g 0 [.ref g0, .ref g1, .ref g2, .ref g3, .ref g4, .ref g5, .ref g6, .ref g7, .int (nI ss), .double ag], cB g0 cZ 12 (va_up th v false), cN g2 cI 12 ec, cN g3 cI 144 tg, cD g4 cF 144 le, cB g5 cZ 12 aw, cN g6 cI 12 mc] := hD
  refine lv_aload_n hx hb d_G_drop_7 rfl (lv_at hl 0 rfl) ?_
  refine va_get (ci := 0) (v := .ref g5) (C := "PulseGraph$Graph") (T := T_G) (N := 10) hx hb hts (fun w h => List.mem_cons_of_mem _ (inW_G w h)) hown hK hP 0 rfl rfl 5 (by decide) (hts _ (List.mem_cons_of_mem _ mw_41)) (fun _ h9 => h9) rfl d_G_drop_8 ?_
  refine lv_iload_n hx hb d_G_drop_11 rfl (lv_at hl 1 rfl) ?_
  refine lv_iconst (v := bI false) hx hb d_G_drop_12 (by decide +kernel) ?_
  refine nw_bast (f := aw) hx hb hK hP hD hS 5 0 rfl rfl (i := v) (x := false) (by omega) (by decide) d_G_drop_13 (fun H locs hP hD hS => ?_)
  have hP : va_P D CL [cO g 0 [.ref g0, .ref g1, .ref g2, .ref g3, .ref g4, .ref g5, .ref g6, .ref g7, .int (nI ss), .double ag], cB g0 cZ 12 (va_up th v false), cN g2 cI 12 ec, cN g3 cI 144 tg, cD g4 cF 144 le, cB g5 cZ 12 (va_up aw v false), cN g6 cI 12 mc] H := hP
  have hD : va_D A [cO g 0 [.ref g0, .ref g1, .ref g2, .ref g3, .ref g4, .ref g5, .ref g6, .ref g7, .int (nI ss), .double ag], cB g0 cZ 12 (va_up th v false), cN g2 cI 12 ec, cN g3 cI 144 tg, cD g4 cF 144 le, cB g5 cZ 12 (va_up aw v false), cN g6 cI 12 mc] := hD
  refine lv_aload_n hx hb d_G_drop_14 rfl (lv_at hl 0 rfl) ?_
  refine va_get (ci := 0) (v := .ref g2) (C := "PulseGraph$Graph") (T := T_G) (N := 10) hx hb hts (fun w h => List.mem_cons_of_mem _ (inW_G w h)) hown hK hP 0 rfl rfl 2 (by decide) (hts _ (List.mem_cons_of_mem _ mw_34)) (fun _ h9 => h9) rfl d_G_drop_15 ?_
  refine lv_iload_n hx hb d_G_drop_18 rfl (lv_at hl 1 rfl) ?_
  refine lv_iconst (v := nI 0) hx hb d_G_drop_19 (by decide +kernel) ?_
  refine nw_nast (f := ec) hx hb hK hP hD hS 2 1 rfl rfl (i := v) (x := 0) (by omega) (by decide) d_G_drop_20 (fun H locs hP hD hS => ?_)
  have hP : va_P D CL [cO g 0 [.ref g0, .ref g1, .ref g2, .ref g3, .ref g4, .ref g5, .ref g6, .ref g7, .int (nI ss), .double ag], cB g0 cZ 12 (va_up th v false), cN g2 cI 12 (va_up ec v 0), cN g3 cI 144 tg, cD g4 cF 144 le, cB g5 cZ 12 (va_up aw v false), cN g6 cI 12 mc] H := hP
  have hD : va_D A [cO g 0 [.ref g0, .ref g1, .ref g2, .ref g3, .ref g4, .ref g5, .ref g6, .ref g7, .int (nI ss), .double ag], cB g0 cZ 12 (va_up th v false), cN g2 cI 12 (va_up ec v 0), cN g3 cI 144 tg, cD g4 cF 144 le, cB g5 cZ 12 (va_up aw v false), cN g6 cI 12 mc] := hD
  refine lv_aload_n hx hb d_G_drop_21 rfl (lv_at hl 0 rfl) ?_
  refine va_get (ci := 0) (v := .ref g6) (C := "PulseGraph$Graph") (T := T_G) (N := 10) hx hb hts (fun w h => List.mem_cons_of_mem _ (inW_G w h)) hown hK hP 0 rfl rfl 6 (by decide) (hts _ (List.mem_cons_of_mem _ mw_44)) (fun _ h9 => h9) rfl d_G_drop_22 ?_
  refine lv_iload_n hx hb d_G_drop_25 rfl (lv_at hl 1 rfl) ?_
  refine lv_iconst (v := nI 0) hx hb d_G_drop_26 (by decide +kernel) ?_
  refine nw_nast (f := mc) hx hb hK hP hD hS 6 1 rfl rfl (i := v) (x := 0) (by omega) (by decide) d_G_drop_27 (fun H locs hP hD hS => ?_)
  have hP : va_P D CL [cO g 0 [.ref g0, .ref g1, .ref g2, .ref g3, .ref g4, .ref g5, .ref g6, .ref g7, .int (nI ss), .double ag], cB g0 cZ 12 (va_up th v false), cN g2 cI 12 (va_up ec v 0), cN g3 cI 144 tg, cD g4 cF 144 le, cB g5 cZ 12 (va_up aw v false), cN g6 cI 12 (va_up mc v 0)] H := hP
  have hD : va_D A [cO g 0 [.ref g0, .ref g1, .ref g2, .ref g3, .ref g4, .ref g5, .ref g6, .ref g7, .int (nI ss), .double ag], cB g0 cZ 12 (va_up th v false), cN g2 cI 12 (va_up ec v 0), cN g3 cI 144 tg, cD g4 cF 144 le, cB g5 cZ 12 (va_up aw v false), cN g6 cI 12 (va_up mc v 0)] := hD
  refine lv_iconst (v := nI 0) hx hb d_G_drop_28 (by decide +kernel) ?_
  refine lv_istore_n (lv' := [(2, .int (nI 0)), (0, .ref g), (1, .int (nI v))]) hx hb d_G_drop_29 rfl hl (by decide) rfl (fun ls hl => ?_)
  refine lv_iconst (v := nI 0) hx hb d_G_drop_30 (by decide +kernel) ?_
  refine lv_istore_n (lv' := [(3, .int (nI 0)), (2, .int (nI 0)), (0, .ref g), (1, .int (nI v))]) hx hb d_G_drop_31 rfl hl (by decide) rfl (fun ls hl => ?_)
  have loop_32 : ∀ (n_32 i : Nat), i ≤ 12 → 12 < i + n_32 → ∀ (H : Heap) (locs : List Loc) (ls : Array Slot), va_P D CL [cO g 0 [.ref g0, .ref g1, .ref g2, .ref g3, .ref g4, .ref g5, .ref g6, .ref g7, .int (nI ss), .double ag], cB g0 cZ 12 (va_up th v false), cN g2 cI 12 ((dropS (va_up ec v 0) tg le v i).1), cN g3 cI 144 ((dropS (va_up ec v 0) tg le v i).2.1), cD g4 cF 144 ((dropS (va_up ec v 0) tg le v i).2.2), cB g5 cZ 12 (va_up aw v false), cN g6 cI 12 (va_up mc v 0)] H → va_D A [cO g 0 [.ref g0, .ref g1, .ref g2, .ref g3, .ref g4, .ref g5, .ref g6, .ref g7, .int (nI ss), .double ag], cB g0 cZ 12 (va_up th v false), cN g2 cI 12 ((dropS (va_up ec v 0) tg le v i).1), cN g3 cI 144 ((dropS (va_up ec v 0) tg le v i).2.1), cD g4 cF 144 ((dropS (va_up ec v 0) tg le v i).2.2), cB g5 cZ 12 (va_up aw v false), cN g6 cI 12 (va_up mc v 0)] → va_S A s.heap H locs → lv_has ls 4 [(0, .ref g), (1, .int (nI v)), (2, .int (nI (dropC (va_up ec v 0) tg le v i))), (3, .int (nI i))] → W p l e ({ frames := 2, cells := 0, slots := 0, locals := 48 } : Room) s m ([.ref g, .int (nI v)] : List Value).toArray below meth c H locs 0 0 (MQ below (va_Qi (fun (z : Int32) (_ : Unit) => z = nI (dropC (va_up ec v 0) tg le v 12)) (nB D CL [(cZ, .boolean), (cI, .int), (cF, .double)] [cO g 0 [.ref g0, .ref g1, .ref g2, .ref g3, .ref g4, .ref g5, .ref g6, .ref g7, .int (nI ss), .double ag], cB g0 cZ 12 (va_up th v false), cN g2 cI 12 ((dropS (va_up ec v 0) tg le v 12).1), cN g3 cI 144 ((dropS (va_up ec v 0) tg le v 12).2.1), cD g4 cF 144 ((dropS (va_up ec v 0) tg le v 12).2.2), cB g5 cZ 12 (va_up aw v false), cN g6 cI 12 (va_up mc v 0)] A) A) ([.ref g, .int (nI v)] : List Value).toArray s 0 0 A) (F0 m 32 ls []) := by
    intro n_32
    induction n_32 with
    | zero => intro i h1 h2; exact absurd h2 (by omega)
    | succ n_32 ih_32 =>
      intro i hi_32 hn_32   H locs ls hP hD hS hl
      refine lv_iload_n hx hb d_G_drop_32 rfl (lv_at hl 3 rfl) ?_
      refine lv_bipush (v := nI 12) hx hb d_G_drop_33 (by decide +kernel) ?_
      refine nw_ge (x := i) (y := 12) (tgt := 56) hx hb (by omega) (by omega) d_G_drop_35 (by decide) (fun h_35 => ?_) (fun h_35 => ?_)
      · obtain rfl : i = 12 := by omega
        refine lv_iload_n hx hb d_G_drop_56 rfl (lv_at hl 2 rfl) ?_
        exact nr_i hx hb hr hlocks hK hP hD hS rfl rfl d_G_drop_57
      · have hI := dropS_inv (v := v) (le := le) (va_up_all (P := fun z => z ≤ 12) (k := v) hE (Nat.zero_le 12)) hT i
        refine lv_aload_n hx hb d_G_drop_38 rfl (lv_at hl 0 rfl) ?_
        refine lv_iload_n hx hb d_G_drop_39 rfl (lv_at hl 3 rfl) ?_
        refine lv_iload_n hx hb d_G_drop_40 rfl (lv_at hl 1 rfl) ?_
        refine nc_i (wc := [cO g 0 [.ref g0, .ref g1, .ref g2, .ref g3, .ref g4, .ref g5, .ref g6, .ref g7, .int (nI ss), .double ag], cN g2 cI 12 ((dropS (va_up ec v 0) tg le v i).1), cN g3 cI 144 ((dropS (va_up ec v 0) tg le v i).2.1), cD g4 cF 144 ((dropS (va_up ec v 0) tg le v i).2.2)]) (wr := [cB g0 cZ 12 (va_up th v false), cB g5 cZ 12 (va_up aw v false), cN g6 cI 12 (va_up mc v 0)]) (w1 := [cO g 0 [.ref g0, .ref g1, .ref g2, .ref g3, .ref g4, .ref g5, .ref g6, .ref g7, .int (nI ss), .double ag], cN g2 cI 12 (cutEc ((dropS (va_up ec v 0) tg le v i).1) ((dropS (va_up ec v 0) tg le v i).2.1) i v), cN g3 cI 144 (cutF ((dropS (va_up ec v 0) tg le v i).1) ((dropS (va_up ec v 0) tg le v i).2.1) ((dropS (va_up ec v 0) tg le v i).2.1) i v), cD g4 cF 144 (cutF ((dropS (va_up ec v 0) tg le v i).1) ((dropS (va_up ec v 0) tg le v i).2.1) ((dropS (va_up ec v 0) tg le v i).2.2) i v)]) (va_runV (As := [.int (nI i), .int (nI v)]) (rest := []) ⟨hx, hb, hml, hown, hts⟩ (c_G_cutEdge l D cZ cI cF g g0 g1 g2 g3 g4 g5 g6 g7 ss ag ((dropS (va_up ec v 0) tg le v i).1) ((dropS (va_up ec v 0) tg le v i).2.1) ((dropS (va_up ec v 0) tg le v i).2.2) i v H.size h_35 (by omega) (hI.1 i) (fun j _ => Nat.lt_trans (hI.2 _) (by decide))) (cwV 2 hts (gi_V mw_312 mw_309 mw_311 (WA_s 3 (by decide +kernel) (by decide +kernel)) mw_2) rfl rfl rfl (by decide +kernel) ⟨Nat.le_of_ble_eq_true rfl, Nat.le_of_ble_eq_true rfl⟩) ⟨nPre_blind, va_recv hK hP (ci := 0) (q0 := 0) rfl rfl, nPre_of (wc := [cO g 0 [.ref g0, .ref g1, .ref g2, .ref g3, .ref g4, .ref g5, .ref g6, .ref g7, .int (nI ss), .double ag], cN g2 cI 12 ((dropS (va_up ec v 0) tg le v i).1), cN g3 cI 144 ((dropS (va_up ec v 0) tg le v i).2.1), cD g4 cF 144 ((dropS (va_up ec v 0) tg le v i).2.2)]) hP hD hK hX hS hA [0, 2, 3, 4] (by decide) rfl rfl⟩ rfl rfl hl.1 rfl (lv_room (Nat.le_of_ble_eq_true rfl)) d_G_drop_41 ⟨Nat.zero_le _, Nat.zero_le _⟩) hP hD hS hA [0, 2, 3, 4] [1, 5, 6] rfl rfl (by decide) (by decide) (fun H locs hP hD hS => ?_)
        have hP : va_P D CL [cB g0 cZ 12 (va_up th v false), cB g5 cZ 12 (va_up aw v false), cN g6 cI 12 (va_up mc v 0), cO g 0 [.ref g0, .ref g1, .ref g2, .ref g3, .ref g4, .ref g5, .ref g6, .ref g7, .int (nI ss), .double ag], cN g2 cI 12 (cutEc ((dropS (va_up ec v 0) tg le v i).1) ((dropS (va_up ec v 0) tg le v i).2.1) i v), cN g3 cI 144 (cutF ((dropS (va_up ec v 0) tg le v i).1) ((dropS (va_up ec v 0) tg le v i).2.1) ((dropS (va_up ec v 0) tg le v i).2.1) i v), cD g4 cF 144 (cutF ((dropS (va_up ec v 0) tg le v i).1) ((dropS (va_up ec v 0) tg le v i).2.1) ((dropS (va_up ec v 0) tg le v i).2.2) i v)] H := hP
        have hD : va_D A [cB g0 cZ 12 (va_up th v false), cB g5 cZ 12 (va_up aw v false), cN g6 cI 12 (va_up mc v 0), cO g 0 [.ref g0, .ref g1, .ref g2, .ref g3, .ref g4, .ref g5, .ref g6, .ref g7, .int (nI ss), .double ag], cN g2 cI 12 (cutEc ((dropS (va_up ec v 0) tg le v i).1) ((dropS (va_up ec v 0) tg le v i).2.1) i v), cN g3 cI 144 (cutF ((dropS (va_up ec v 0) tg le v i).1) ((dropS (va_up ec v 0) tg le v i).2.1) ((dropS (va_up ec v 0) tg le v i).2.1) i v), cD g4 cF 144 (cutF ((dropS (va_up ec v 0) tg le v i).1) ((dropS (va_up ec v 0) tg le v i).2.1) ((dropS (va_up ec v 0) tg le v i).2.2) i v)] := hD
        refine nw_bf (x := (cutR ((dropS (va_up ec v 0) tg le v i).1) ((dropS (va_up ec v 0) tg le v i).2.1) i v)) (tgt := 50) hx hb d_G_drop_44 (by decide) (fun h_44 => ?_) (fun h_44 => ?_)
        · refine nw_iinc (x := i) (d := 1) (lv' := [(3, .int (nI (i + 1))), (0, .ref g), (1, .int (nI v)), (2, .int (nI (dropC (va_up ec v 0) tg le v i)))]) hx hb d_G_drop_50 hl (k := 3) rfl (by decide) rfl (fun ls hl => ?_)
          refine lv_goto (tgt := 32) hx hb d_G_drop_53 (by decide) ?_
          exact ih_32 (i + 1) (by omega) (by omega)  _ _ _ (hP.sub (ws' := [cO g 0 [.ref g0, .ref g1, .ref g2, .ref g3, .ref g4, .ref g5, .ref g6, .ref g7, .int (nI ss), .double ag], cB g0 cZ 12 (va_up th v false), cN g2 cI 12 (cutEc ((dropS (va_up ec v 0) tg le v i).1) ((dropS (va_up ec v 0) tg le v i).2.1) i v), cN g3 cI 144 (cutF ((dropS (va_up ec v 0) tg le v i).1) ((dropS (va_up ec v 0) tg le v i).2.1) ((dropS (va_up ec v 0) tg le v i).2.1) i v), cD g4 cF 144 (cutF ((dropS (va_up ec v 0) tg le v i).1) ((dropS (va_up ec v 0) tg le v i).2.1) ((dropS (va_up ec v 0) tg le v i).2.2) i v), cB g5 cZ 12 (va_up aw v false), cN g6 cI 12 (va_up mc v 0)]) [3, 0, 4, 5, 6, 1, 2] rfl) (hD.sub (ws' := [cO g 0 [.ref g0, .ref g1, .ref g2, .ref g3, .ref g4, .ref g5, .ref g6, .ref g7, .int (nI ss), .double ag], cB g0 cZ 12 (va_up th v false), cN g2 cI 12 (cutEc ((dropS (va_up ec v 0) tg le v i).1) ((dropS (va_up ec v 0) tg le v i).2.1) i v), cN g3 cI 144 (cutF ((dropS (va_up ec v 0) tg le v i).1) ((dropS (va_up ec v 0) tg le v i).2.1) ((dropS (va_up ec v 0) tg le v i).2.1) i v), cD g4 cF 144 (cutF ((dropS (va_up ec v 0) tg le v i).1) ((dropS (va_up ec v 0) tg le v i).2.1) ((dropS (va_up ec v 0) tg le v i).2.2) i v), cB g5 cZ 12 (va_up aw v false), cN g6 cI 12 (va_up mc v 0)]) [3, 0, 4, 5, 6, 1, 2] (by decide) rfl) hS (nEqL (l := [(0, .ref g), (1, .int (nI v)), (2, .int (nI (dropC (va_up ec v 0) tg le v i))), (3, .int (nI (i + 1)))]) (by simp [dropC, h_44]) (lv_sub (l' := [(0, .ref g), (1, .int (nI v)), (2, .int (nI (dropC (va_up ec v 0) tg le v i))), (3, .int (nI (i + 1)))]) hl [1, 2, 3, 0] rfl))
        · refine nw_iinc (x := (dropC (va_up ec v 0) tg le v i)) (d := 1) (lv' := [(2, .int (nI (dropC (va_up ec v 0) tg le v i + 1))), (0, .ref g), (1, .int (nI v)), (3, .int (nI i))]) hx hb d_G_drop_47 hl (k := 2) rfl (by decide) rfl (fun ls hl => ?_)
          refine nw_iinc (x := i) (d := 1) (lv' := [(3, .int (nI (i + 1))), (2, .int (nI (dropC (va_up ec v 0) tg le v i + 1))), (0, .ref g), (1, .int (nI v))]) hx hb d_G_drop_50 hl (k := 3) rfl (by decide) rfl (fun ls hl => ?_)
          refine lv_goto (tgt := 32) hx hb d_G_drop_53 (by decide) ?_
          exact ih_32 (i + 1) (by omega) (by omega)  _ _ _ (hP.sub (ws' := [cO g 0 [.ref g0, .ref g1, .ref g2, .ref g3, .ref g4, .ref g5, .ref g6, .ref g7, .int (nI ss), .double ag], cB g0 cZ 12 (va_up th v false), cN g2 cI 12 (cutEc ((dropS (va_up ec v 0) tg le v i).1) ((dropS (va_up ec v 0) tg le v i).2.1) i v), cN g3 cI 144 (cutF ((dropS (va_up ec v 0) tg le v i).1) ((dropS (va_up ec v 0) tg le v i).2.1) ((dropS (va_up ec v 0) tg le v i).2.1) i v), cD g4 cF 144 (cutF ((dropS (va_up ec v 0) tg le v i).1) ((dropS (va_up ec v 0) tg le v i).2.1) ((dropS (va_up ec v 0) tg le v i).2.2) i v), cB g5 cZ 12 (va_up aw v false), cN g6 cI 12 (va_up mc v 0)]) [3, 0, 4, 5, 6, 1, 2] rfl) (hD.sub (ws' := [cO g 0 [.ref g0, .ref g1, .ref g2, .ref g3, .ref g4, .ref g5, .ref g6, .ref g7, .int (nI ss), .double ag], cB g0 cZ 12 (va_up th v false), cN g2 cI 12 (cutEc ((dropS (va_up ec v 0) tg le v i).1) ((dropS (va_up ec v 0) tg le v i).2.1) i v), cN g3 cI 144 (cutF ((dropS (va_up ec v 0) tg le v i).1) ((dropS (va_up ec v 0) tg le v i).2.1) ((dropS (va_up ec v 0) tg le v i).2.1) i v), cD g4 cF 144 (cutF ((dropS (va_up ec v 0) tg le v i).1) ((dropS (va_up ec v 0) tg le v i).2.1) ((dropS (va_up ec v 0) tg le v i).2.2) i v), cB g5 cZ 12 (va_up aw v false), cN g6 cI 12 (va_up mc v 0)]) [3, 0, 4, 5, 6, 1, 2] (by decide) rfl) hS (nEqL (l := [(0, .ref g), (1, .int (nI v)), (2, .int (nI (dropC (va_up ec v 0) tg le v i + 1))), (3, .int (nI (i + 1)))]) (by simp [dropC, h_44]) (lv_sub (l' := [(0, .ref g), (1, .int (nI v)), (2, .int (nI (dropC (va_up ec v 0) tg le v i + 1))), (3, .int (nI (i + 1)))]) hl [2, 3, 1, 0] rfl))
  exact loop_32 (12 + 1) 0 (by omega) (by omega)  _ _ _ hP hD hS (lv_sub (l' := [(0, .ref g), (1, .int (nI v)), (2, .int (nI 0)), (3, .int (nI 0))]) hl [2, 3, 1, 0] rfl)

set_option maxHeartbeats 4000000 in
set_option maxRecDepth 100000 in
/-- the values and the mail of a worker go -/
theorem c_G_wipe (l : Launch) (D : va_G) (cZ : Nat) (cI : Nat) (cF : Nat) (g : Nat) (g0 : Nat) (g1 : Nat) (g2 : Nat) (g3 : Nat) (g4 : Nat) (g5 : Nat) (g6 : Nat) (g7 : Nat) (ss : Nat) (ag : UInt64) (th : Nat → Bool) (va : Nat → UInt64) (mc : Nat → Nat) (wk : Nat) (sz : Nat) (hw : wk < 3) : MVi l y_G_wipe w_G_wipe ({ frames := 0, cells := 0, slots := 0, locals := 0 } : Room) D CL [(cZ, .boolean), (cI, .int), (cF, .double)] [.ref g, .int (nI wk)] [cO g 0 [.ref g0, .ref g1, .ref g2, .ref g3, .ref g4, .ref g5, .ref g6, .ref g7, .int (nI ss), .double ag], cB g0 cZ 12 th, cD g1 cF 12 va, cN g6 cI 12 mc] sz (nI (wipC th wk 4)) [cO g 0 [.ref g0, .ref g1, .ref g2, .ref g3, .ref g4, .ref g5, .ref g6, .ref g7, .int (nI ss), .double ag], cB g0 cZ 12 th, cD g1 cF 12 (wipF th FP.dconst0 va wk 4), cN g6 cI 12 (wipF th 0 mc wk 4)] := by
  refine nm_i (cc := b_G_wipe) (maxL := 4) (by decide) rfl (Nat.le_of_ble_eq_true rfl) ?_
  intro p e s m below meth c A ls H C hP hD hS hl
  obtain ⟨hx, hb, hr, hml, hown, hts, hlocks, hA, hK, hX⟩ := C
  have hl : lv_has ls 4 [(0, .ref g), (1, .int (nI wk))] := hl
  refine lv_iconst (v := nI 0) hx hb d_G_wipe_0 (by decide +kernel) ?_
  refine lv_istore_n (lv' := [(2, .int (nI 0)), (0, .ref g), (1, .int (nI wk))]) hx hb d_G_wipe_1 rfl hl (by decide) rfl (fun ls hl => ?_)
  refine lv_iload_n hx hb d_G_wipe_2 rfl (lv_at hl 2 rfl) ?_
  refine lv_istore_n (lv' := [(3, .int (nI wk)), (2, .int (nI 0)), (0, .ref g), (1, .int (nI wk))]) hx hb d_G_wipe_3 rfl hl (by decide) rfl (fun ls hl => ?_)
  have loop_4 : ∀ (n_4 i : Nat), i ≤ 4 → 4 < i + n_4 → ∀ (H : Heap) (locs : List Loc) (ls : Array Slot), va_P D CL [cO g 0 [.ref g0, .ref g1, .ref g2, .ref g3, .ref g4, .ref g5, .ref g6, .ref g7, .int (nI ss), .double ag], cB g0 cZ 12 th, cD g1 cF 12 (wipF th FP.dconst0 va wk i), cN g6 cI 12 (wipF th 0 mc wk i)] H → va_D A [cO g 0 [.ref g0, .ref g1, .ref g2, .ref g3, .ref g4, .ref g5, .ref g6, .ref g7, .int (nI ss), .double ag], cB g0 cZ 12 th, cD g1 cF 12 (wipF th FP.dconst0 va wk i), cN g6 cI 12 (wipF th 0 mc wk i)] → va_S A s.heap H locs → lv_has ls 4 [(0, .ref g), (1, .int (nI wk)), (2, .int (nI (wipC th wk i))), (3, .int (nI (wk + 3 * i)))] → W p l e ({ frames := 0, cells := 0, slots := 0, locals := 0 } : Room) s m ([.ref g, .int (nI wk)] : List Value).toArray below meth c H locs 0 0 (MQ below (va_Qi (fun (z : Int32) (_ : Unit) => z = nI (wipC th wk 4)) (nB D CL [(cZ, .boolean), (cI, .int), (cF, .double)] [cO g 0 [.ref g0, .ref g1, .ref g2, .ref g3, .ref g4, .ref g5, .ref g6, .ref g7, .int (nI ss), .double ag], cB g0 cZ 12 th, cD g1 cF 12 (wipF th FP.dconst0 va wk 4), cN g6 cI 12 (wipF th 0 mc wk 4)] A) A) ([.ref g, .int (nI wk)] : List Value).toArray s 0 0 A) (F0 m 4 ls []) := by
    intro n_4
    induction n_4 with
    | zero => intro i h1 h2; exact absurd h2 (by omega)
    | succ n_4 ih_4 =>
      intro i hi_4 hn_4   H locs ls hP hD hS hl
      refine lv_iload_n hx hb d_G_wipe_4 rfl (lv_at hl 3 rfl) ?_
      refine lv_bipush (v := nI 12) hx hb d_G_wipe_5 (by decide +kernel) ?_
      refine nw_ge (x := (wk + 3 * i)) (y := 12) (tgt := 42) hx hb (by omega) (by omega) d_G_wipe_7 (by decide) (fun h_7 => ?_) (fun h_7 => ?_)
      · obtain rfl : i = 4 := by omega
        refine lv_iload_n hx hb d_G_wipe_42 rfl (lv_at hl 2 rfl) ?_
        exact nr_i hx hb hr hlocks hK hP hD hS rfl rfl d_G_wipe_43
      · refine lv_aload_n hx hb d_G_wipe_10 rfl (lv_at hl 0 rfl) ?_
        refine va_get (ci := 0) (v := .ref g0) (C := "PulseGraph$Graph") (T := T_G) (N := 10) hx hb hts (fun w h => List.mem_cons_of_mem _ (inW_G w h)) hown hK hP 0 rfl rfl 0 (by decide) (hts _ (List.mem_cons_of_mem _ mw_29)) (fun _ h9 => h9) rfl d_G_wipe_11 ?_
        refine lv_iload_n hx hb d_G_wipe_14 rfl (lv_at hl 3 rfl) ?_
        refine nw_bald (f := th) hx hb hK hP 1 0 rfl rfl (i := (wk + 3 * i)) (by omega) (by decide) d_G_wipe_15 ?_
        refine nw_bf (x := (th (wk + 3 * i))) (tgt := 36) hx hb d_G_wipe_16 (by decide) (fun h_16 => ?_) (fun h_16 => ?_)
        · refine nw_iinc (x := (wk + 3 * i)) (d := 3) (lv' := [(3, .int (nI (wk + 3 * i + 3))), (0, .ref g), (1, .int (nI wk)), (2, .int (nI (wipC th wk i)))]) hx hb d_G_wipe_36 hl (k := 3) rfl (by decide) rfl (fun ls hl => ?_)
          refine lv_goto (tgt := 4) hx hb d_G_wipe_39 (by decide) ?_
          exact ih_4 (i + 1) (by omega) (by omega)  _ _ _ (nEqP (ws := [cO g 0 [.ref g0, .ref g1, .ref g2, .ref g3, .ref g4, .ref g5, .ref g6, .ref g7, .int (nI ss), .double ag], cB g0 cZ 12 th, cD g1 cF 12 (wipF th FP.dconst0 va wk i), cN g6 cI 12 (wipF th 0 mc wk i)]) (by simp [wipF, h_16]) hP) (nEqD (ws := [cO g 0 [.ref g0, .ref g1, .ref g2, .ref g3, .ref g4, .ref g5, .ref g6, .ref g7, .int (nI ss), .double ag], cB g0 cZ 12 th, cD g1 cF 12 (wipF th FP.dconst0 va wk i), cN g6 cI 12 (wipF th 0 mc wk i)]) (by simp [wipF, h_16]) hD) hS (nEqL (l := [(0, .ref g), (1, .int (nI wk)), (2, .int (nI (wipC th wk i))), (3, .int (nI (wk + 3 * i + 3)))]) (by simp [wipC, h_16, Nat.mul_add, Nat.add_assoc]) (lv_sub (l' := [(0, .ref g), (1, .int (nI wk)), (2, .int (nI (wipC th wk i))), (3, .int (nI (wk + 3 * i + 3)))]) hl [1, 2, 3, 0] rfl))
        · refine lv_aload_n hx hb d_G_wipe_19 rfl (lv_at hl 0 rfl) ?_
          refine va_get (ci := 0) (v := .ref g1) (C := "PulseGraph$Graph") (T := T_G) (N := 10) hx hb hts (fun w h => List.mem_cons_of_mem _ (inW_G w h)) hown hK hP 0 rfl rfl 1 (by decide) (hts _ (List.mem_cons_of_mem _ mw_31)) (fun _ h9 => h9) rfl d_G_wipe_20 ?_
          refine lv_iload_n hx hb d_G_wipe_23 rfl (lv_at hl 3 rfl) ?_
          refine lv_dconst0 hx hb d_G_wipe_24 ?_
          refine nw_dast (f := (wipF th FP.dconst0 va wk i)) hx hb hK hP hD hS 2 2 rfl rfl (i := (wk + 3 * i)) (x := FP.dconst0) (by omega) (by decide) d_G_wipe_25 (fun H locs hP hD hS => ?_)
          have hP : va_P D CL [cO g 0 [.ref g0, .ref g1, .ref g2, .ref g3, .ref g4, .ref g5, .ref g6, .ref g7, .int (nI ss), .double ag], cB g0 cZ 12 th, cD g1 cF 12 (va_up (wipF th FP.dconst0 va wk i) (wk + 3 * i) FP.dconst0), cN g6 cI 12 (wipF th 0 mc wk i)] H := hP
          have hD : va_D A [cO g 0 [.ref g0, .ref g1, .ref g2, .ref g3, .ref g4, .ref g5, .ref g6, .ref g7, .int (nI ss), .double ag], cB g0 cZ 12 th, cD g1 cF 12 (va_up (wipF th FP.dconst0 va wk i) (wk + 3 * i) FP.dconst0), cN g6 cI 12 (wipF th 0 mc wk i)] := hD
          refine lv_aload_n hx hb d_G_wipe_26 rfl (lv_at hl 0 rfl) ?_
          refine va_get (ci := 0) (v := .ref g6) (C := "PulseGraph$Graph") (T := T_G) (N := 10) hx hb hts (fun w h => List.mem_cons_of_mem _ (inW_G w h)) hown hK hP 0 rfl rfl 6 (by decide) (hts _ (List.mem_cons_of_mem _ mw_44)) (fun _ h9 => h9) rfl d_G_wipe_27 ?_
          refine lv_iload_n hx hb d_G_wipe_30 rfl (lv_at hl 3 rfl) ?_
          refine lv_iconst (v := nI 0) hx hb d_G_wipe_31 (by decide +kernel) ?_
          refine nw_nast (f := (wipF th 0 mc wk i)) hx hb hK hP hD hS 3 1 rfl rfl (i := (wk + 3 * i)) (x := 0) (by omega) (by decide) d_G_wipe_32 (fun H locs hP hD hS => ?_)
          have hP : va_P D CL [cO g 0 [.ref g0, .ref g1, .ref g2, .ref g3, .ref g4, .ref g5, .ref g6, .ref g7, .int (nI ss), .double ag], cB g0 cZ 12 th, cD g1 cF 12 (va_up (wipF th FP.dconst0 va wk i) (wk + 3 * i) FP.dconst0), cN g6 cI 12 (va_up (wipF th 0 mc wk i) (wk + 3 * i) 0)] H := hP
          have hD : va_D A [cO g 0 [.ref g0, .ref g1, .ref g2, .ref g3, .ref g4, .ref g5, .ref g6, .ref g7, .int (nI ss), .double ag], cB g0 cZ 12 th, cD g1 cF 12 (va_up (wipF th FP.dconst0 va wk i) (wk + 3 * i) FP.dconst0), cN g6 cI 12 (va_up (wipF th 0 mc wk i) (wk + 3 * i) 0)] := hD
          refine nw_iinc (x := (wipC th wk i)) (d := 1) (lv' := [(2, .int (nI (wipC th wk i + 1))), (0, .ref g), (1, .int (nI wk)), (3, .int (nI (wk + 3 * i)))]) hx hb d_G_wipe_33 hl (k := 2) rfl (by decide) rfl (fun ls hl => ?_)
          refine nw_iinc (x := (wk + 3 * i)) (d := 3) (lv' := [(3, .int (nI (wk + 3 * i + 3))), (2, .int (nI (wipC th wk i + 1))), (0, .ref g), (1, .int (nI wk))]) hx hb d_G_wipe_36 hl (k := 3) rfl (by decide) rfl (fun ls hl => ?_)
          refine lv_goto (tgt := 4) hx hb d_G_wipe_39 (by decide) ?_
          exact ih_4 (i + 1) (by omega) (by omega)  _ _ _ (nEqP (ws := [cO g 0 [.ref g0, .ref g1, .ref g2, .ref g3, .ref g4, .ref g5, .ref g6, .ref g7, .int (nI ss), .double ag], cB g0 cZ 12 th, cD g1 cF 12 (va_up (wipF th FP.dconst0 va wk i) (wk + 3 * i) FP.dconst0), cN g6 cI 12 (va_up (wipF th 0 mc wk i) (wk + 3 * i) 0)]) (by simp [wipF, h_16]) hP) (nEqD (ws := [cO g 0 [.ref g0, .ref g1, .ref g2, .ref g3, .ref g4, .ref g5, .ref g6, .ref g7, .int (nI ss), .double ag], cB g0 cZ 12 th, cD g1 cF 12 (va_up (wipF th FP.dconst0 va wk i) (wk + 3 * i) FP.dconst0), cN g6 cI 12 (va_up (wipF th 0 mc wk i) (wk + 3 * i) 0)]) (by simp [wipF, h_16]) hD) hS (nEqL (l := [(0, .ref g), (1, .int (nI wk)), (2, .int (nI (wipC th wk i + 1))), (3, .int (nI (wk + 3 * i + 3)))]) (by simp [wipC, h_16, Nat.mul_add, Nat.add_assoc]) (lv_sub (l' := [(0, .ref g), (1, .int (nI wk)), (2, .int (nI (wipC th wk i + 1))), (3, .int (nI (wk + 3 * i + 3)))]) hl [2, 3, 1, 0] rfl))
  exact loop_4 (4 + 1) 0 (by omega) (by omega)  _ _ _ hP hD hS (lv_sub (l' := [(0, .ref g), (1, .int (nI wk)), (2, .int (nI 0)), (3, .int (nI wk))]) hl [2, 3, 1, 0] rfl)

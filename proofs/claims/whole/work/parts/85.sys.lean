set_option maxHeartbeats 4000000 in
set_option maxRecDepth 100000 in
/-- mail of a vertex, none if idle -/
theorem c_S_mailFor (l : Launch) (D : va_G) (cZ : Nat) (cI : Nat) (cF : Nat) (a : Nat) (st : Nat) (hc : Bool) (g : Nat) (w : Nat) (k : Nat) (u : Nat) (g0 : Nat) (g1 : Nat) (g2 : Nat) (g3 : Nat) (g4 : Nat) (g5 : Nat) (g6 : Nat) (g7 : Nat) (ss : Nat) (ag : UInt64) (mc : Nat → Nat) (v : Nat) (sz : Nat) (hst : st < 3) (hv : v < 12) : MVi l y_S_mailFor w_S_mailFor ({ frames := 0, cells := 0, slots := 0, locals := 0 } : Room) D CL [(cZ, .boolean), (cI, .int), (cF, .double)] [.ref a, .int (nI v)] [cO a 3 [.int (nI st), .int (bI hc), .ref g, .ref w, .ref k, .ref u], cO g 0 [.ref g0, .ref g1, .ref g2, .ref g3, .ref g4, .ref g5, .ref g6, .ref g7, .int (nI ss), .double ag], cN g6 cI 12 mc] sz (nI (if st = 0 then 0 else mc v)) [cO a 3 [.int (nI st), .int (bI hc), .ref g, .ref w, .ref k, .ref u], cO g 0 [.ref g0, .ref g1, .ref g2, .ref g3, .ref g4, .ref g5, .ref g6, .ref g7, .int (nI ss), .double ag], cN g6 cI 12 mc] := by
  refine nm_i (cc := b_S_mailFor) (maxL := 2) (by decide) rfl (Nat.le_of_ble_eq_true rfl) ?_
  intro p e s m below meth c A ls H C hP hD hS hl
  obtain ⟨hx, hb, hr, hml, hown, hts, hlocks, hA, hK, hX⟩ := C
  have hl : lv_has ls 2 [(0, .ref a), (1, .int (nI v))] := hl
  refine lv_aload_n hx hb d_S_mailFor_0 rfl (lv_at hl 0 rfl) ?_
  refine va_get (ci := 3) (v := .int (nI st)) (C := "PulseGraph") (T := T_S) (N := 6) hx hb hts (fun w h => List.mem_cons_of_mem _ (inW_S w h)) hown hK hP 0 rfl rfl 0 (by decide) (hts _ (List.mem_cons_of_mem _ mw_127)) (fun _ h9 => h9) rfl d_S_mailFor_1 ?_
  refine nw_ne0 (x := st) (tgt := 11) hx hb (by omega) d_S_mailFor_4 (by decide) (fun h_4 => ?_) (fun h_4 => ?_)
  · refine lv_aload_n hx hb d_S_mailFor_11 rfl (lv_at hl 0 rfl) ?_
    refine va_get (ci := 3) (v := .ref g) (C := "PulseGraph") (T := T_S) (N := 6) hx hb hts (fun w h => List.mem_cons_of_mem _ (inW_S w h)) hown hK hP 0 rfl rfl 2 (by decide) (hts _ (List.mem_cons_of_mem _ mw_129)) (fun _ h9 => h9) rfl d_S_mailFor_12 ?_
    refine va_get (ci := 0) (v := .ref g6) (C := "PulseGraph$Graph") (T := T_G) (N := 10) hx hb hts (fun w h => List.mem_cons_of_mem _ (inW_G w h)) hown hK hP 1 rfl rfl 6 (by decide) (hts _ (List.mem_cons_of_mem _ mw_46)) (fun _ h9 => h9) rfl d_S_mailFor_15 ?_
    refine lv_iload_n hx hb d_S_mailFor_18 rfl (lv_at hl 1 rfl) ?_
    refine nw_nald (f := mc) hx hb hK hP 2 1 rfl rfl (i := v) (by omega) (by decide) d_S_mailFor_19 ?_
    exact nr_i hx hb hr hlocks hK hP hD hS (by simp [h_4]) rfl d_S_mailFor_20
  · refine lv_iconst (v := nI 0) hx hb d_S_mailFor_7 (by decide +kernel) ?_
    refine lv_goto (tgt := 20) hx hb d_S_mailFor_8 (by decide) ?_
    exact nr_i hx hb hr hlocks hK hP hD hS (by simp [h_4]) rfl d_S_mailFor_20

set_option maxHeartbeats 4000000 in
set_option maxRecDepth 100000 in
/-- mail of all, none if idle -/
theorem c_S_mailForAll (l : Launch) (D : va_G) (cZ : Nat) (cI : Nat) (cF : Nat) (a : Nat) (st : Nat) (hc : Bool) (g : Nat) (w : Nat) (k : Nat) (u : Nat) (g0 : Nat) (g1 : Nat) (g2 : Nat) (g3 : Nat) (g4 : Nat) (g5 : Nat) (g6 : Nat) (g7 : Nat) (ss : Nat) (ag : UInt64) (mc : Nat → Nat) (sz : Nat) (hst : st < 3) : MVi l y_S_mailForAll w_S_mailForAll ({ frames := 1, cells := 0, slots := 0, locals := 21 } : Room) D CL [(cZ, .boolean), (cI, .int), (cF, .double)] [.ref a] [cO a 3 [.int (nI st), .int (bI hc), .ref g, .ref w, .ref k, .ref u], cO g 0 [.ref g0, .ref g1, .ref g2, .ref g3, .ref g4, .ref g5, .ref g6, .ref g7, .int (nI ss), .double ag], cN g6 cI 12 mc] sz (nI (mfC st mc 12)) [cO a 3 [.int (nI st), .int (bI hc), .ref g, .ref w, .ref k, .ref u], cO g 0 [.ref g0, .ref g1, .ref g2, .ref g3, .ref g4, .ref g5, .ref g6, .ref g7, .int (nI ss), .double ag], cN g6 cI 12 mc] := by
  refine nm_i (cc := b_S_mailForAll) (maxL := 3) (by decide) rfl (Nat.le_of_ble_eq_true rfl) ?_
  intro p e s m below meth c A ls H C hP hD hS hl
  obtain ⟨hx, hb, hr, hml, hown, hts, hlocks, hA, hK, hX⟩ := C
  have hl : lv_has ls 3 [(0, .ref a)] := hl
  refine lv_iconst (v := nI 0) hx hb d_S_mailForAll_0 (by decide +kernel) ?_
  refine lv_istore_n (lv' := [(1, .int (nI 0)), (0, .ref a)]) hx hb d_S_mailForAll_1 rfl hl (by decide) rfl (fun ls hl => ?_)
  refine lv_iconst (v := nI 0) hx hb d_S_mailForAll_2 (by decide +kernel) ?_
  refine lv_istore_n (lv' := [(2, .int (nI 0)), (1, .int (nI 0)), (0, .ref a)]) hx hb d_S_mailForAll_3 rfl hl (by decide) rfl (fun ls hl => ?_)
  have loop_4 : ∀ (n_4 i : Nat), i ≤ 12 → 12 < i + n_4 → ∀ (H : Heap) (locs : List Loc) (ls : Array Slot), va_P D CL [cO a 3 [.int (nI st), .int (bI hc), .ref g, .ref w, .ref k, .ref u], cO g 0 [.ref g0, .ref g1, .ref g2, .ref g3, .ref g4, .ref g5, .ref g6, .ref g7, .int (nI ss), .double ag], cN g6 cI 12 mc] H → va_D A [cO a 3 [.int (nI st), .int (bI hc), .ref g, .ref w, .ref k, .ref u], cO g 0 [.ref g0, .ref g1, .ref g2, .ref g3, .ref g4, .ref g5, .ref g6, .ref g7, .int (nI ss), .double ag], cN g6 cI 12 mc] → va_S A s.heap H locs → lv_has ls 3 [(0, .ref a), (1, .int (nI (mfC st mc i))), (2, .int (nI i))] → W p l e ({ frames := 1, cells := 0, slots := 0, locals := 21 } : Room) s m ([.ref a] : List Value).toArray below meth c H locs 0 0 (MQ below (va_Qi (fun (z : Int32) (_ : Unit) => z = nI (mfC st mc 12)) (nB D CL [(cZ, .boolean), (cI, .int), (cF, .double)] [cO a 3 [.int (nI st), .int (bI hc), .ref g, .ref w, .ref k, .ref u], cO g 0 [.ref g0, .ref g1, .ref g2, .ref g3, .ref g4, .ref g5, .ref g6, .ref g7, .int (nI ss), .double ag], cN g6 cI 12 mc] A) A) ([.ref a] : List Value).toArray s 0 0 A) (F0 m 4 ls []) := by
    intro n_4
    induction n_4 with
    | zero => intro i h1 h2; exact absurd h2 (by omega)
    | succ n_4 ih_4 =>
      intro i hi_4 hn_4   H locs ls hP hD hS hl
      refine lv_iload_n hx hb d_S_mailForAll_4 rfl (lv_at hl 2 rfl) ?_
      refine lv_bipush (v := nI 12) hx hb d_S_mailForAll_5 (by decide +kernel) ?_
      refine nw_ge (x := i) (y := 12) (tgt := 24) hx hb (by omega) (by omega) d_S_mailForAll_7 (by decide) (fun h_7 => ?_) (fun h_7 => ?_)
      · obtain rfl : i = 12 := by omega
        refine lv_iload_n hx hb d_S_mailForAll_24 rfl (lv_at hl 1 rfl) ?_
        exact nr_i hx hb hr hlocks hK hP hD hS rfl rfl d_S_mailForAll_25
      · refine lv_iload_n hx hb d_S_mailForAll_10 rfl (lv_at hl 1 rfl) ?_
        refine lv_aload_n hx hb d_S_mailForAll_11 rfl (lv_at hl 0 rfl) ?_
        refine lv_iload_n hx hb d_S_mailForAll_12 rfl (lv_at hl 2 rfl) ?_
        refine nc_i (wc := [cO a 3 [.int (nI st), .int (bI hc), .ref g, .ref w, .ref k, .ref u], cO g 0 [.ref g0, .ref g1, .ref g2, .ref g3, .ref g4, .ref g5, .ref g6, .ref g7, .int (nI ss), .double ag], cN g6 cI 12 mc]) (wr := []) (w1 := [cO a 3 [.int (nI st), .int (bI hc), .ref g, .ref w, .ref k, .ref u], cO g 0 [.ref g0, .ref g1, .ref g2, .ref g3, .ref g4, .ref g5, .ref g6, .ref g7, .int (nI ss), .double ag], cN g6 cI 12 mc]) (va_runV (As := [.int (nI i)]) (rest := [.int (nI (mfC st mc i))]) ⟨hx, hb, hml, hown, hts⟩ (c_S_mailFor l D cZ cI cF a st hc g w k u g0 g1 g2 g3 g4 g5 g6 g7 ss ag mc i H.size hst (by omega)) (cwV 1 hts (gi_V mw_533 mw_530 mw_532 (WA_s 22 (by decide +kernel) (by decide +kernel)) mw_1) rfl rfl rfl (by decide +kernel) ⟨Nat.le_of_ble_eq_true rfl, Nat.le_of_ble_eq_true rfl⟩) ⟨nPre_blind, va_recv hK hP (ci := 3) (q0 := 0) rfl rfl, nPre_of (wc := [cO a 3 [.int (nI st), .int (bI hc), .ref g, .ref w, .ref k, .ref u], cO g 0 [.ref g0, .ref g1, .ref g2, .ref g3, .ref g4, .ref g5, .ref g6, .ref g7, .int (nI ss), .double ag], cN g6 cI 12 mc]) hP hD hK hX hS hA [0, 1, 2] (by decide) rfl rfl⟩ rfl rfl hl.1 rfl (lv_room (Nat.le_of_ble_eq_true rfl)) d_S_mailForAll_13 ⟨Nat.zero_le _, Nat.zero_le _⟩) hP hD hS hA [0, 1, 2] [] rfl rfl (by decide) (by decide) (fun H locs hP hD hS => ?_)
        have hP : va_P D CL [cO a 3 [.int (nI st), .int (bI hc), .ref g, .ref w, .ref k, .ref u], cO g 0 [.ref g0, .ref g1, .ref g2, .ref g3, .ref g4, .ref g5, .ref g6, .ref g7, .int (nI ss), .double ag], cN g6 cI 12 mc] H := hP
        have hD : va_D A [cO a 3 [.int (nI st), .int (bI hc), .ref g, .ref w, .ref k, .ref u], cO g 0 [.ref g0, .ref g1, .ref g2, .ref g3, .ref g4, .ref g5, .ref g6, .ref g7, .int (nI ss), .double ag], cN g6 cI 12 mc] := hD
        refine nw_iadd (x := (mfC st mc i)) (y := (if st = 0 then 0 else mc i)) hx hb d_S_mailForAll_16 ?_
        refine lv_istore_n (lv' := [(1, .int (nI ((mfC st mc i) + (if st = 0 then 0 else mc i)))), (0, .ref a), (2, .int (nI i))]) hx hb d_S_mailForAll_17 rfl hl (by decide) rfl (fun ls hl => ?_)
        refine nw_iinc (x := i) (d := 1) (lv' := [(2, .int (nI (i + 1))), (1, .int (nI ((mfC st mc i) + (if st = 0 then 0 else mc i)))), (0, .ref a)]) hx hb d_S_mailForAll_18 hl (k := 2) rfl (by decide) rfl (fun ls hl => ?_)
        refine lv_goto (tgt := 4) hx hb d_S_mailForAll_21 (by decide) ?_
        exact ih_4 (i + 1) (by omega) (by omega)  _ _ _ hP hD hS (lv_sub (l' := [(0, .ref a), (1, .int (nI ((mfC st mc i) + (if st = 0 then 0 else mc i)))), (2, .int (nI (i + 1)))]) hl [2, 1, 0] rfl)
  exact loop_4 (12 + 1) 0 (by omega) (by omega)  _ _ _ hP hD hS (lv_sub (l' := [(0, .ref a), (1, .int (nI 0)), (2, .int (nI 0))]) hl [2, 1, 0] rfl)

set_option maxHeartbeats 4000000 in
set_option maxRecDepth 100000 in
/-- the aggregate -/
theorem c_S_aggregate (l : Launch) (D : va_G) (cZ : Nat) (cI : Nat) (cF : Nat) (a : Nat) (st : Nat) (hc : Bool) (g : Nat) (w : Nat) (k : Nat) (u : Nat) (g0 : Nat) (g1 : Nat) (g2 : Nat) (g3 : Nat) (g4 : Nat) (g5 : Nat) (g6 : Nat) (g7 : Nat) (ss : Nat) (ag : UInt64) (sz : Nat)  : MVd l y_S_aggregate w_S_aggregate ({ frames := 0, cells := 0, slots := 0, locals := 0 } : Room) D CL [(cZ, .boolean), (cI, .int), (cF, .double)] [.ref a] [cO a 3 [.int (nI st), .int (bI hc), .ref g, .ref w, .ref k, .ref u], cO g 0 [.ref g0, .ref g1, .ref g2, .ref g3, .ref g4, .ref g5, .ref g6, .ref g7, .int (nI ss), .double ag]] sz ag [cO a 3 [.int (nI st), .int (bI hc), .ref g, .ref w, .ref k, .ref u], cO g 0 [.ref g0, .ref g1, .ref g2, .ref g3, .ref g4, .ref g5, .ref g6, .ref g7, .int (nI ss), .double ag]] := by
  refine nm_d (cc := b_S_aggregate) (maxL := 1) (by decide) rfl (Nat.le_of_ble_eq_true rfl) ?_
  intro p e s m below meth c A ls H C hP hD hS hl
  obtain ⟨hx, hb, hr, hml, hown, hts, hlocks, hA, hK, hX⟩ := C
  have hl : lv_has ls 1 [(0, .ref a)] := hl
  refine lv_aload_n hx hb d_S_aggregate_0 rfl (lv_at hl 0 rfl) ?_
  refine va_get (ci := 3) (v := .ref g) (C := "PulseGraph") (T := T_S) (N := 6) hx hb hts (fun w h => List.mem_cons_of_mem _ (inW_S w h)) hown hK hP 0 rfl rfl 2 (by decide) (hts _ (List.mem_cons_of_mem _ mw_129)) (fun _ h9 => h9) rfl d_S_aggregate_1 ?_
  refine va_get (ci := 0) (v := .double ag) (C := "PulseGraph$Graph") (T := T_G) (N := 10) hx hb hts (fun w h => List.mem_cons_of_mem _ (inW_G w h)) hown hK hP 1 rfl rfl 9 (by decide) (hts _ (List.mem_cons_of_mem _ mw_55)) (fun _ h9 => h9) rfl d_S_aggregate_4 ?_
  exact nr_d hx hb hr hlocks hK hP hD hS rfl rfl d_S_aggregate_7

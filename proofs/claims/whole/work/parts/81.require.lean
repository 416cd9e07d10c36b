set_option maxHeartbeats 4000000 in
set_option maxRecDepth 100000 in
/-- a number in range, or it throws -/
theorem c_S_requireRange (l : Launch) (hl9 : l.stackTraces = false) (D : va_G) (cZ : Nat) (cI : Nat) (cF : Nat) (a1 : Int32) (a2 : Int32) (a3 : Int32) (sz : Nat)  : XVv l y_S_requireRange w_S_requireRange ({ frames := 6, cells := 1, slots := 6, locals := 90 } : Room) D CL [(cZ, .boolean), (cI, .int), (cF, .double)] [.int a1, .int a2, .int a3] [] sz (inR a1 a2 a3 = true) ("java/lang/IllegalArgumentException") [] [] := by
  refine nmx_v (cc := b_S_requireRange) (maxL := 3) (by decide) rfl (Nat.le_of_ble_eq_true rfl) ?_
  intro p e s m below meth c A ls H C hxt hP hD hS hl
  obtain ⟨hx, hb, hr, hml, hown, hts, hlocks, hA, hK, hX⟩ := C
  have hl : lv_has ls 3 [(0, .int a1), (1, .int a2), (2, .int a3)] := hl
  refine lv_iload_n hx hb d_S_requireRange_0 rfl (lv_at hl 0 rfl) ?_
  refine lv_iload_n hx hb d_S_requireRange_1 rfl (lv_at hl 1 rfl) ?_
  refine lv_icmp_lt (tgt := 10) hx hb d_S_requireRange_2 (by decide) (fun h_2 => ?_) (fun h_2 => ?_)
  · obtain ⟨sa, hsa⟩ := hX.2.2.2 ("PulseGraph", 157, "a number is out of range") (by decide)
    exact vx_throwS (own := "PulseGraph") (cls := "java/lang/IllegalArgumentException") (names := ["java/lang/RuntimeException", "java/lang/Exception"]) (ik := 155) (is := 157) (ic := 159) hx hb hl9 hown (by decide +kernel) (by decide +kernel) (hts _ (List.mem_cons_of_mem _ mw_162)) (hts _ (List.mem_cons_of_mem _ mw_9)) hsa (hat_of at_IllegalArgumentException hts hX.1) ot_IllegalArgumentException hX.2.1 hX.2.2.1 hS (hl.1.trans hml.symm) d_S_requireRange_10 d_S_requireRange_13 d_S_requireRange_14 d_S_requireRange_16 d_S_requireRange_19 (fun x h => (hxt x h).elim) (Nat.le_of_ble_eq_true rfl) (Nat.le_of_ble_eq_true rfl) (Nat.le_of_ble_eq_true rfl) (Nat.le_of_ble_eq_true rfl) hlocks (fun t ha hsz hk => nx_thr hK hP hD hS (by simp [inR, h_2]) rfl ha hsz hk) hS.2.2 (Nat.le_refl 1) (Nat.le_refl 6)
  · refine lv_iload_n hx hb d_S_requireRange_5 rfl (lv_at hl 0 rfl) ?_
    refine lv_iload_n hx hb d_S_requireRange_6 rfl (lv_at hl 2 rfl) ?_
    refine lv_icmp_le (tgt := 20) hx hb d_S_requireRange_7 (by decide) (fun h_7 => ?_) (fun h_7 => ?_)
    · exact nrx_v hx hb hr hlocks hK hP hD hS (by simp [inR, h_2, Int32.not_lt.mpr h_7]) rfl d_S_requireRange_20
    · obtain ⟨sa, hsa⟩ := hX.2.2.2 ("PulseGraph", 157, "a number is out of range") (by decide)
      exact vx_throwS (own := "PulseGraph") (cls := "java/lang/IllegalArgumentException") (names := ["java/lang/RuntimeException", "java/lang/Exception"]) (ik := 155) (is := 157) (ic := 159) hx hb hl9 hown (by decide +kernel) (by decide +kernel) (hts _ (List.mem_cons_of_mem _ mw_162)) (hts _ (List.mem_cons_of_mem _ mw_9)) hsa (hat_of at_IllegalArgumentException hts hX.1) ot_IllegalArgumentException hX.2.1 hX.2.2.1 hS (hl.1.trans hml.symm) d_S_requireRange_10 d_S_requireRange_13 d_S_requireRange_14 d_S_requireRange_16 d_S_requireRange_19 (fun x h => (hxt x h).elim) (Nat.le_of_ble_eq_true rfl) (Nat.le_of_ble_eq_true rfl) (Nat.le_of_ble_eq_true rfl) (Nat.le_of_ble_eq_true rfl) hlocks (fun t ha hsz hk => nx_thr hK hP hD hS (by simp [inR, Int32.not_le.mp h_7]) rfl ha hsz hk) hS.2.2 (Nat.le_refl 1) (Nat.le_refl 6)

set_option maxHeartbeats 4000000 in
set_option maxRecDepth 100000 in
/-- idle, or it throws -/
theorem c_S_requireIdle (l : Launch) (hl9 : l.stackTraces = false) (D : va_G) (cZ : Nat) (cI : Nat) (cF : Nat) (a : Nat) (st : Nat) (hc : Bool) (g : Nat) (w : Nat) (k : Nat) (u : Nat) (sz : Nat) (hst : st < 3) : XVv l y_S_requireIdle w_S_requireIdle ({ frames := 6, cells := 1, slots := 6, locals := 90 } : Room) D CL [(cZ, .boolean), (cI, .int), (cF, .double)] [.ref a] [cO a 3 [.int (nI st), .int (bI hc), .ref g, .ref w, .ref k, .ref u]] sz (st = 0) ("java/lang/IllegalStateException") [cO a 3 [.int (nI st), .int (bI hc), .ref g, .ref w, .ref k, .ref u]] [cO a 3 [.int (nI st), .int (bI hc), .ref g, .ref w, .ref k, .ref u]] := by
  refine nmx_v (cc := b_S_requireIdle) (maxL := 1) (by decide) rfl (Nat.le_of_ble_eq_true rfl) ?_
  intro p e s m below meth c A ls H C hxt hP hD hS hl
  obtain ⟨hx, hb, hr, hml, hown, hts, hlocks, hA, hK, hX⟩ := C
  have hl : lv_has ls 1 [(0, .ref a)] := hl
  refine lv_aload_n hx hb d_S_requireIdle_0 rfl (lv_at hl 0 rfl) ?_
  refine va_get (ci := 3) (v := .int (nI st)) (C := "PulseGraph") (T := T_S) (N := 6) hx hb hts (fun w h => List.mem_cons_of_mem _ (inW_S w h)) hown hK hP 0 rfl rfl 0 (by decide) (hts _ (List.mem_cons_of_mem _ mw_127)) (fun _ h9 => h9) rfl d_S_requireIdle_1 ?_
  refine nw_eq0 (x := st) (tgt := 17) hx hb (by omega) d_S_requireIdle_4 (by decide) (fun h_4 => ?_) (fun h_4 => ?_)
  · exact nrx_v hx hb hr hlocks hK hP hD hS (h_4) rfl d_S_requireIdle_17
  · obtain ⟨sa, hsa⟩ := hX.2.2.2 ("PulseGraph", 172, "the machine is not idle") (by decide)
    exact vx_throwS (own := "PulseGraph") (cls := "java/lang/IllegalStateException") (names := ["java/lang/RuntimeException", "java/lang/Exception"]) (ik := 167) (is := 172) (ic := 171) hx hb hl9 hown (by decide +kernel) (by decide +kernel) (hts _ (List.mem_cons_of_mem _ mw_242)) (hts _ (List.mem_cons_of_mem _ mw_10)) hsa (hat_of at_IllegalStateException hts hX.1) ot_IllegalStateException hX.2.1 hX.2.2.1 hS (hl.1.trans hml.symm) d_S_requireIdle_7 d_S_requireIdle_10 d_S_requireIdle_11 d_S_requireIdle_13 d_S_requireIdle_16 (fun x h => (hxt x h).elim) (Nat.le_of_ble_eq_true rfl) (Nat.le_of_ble_eq_true rfl) (Nat.le_of_ble_eq_true rfl) (Nat.le_of_ble_eq_true rfl) hlocks (fun t ha hsz hk => nx_thr hK hP hD hS (h_4) rfl ha hsz hk) hS.2.2 (Nat.le_refl 1) (Nat.le_refl 6)

set_option maxHeartbeats 4000000 in
set_option maxRecDepth 100000 in
/-- running, or it throws -/
theorem c_S_requireRunning (l : Launch) (hl9 : l.stackTraces = false) (D : va_G) (cZ : Nat) (cI : Nat) (cF : Nat) (a : Nat) (st : Nat) (hc : Bool) (g : Nat) (w : Nat) (k : Nat) (u : Nat) (sz : Nat) (hst : st < 3) : XVv l y_S_requireRunning w_S_requireRunning ({ frames := 6, cells := 1, slots := 6, locals := 90 } : Room) D CL [(cZ, .boolean), (cI, .int), (cF, .double)] [.ref a] [cO a 3 [.int (nI st), .int (bI hc), .ref g, .ref w, .ref k, .ref u]] sz (st = 1) ("java/lang/IllegalStateException") [cO a 3 [.int (nI st), .int (bI hc), .ref g, .ref w, .ref k, .ref u]] [cO a 3 [.int (nI st), .int (bI hc), .ref g, .ref w, .ref k, .ref u]] := by
  refine nmx_v (cc := b_S_requireRunning) (maxL := 1) (by decide) rfl (Nat.le_of_ble_eq_true rfl) ?_
  intro p e s m below meth c A ls H C hxt hP hD hS hl
  obtain ⟨hx, hb, hr, hml, hown, hts, hlocks, hA, hK, hX⟩ := C
  have hl : lv_has ls 1 [(0, .ref a)] := hl
  refine lv_aload_n hx hb d_S_requireRunning_0 rfl (lv_at hl 0 rfl) ?_
  refine va_get (ci := 3) (v := .int (nI st)) (C := "PulseGraph") (T := T_S) (N := 6) hx hb hts (fun w h => List.mem_cons_of_mem _ (inW_S w h)) hown hK hP 0 rfl rfl 0 (by decide) (hts _ (List.mem_cons_of_mem _ mw_127)) (fun _ h9 => h9) rfl d_S_requireRunning_1 ?_
  refine lv_iconst (v := nI 1) hx hb d_S_requireRunning_4 (by decide +kernel) ?_
  refine nw_eq (x := st) (y := 1) (tgt := 18) hx hb (by omega) (by omega) d_S_requireRunning_5 (by decide) (fun h_5 => ?_) (fun h_5 => ?_)
  · exact nrx_v hx hb hr hlocks hK hP hD hS (h_5) rfl d_S_requireRunning_18
  · obtain ⟨sa, hsa⟩ := hX.2.2.2 ("PulseGraph", 174, "the machine is not running") (by decide)
    exact vx_throwS (own := "PulseGraph") (cls := "java/lang/IllegalStateException") (names := ["java/lang/RuntimeException", "java/lang/Exception"]) (ik := 167) (is := 174) (ic := 171) hx hb hl9 hown (by decide +kernel) (by decide +kernel) (hts _ (List.mem_cons_of_mem _ mw_242)) (hts _ (List.mem_cons_of_mem _ mw_10)) hsa (hat_of at_IllegalStateException hts hX.1) ot_IllegalStateException hX.2.1 hX.2.2.1 hS (hl.1.trans hml.symm) d_S_requireRunning_8 d_S_requireRunning_11 d_S_requireRunning_12 d_S_requireRunning_14 d_S_requireRunning_17 (fun x h => (hxt x h).elim) (Nat.le_of_ble_eq_true rfl) (Nat.le_of_ble_eq_true rfl) (Nat.le_of_ble_eq_true rfl) (Nat.le_of_ble_eq_true rfl) hlocks (fun t ha hsz hk => nx_thr hK hP hD hS (h_5) rfl ha hsz hk) hS.2.2 (Nat.le_refl 1) (Nat.le_refl 6)

set_option maxHeartbeats 4000000 in
set_option maxRecDepth 100000 in
/-- not idle, or it throws -/
theorem c_S_requireBusy (l : Launch) (hl9 : l.stackTraces = false) (D : va_G) (cZ : Nat) (cI : Nat) (cF : Nat) (a : Nat) (st : Nat) (hc : Bool) (g : Nat) (w : Nat) (k : Nat) (u : Nat) (sz : Nat) (hst : st < 3) : XVv l y_S_requireBusy w_S_requireBusy ({ frames := 6, cells := 1, slots := 6, locals := 90 } : Room) D CL [(cZ, .boolean), (cI, .int), (cF, .double)] [.ref a] [cO a 3 [.int (nI st), .int (bI hc), .ref g, .ref w, .ref k, .ref u]] sz (st ≠ 0) ("java/lang/IllegalStateException") [cO a 3 [.int (nI st), .int (bI hc), .ref g, .ref w, .ref k, .ref u]] [cO a 3 [.int (nI st), .int (bI hc), .ref g, .ref w, .ref k, .ref u]] := by
  refine nmx_v (cc := b_S_requireBusy) (maxL := 1) (by decide) rfl (Nat.le_of_ble_eq_true rfl) ?_
  intro p e s m below meth c A ls H C hxt hP hD hS hl
  obtain ⟨hx, hb, hr, hml, hown, hts, hlocks, hA, hK, hX⟩ := C
  have hl : lv_has ls 1 [(0, .ref a)] := hl
  refine lv_aload_n hx hb d_S_requireBusy_0 rfl (lv_at hl 0 rfl) ?_
  refine va_get (ci := 3) (v := .int (nI st)) (C := "PulseGraph") (T := T_S) (N := 6) hx hb hts (fun w h => List.mem_cons_of_mem _ (inW_S w h)) hown hK hP 0 rfl rfl 0 (by decide) (hts _ (List.mem_cons_of_mem _ mw_127)) (fun _ h9 => h9) rfl d_S_requireBusy_1 ?_
  refine nw_ne0 (x := st) (tgt := 17) hx hb (by omega) d_S_requireBusy_4 (by decide) (fun h_4 => ?_) (fun h_4 => ?_)
  · exact nrx_v hx hb hr hlocks hK hP hD hS (h_4) rfl d_S_requireBusy_17
  · obtain ⟨sa, hsa⟩ := hX.2.2.2 ("PulseGraph", 176, "the machine is idle") (by decide)
    exact vx_throwS (own := "PulseGraph") (cls := "java/lang/IllegalStateException") (names := ["java/lang/RuntimeException", "java/lang/Exception"]) (ik := 167) (is := 176) (ic := 171) hx hb hl9 hown (by decide +kernel) (by decide +kernel) (hts _ (List.mem_cons_of_mem _ mw_242)) (hts _ (List.mem_cons_of_mem _ mw_10)) hsa (hat_of at_IllegalStateException hts hX.1) ot_IllegalStateException hX.2.1 hX.2.2.1 hS (hl.1.trans hml.symm) d_S_requireBusy_7 d_S_requireBusy_10 d_S_requireBusy_11 d_S_requireBusy_13 d_S_requireBusy_16 (fun x h => (hxt x h).elim) (Nat.le_of_ble_eq_true rfl) (Nat.le_of_ble_eq_true rfl) (Nat.le_of_ble_eq_true rfl) (Nat.le_of_ble_eq_true rfl) hlocks (fun t ha hsz hk => nx_thr hK hP hD hS (fun q => q h_4) rfl ha hsz hk) hS.2.2 (Nat.le_refl 1) (Nat.le_refl 6)

set_option maxHeartbeats 4000000 in
set_option maxRecDepth 100000 in
/-- any vertex, or it throws -/
theorem c_S_requireAnyVertex (l : Launch) (hl9 : l.stackTraces = false) (D : va_G) (cZ : Nat) (cI : Nat) (cF : Nat) (a : Nat) (st : Nat) (hc : Bool) (g : Nat) (w : Nat) (k : Nat) (u : Nat) (g0 : Nat) (g1 : Nat) (g2 : Nat) (g3 : Nat) (g4 : Nat) (g5 : Nat) (g6 : Nat) (g7 : Nat) (ss : Nat) (ag : UInt64) (th : Nat → Bool) (sz : Nat) (hst : st < 3) : XVv l y_S_requireAnyVertex w_S_requireAnyVertex ({ frames := 6, cells := 1, slots := 6, locals := 90 } : Room) D CL [(cZ, .boolean), (cI, .int), (cF, .double)] [.ref a] [cO a 3 [.int (nI st), .int (bI hc), .ref g, .ref w, .ref k, .ref u], cO g 0 [.ref g0, .ref g1, .ref g2, .ref g3, .ref g4, .ref g5, .ref g6, .ref g7, .int (nI ss), .double ag], cB g0 cZ 12 th] sz (cnt th 12 ≠ 0) ("java/lang/IllegalStateException") [cO a 3 [.int (nI st), .int (bI hc), .ref g, .ref w, .ref k, .ref u], cO g 0 [.ref g0, .ref g1, .ref g2, .ref g3, .ref g4, .ref g5, .ref g6, .ref g7, .int (nI ss), .double ag], cB g0 cZ 12 th] [cO a 3 [.int (nI st), .int (bI hc), .ref g, .ref w, .ref k, .ref u], cO g 0 [.ref g0, .ref g1, .ref g2, .ref g3, .ref g4, .ref g5, .ref g6, .ref g7, .int (nI ss), .double ag], cB g0 cZ 12 th] := by
  refine nmx_v (cc := b_S_requireAnyVertex) (maxL := 1) (by decide) rfl (Nat.le_of_ble_eq_true rfl) ?_
  intro p e s m below meth c A ls H C hxt hP hD hS hl
  obtain ⟨hx, hb, hr, hml, hown, hts, hlocks, hA, hK, hX⟩ := C
  have hl : lv_has ls 1 [(0, .ref a)] := hl
  refine lv_aload_n hx hb d_S_requireAnyVertex_0 rfl (lv_at hl 0 rfl) ?_
  refine va_get (ci := 3) (v := .ref g) (C := "PulseGraph") (T := T_S) (N := 6) hx hb hts (fun w h => List.mem_cons_of_mem _ (inW_S w h)) hown hK hP 0 rfl rfl 2 (by decide) (hts _ (List.mem_cons_of_mem _ mw_129)) (fun _ h9 => h9) rfl d_S_requireAnyVertex_1 ?_
  refine nc_i (wc := [cO g 0 [.ref g0, .ref g1, .ref g2, .ref g3, .ref g4, .ref g5, .ref g6, .ref g7, .int (nI ss), .double ag], cB g0 cZ 12 th]) (wr := [cO a 3 [.int (nI st), .int (bI hc), .ref g, .ref w, .ref k, .ref u]]) (w1 := [cO g 0 [.ref g0, .ref g1, .ref g2, .ref g3, .ref g4, .ref g5, .ref g6, .ref g7, .int (nI ss), .double ag], cB g0 cZ 12 th]) (va_runV (As := []) (rest := []) ⟨hx, hb, hml, hown, hts⟩ (c_G_countThere l D cZ cI cF g g0 g1 g2 g3 g4 g5 g6 g7 ss ag th H.size ) (cwV 0 hts (gi_V mw_261 mw_258 mw_259 mw_260 mw_2) rfl rfl rfl (by decide +kernel) ⟨Nat.le_of_ble_eq_true rfl, Nat.le_of_ble_eq_true rfl⟩) ⟨nPre_blind, va_recv hK hP (ci := 0) (q0 := 1) rfl rfl, nPre_of (wc := [cO g 0 [.ref g0, .ref g1, .ref g2, .ref g3, .ref g4, .ref g5, .ref g6, .ref g7, .int (nI ss), .double ag], cB g0 cZ 12 th]) hP hD hK hX hS hA [1, 2] (by decide) rfl rfl⟩ rfl rfl hl.1 rfl (lv_room (Nat.le_of_ble_eq_true rfl)) d_S_requireAnyVertex_4 ⟨Nat.zero_le _, Nat.zero_le _⟩) hP hD hS hA [1, 2] [0] rfl rfl (by decide) (by decide) (fun H locs hP hD hS => ?_)
  have hP : va_P D CL [cO a 3 [.int (nI st), .int (bI hc), .ref g, .ref w, .ref k, .ref u], cO g 0 [.ref g0, .ref g1, .ref g2, .ref g3, .ref g4, .ref g5, .ref g6, .ref g7, .int (nI ss), .double ag], cB g0 cZ 12 th] H := hP
  have hD : va_D A [cO a 3 [.int (nI st), .int (bI hc), .ref g, .ref w, .ref k, .ref u], cO g 0 [.ref g0, .ref g1, .ref g2, .ref g3, .ref g4, .ref g5, .ref g6, .ref g7, .int (nI ss), .double ag], cB g0 cZ 12 th] := hD
  have hcl := cnt_le th 12
  refine nw_ne0 (x := (cnt th 12)) (tgt := 20) hx hb (by omega) d_S_requireAnyVertex_7 (by decide) (fun h_7 => ?_) (fun h_7 => ?_)
  · exact nrx_v hx hb hr hlocks hK hP hD hS (h_7) rfl d_S_requireAnyVertex_20
  · obtain ⟨sa, hsa⟩ := hX.2.2.2 ("PulseGraph", 169, "no vertex is there") (by decide)
    exact vx_throwS (own := "PulseGraph") (cls := "java/lang/IllegalStateException") (names := ["java/lang/RuntimeException", "java/lang/Exception"]) (ik := 167) (is := 169) (ic := 171) hx hb hl9 hown (by decide +kernel) (by decide +kernel) (hts _ (List.mem_cons_of_mem _ mw_242)) (hts _ (List.mem_cons_of_mem _ mw_10)) hsa (hat_of at_IllegalStateException hts hX.1) ot_IllegalStateException hX.2.1 hX.2.2.1 hS (hl.1.trans hml.symm) d_S_requireAnyVertex_10 d_S_requireAnyVertex_13 d_S_requireAnyVertex_14 d_S_requireAnyVertex_16 d_S_requireAnyVertex_19 (fun x h => (hxt x h).elim) (Nat.le_of_ble_eq_true rfl) (Nat.le_of_ble_eq_true rfl) (Nat.le_of_ble_eq_true rfl) (Nat.le_of_ble_eq_true rfl) hlocks (fun t ha hsz hk => nx_thr hK hP hD hS (fun q => q h_7) rfl ha hsz hk) hS.2.2 (Nat.le_refl 1) (Nat.le_refl 6)

set_option maxHeartbeats 4000000 in
set_option maxRecDepth 100000 in
/-- an amount in range, or it throws -/
theorem c_S_requireAmount (l : Launch) (hl9 : l.stackTraces = false) (D : va_G) (cZ : Nat) (cI : Nat) (cF : Nat) (x : UInt64) (a1 : Int32) (a2 : Int32) (sz : Nat)  : XVv l y_S_requireAmount w_S_requireAmount ({ frames := 6, cells := 1, slots := 6, locals := 90 } : Room) D CL [(cZ, .boolean), (cI, .int), (cF, .double)] [.double x, .int a1, .int a2] [] sz (amR x a1 a2 = true) ("java/lang/IllegalArgumentException") [] [] := by
  refine nmx_v (cc := b_S_requireAmount) (maxL := 5) (by decide) rfl (Nat.le_of_ble_eq_true rfl) ?_
  intro p e s m below meth c A ls H C hxt hP hD hS hl
  obtain ⟨hx, hb, hr, hml, hown, hts, hlocks, hA, hK, hX⟩ := C
  have hl : lv_has ls 5 [(0, .double x), (2, .int a1), (3, .int a2)] := hl
  refine lv_dload_n hx hb d_S_requireAmount_0 rfl (lv_at hl 0 rfl) ?_
  refine lv_iload_n hx hb d_S_requireAmount_1 rfl (lv_at hl 1 rfl) ?_
  refine lv_i2d hx hb d_S_requireAmount_2 ?_
  refine nw_dge (tgt := 18) hx hb d_S_requireAmount_3 d_S_requireAmount_4 (by decide) (fun h_3 => ?_) (fun h_3 => ?_)
  · refine lv_iconst (v := bI false) hx hb d_S_requireAmount_18 (by decide +kernel) ?_
    refine lv_istore (lv' := [(4, .int (bI false)), (0, .double x), (2, .int a1), (3, .int a2)]) hx hb d_S_requireAmount_19 hl (by decide) rfl (fun ls hl => ?_)
    refine lv_iload hx hb d_S_requireAmount_21 (lv_at hl 0 rfl) ?_
    refine nw_bt (x := false) (tgt := 36) hx hb d_S_requireAmount_23 (by decide) (fun h_23 => ?_) (fun h_23 => ?_)
    · exact absurd h_23 (by decide)
    · obtain ⟨sa, hsa⟩ := hX.2.2.2 ("PulseGraph", 160, "an amount is out of range") (by decide)
      exact vx_throwS (own := "PulseGraph") (cls := "java/lang/IllegalArgumentException") (names := ["java/lang/RuntimeException", "java/lang/Exception"]) (ik := 155) (is := 160) (ic := 159) hx hb hl9 hown (by decide +kernel) (by decide +kernel) (hts _ (List.mem_cons_of_mem _ mw_162)) (hts _ (List.mem_cons_of_mem _ mw_9)) hsa (hat_of at_IllegalArgumentException hts hX.1) ot_IllegalArgumentException hX.2.1 hX.2.2.1 hS (hl.1.trans hml.symm) d_S_requireAmount_26 d_S_requireAmount_29 d_S_requireAmount_30 d_S_requireAmount_32 d_S_requireAmount_35 (fun x h => (hxt x h).elim) (Nat.le_of_ble_eq_true rfl) (Nat.le_of_ble_eq_true rfl) (Nat.le_of_ble_eq_true rfl) (Nat.le_of_ble_eq_true rfl) hlocks (fun t ha hsz hk => nx_thr hK hP hD hS (by simp [amR, h_3]) rfl ha hsz hk) hS.2.2 (Nat.le_refl 1) (Nat.le_refl 6)
  · refine lv_dload_n hx hb d_S_requireAmount_7 rfl (lv_at hl 0 rfl) ?_
    refine lv_iload_n hx hb d_S_requireAmount_8 rfl (lv_at hl 2 rfl) ?_
    refine lv_i2d hx hb d_S_requireAmount_9 ?_
    refine nw_dle (tgt := 18) hx hb d_S_requireAmount_10 d_S_requireAmount_11 (by decide) (fun h_10 => ?_) (fun h_10 => ?_)
    · refine lv_iconst (v := bI false) hx hb d_S_requireAmount_18 (by decide +kernel) ?_
      refine lv_istore (lv' := [(4, .int (bI false)), (0, .double x), (2, .int a1), (3, .int a2)]) hx hb d_S_requireAmount_19 hl (by decide) rfl (fun ls hl => ?_)
      refine lv_iload hx hb d_S_requireAmount_21 (lv_at hl 0 rfl) ?_
      refine nw_bt (x := false) (tgt := 36) hx hb d_S_requireAmount_23 (by decide) (fun h_23 => ?_) (fun h_23 => ?_)
      · exact absurd h_23 (by decide)
      · obtain ⟨sa, hsa⟩ := hX.2.2.2 ("PulseGraph", 160, "an amount is out of range") (by decide)
        exact vx_throwS (own := "PulseGraph") (cls := "java/lang/IllegalArgumentException") (names := ["java/lang/RuntimeException", "java/lang/Exception"]) (ik := 155) (is := 160) (ic := 159) hx hb hl9 hown (by decide +kernel) (by decide +kernel) (hts _ (List.mem_cons_of_mem _ mw_162)) (hts _ (List.mem_cons_of_mem _ mw_9)) hsa (hat_of at_IllegalArgumentException hts hX.1) ot_IllegalArgumentException hX.2.1 hX.2.2.1 hS (hl.1.trans hml.symm) d_S_requireAmount_26 d_S_requireAmount_29 d_S_requireAmount_30 d_S_requireAmount_32 d_S_requireAmount_35 (fun x h => (hxt x h).elim) (Nat.le_of_ble_eq_true rfl) (Nat.le_of_ble_eq_true rfl) (Nat.le_of_ble_eq_true rfl) (Nat.le_of_ble_eq_true rfl) hlocks (fun t ha hsz hk => nx_thr hK hP hD hS (by simp [amR, h_3, h_10]) rfl ha hsz hk) hS.2.2 (Nat.le_refl 1) (Nat.le_refl 6)
    · refine lv_iconst (v := bI true) hx hb d_S_requireAmount_14 (by decide +kernel) ?_
      refine lv_goto (tgt := 19) hx hb d_S_requireAmount_15 (by decide) ?_
      refine lv_istore (lv' := [(4, .int (bI true)), (0, .double x), (2, .int a1), (3, .int a2)]) hx hb d_S_requireAmount_19 hl (by decide) rfl (fun ls hl => ?_)
      refine lv_iload hx hb d_S_requireAmount_21 (lv_at hl 0 rfl) ?_
      refine nw_bt (x := true) (tgt := 36) hx hb d_S_requireAmount_23 (by decide) (fun h_23 => ?_) (fun h_23 => ?_)
      · exact nrx_v hx hb hr hlocks hK hP hD hS (by simp [amR, h_3, h_10]) rfl d_S_requireAmount_36
      · exact absurd h_23 (by decide)

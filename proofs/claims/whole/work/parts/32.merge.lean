set_option maxHeartbeats 4000000 in
set_option maxRecDepth 100000 in
/-- two messages made one -/
theorem c_S_merge (l : Launch) (D : va_G) (cZ : Nat) (cI : Nat) (cF : Nat) (pg : Nat) (a : UInt64) (b : UInt64) (sz : Nat) (hp : pg < 4) (hn : pg ≠ 1 → pg ≠ 2 → vf_n64 (FP.dadd a b)) : MVd l y_S_merge w_S_merge ({ frames := 0, cells := 0, slots := 0, locals := 0 } : Room) D CL [(cZ, .boolean), (cI, .int), (cF, .double)] [.int (nI pg), .double a, .double b] [] sz (mrg pg a b) [] := by
  refine nm_d (cc := b_S_merge) (maxL := 5) (by decide) rfl (Nat.le_of_ble_eq_true rfl) ?_
  intro p e s m below meth c A ls H C hP hD hS hl
  obtain ⟨hx, hb, hr, hml, hown, hts, hlocks, hA, hK, hX⟩ := C
  have hl : lv_has ls 5 [(0, .int (nI pg)), (1, .double a), (3, .double b)] := hl
  refine lv_iload_n hx hb d_S_merge_0 rfl (lv_at hl 0 rfl) ?_
  by_cases h_1_1 : pg = 1
  · refine nw_look (k := 1) (off := 27) (tgt := 28) hx hb d_S_merge_1 h_1_1 (by decide +kernel) (by decide) ?_
    refine lv_dload_n hx hb d_S_merge_28 rfl (lv_at hl 2 rfl) ?_
    refine lv_dload_n hx hb d_S_merge_29 rfl (lv_at hl 1 rfl) ?_
    refine nw_dlt (tgt := 38) hx hb d_S_merge_30 d_S_merge_31 (by decide) (fun h_30 => ?_) (fun h_30 => ?_)
    · refine lv_dload_n hx hb d_S_merge_38 rfl (lv_at hl 1 rfl) ?_
      exact nr_d hx hb hr hlocks hK hP hD hS (by simp [mrg, h_1_1, h_30]) rfl d_S_merge_39
    · refine lv_dload_n hx hb d_S_merge_34 rfl (lv_at hl 2 rfl) ?_
      refine lv_goto (tgt := 39) hx hb d_S_merge_35 (by decide) ?_
      exact nr_d hx hb hr hlocks hK hP hD hS (by simp [mrg, h_1_1, h_30]) rfl d_S_merge_39
  · by_cases h_1_2 : pg = 2
    · refine nw_look (k := 2) (off := 39) (tgt := 40) hx hb d_S_merge_1 h_1_2 (by decide +kernel) (by decide) ?_
      refine lv_dload_n hx hb d_S_merge_40 rfl (lv_at hl 2 rfl) ?_
      refine lv_dload_n hx hb d_S_merge_41 rfl (lv_at hl 1 rfl) ?_
      refine nw_dgt (tgt := 50) hx hb d_S_merge_42 d_S_merge_43 (by decide) (fun h_42 => ?_) (fun h_42 => ?_)
      · refine lv_dload_n hx hb d_S_merge_50 rfl (lv_at hl 1 rfl) ?_
        exact nr_d hx hb hr hlocks hK hP hD hS (by simp [mrg, h_1_1, h_1_2, h_42]) rfl d_S_merge_51
      · refine lv_dload_n hx hb d_S_merge_46 rfl (lv_at hl 2 rfl) ?_
        refine lv_goto (tgt := 51) hx hb d_S_merge_47 (by decide) ?_
        exact nr_d hx hb hr hlocks hK hP hD hS (by simp [mrg, h_1_1, h_1_2, h_42]) rfl d_S_merge_51
    · refine nw_lookO (x := pg) (tgt := 52) hx hb (by omega) d_S_merge_1 (by decide) (by simp [Op.lookupswitch.offset]; omega) (by decide) ?_
      refine lv_dload_n hx hb d_S_merge_52 rfl (lv_at hl 1 rfl) ?_
      refine lv_dload_n hx hb d_S_merge_53 rfl (lv_at hl 2 rfl) ?_
      refine lv_dadd hx hb d_S_merge_54 (hn h_1_1 h_1_2) ?_
      exact nr_d hx hb hr hlocks hK hP hD hS (by simp [mrg, h_1_1, h_1_2]) rfl d_S_merge_55

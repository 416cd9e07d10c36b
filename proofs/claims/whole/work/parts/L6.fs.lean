theorem fs_G : ∀ j, j < 10 → defaultValue (ty_G j) = vp_V [.null, .null, .null, .null, .null, .null, .null, .null, .int (nI 0), .double FP.dconst0] j := by
  intro j hj
  match j, hj with
  | 0, _ => rfl
  | 1, _ => rfl
  | 2, _ => rfl
  | 3, _ => rfl
  | 4, _ => rfl
  | 5, _ => rfl
  | 6, _ => rfl
  | 7, _ => rfl
  | 8, _ => rfl
  | 9, _ => rfl
  | j + 10, hj => exact absurd hj (by omega)
theorem fs_O : ∀ j, j < 2 → defaultValue (ty_O j) = vp_V [.null, .null] j := by
  intro j hj
  match j, hj with
  | 0, _ => rfl
  | 1, _ => rfl
  | j + 2, hj => exact absurd hj (by omega)
theorem fs_P : ∀ j, j < 9 → defaultValue (ty_P j) = vp_V [.null, .null, .int (nI 0), .int (nI 0), .int (bI false), .int (nI 0), .int (bI false), .int (bI false), .double FP.dconst0] j := by
  intro j hj
  match j, hj with
  | 0, _ => rfl
  | 1, _ => rfl
  | 2, _ => rfl
  | 3, _ => rfl
  | 4, _ => rfl
  | 5, _ => rfl
  | 6, _ => rfl
  | 7, _ => rfl
  | 8, _ => rfl
  | j + 9, hj => exact absurd hj (by omega)
theorem fs_S : ∀ j, j < 6 → defaultValue (ty_S j) = vp_V [.int (nI 0), .int (bI false), .null, .null, .null, .null] j := by
  intro j hj
  match j, hj with
  | 0, _ => rfl
  | 1, _ => rfl
  | 2, _ => rfl
  | 3, _ => rfl
  | 4, _ => rfl
  | 5, _ => rfl
  | j + 6, hj => exact absurd hj (by omega)
theorem fs_M : ∀ j, j < 24 → defaultValue (ty_M j) = vp_V [.null, .null, .null, .null, .null, .null, .null, .null, .null, .null, .int (bI false), .int (nI 0), .int (nI 0), .int (nI 0), .int (bI false), .null, .null, .null, .null, .null, .double FP.dconst0, .int (nI 0), .int (bI false), .int (nI 0)] j := by
  intro j hj
  match j, hj with
  | 0, _ => rfl
  | 1, _ => rfl
  | 2, _ => rfl
  | 3, _ => rfl
  | 4, _ => rfl
  | 5, _ => rfl
  | 6, _ => rfl
  | 7, _ => rfl
  | 8, _ => rfl
  | 9, _ => rfl
  | 10, _ => rfl
  | 11, _ => rfl
  | 12, _ => rfl
  | 13, _ => rfl
  | 14, _ => rfl
  | 15, _ => rfl
  | 16, _ => rfl
  | 17, _ => rfl
  | 18, _ => rfl
  | 19, _ => rfl
  | 20, _ => rfl
  | 21, _ => rfl
  | 22, _ => rfl
  | 23, _ => rfl
  | j + 24, hj => exact absurd hj (by omega)

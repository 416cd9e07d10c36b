theorem wf_qn {pg : Nat} {sv : Bool} {y : RS} (h : wf pg sv y) : ∀ v j, v < 12 → j < y.2.2.2.2.2.2.1 v → nu (y.2.2.2.2.2.2.2.1 (v * 12 + j)) := fun v j hv hj => by
  have := h.2.2.2.2.2.2.2.1 v j hv (by rw [Nat.zero_add]; exact hj)
  rw [Nat.zero_add] at this
  exact prP_nu this
theorem wf_q {pg : Nat} {sv : Bool} {y : RS} (h : wf pg sv y) : pg ≠ 1 → pg ≠ 2 → ∀ v j, v < 12 → j < y.2.2.2.2.2.2.1 v → nn (y.2.2.2.2.2.2.2.1 (v * 12 + j)) := fun h1 h2 v j hv hj => by
  have := h.2.2.2.2.2.2.2.1 v j hv (by rw [Nat.zero_add]; exact hj)
  rw [Nat.zero_add] at this
  exact prP_nn h1 h2 this

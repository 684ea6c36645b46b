/-! small rows for the walks -/
theorem km_w_step (w : Nat → Int32) (k j : Nat) : upd (km_w w k) (16 + k) (km_z1 (km_w w k (16 + k - 2)) + km_w w k (16 + k - 7) + km_z0 (km_w w k (16 + k - 15)) + km_w w k (16 + k - 16)) j = km_w w (k + 1) j := by
  rw [show 16 + k - 2 = 14 + k by omega, show 16 + k - 7 = 9 + k by omega, show 16 + k - 15 = 1 + k by omega, show 16 + k - 16 = k by omega]
  rfl

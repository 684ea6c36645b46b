/-! small rows for the walks -/
theorem km_w_step (w : Nat → Int32) (k j : Nat) : upd (km_w w k) (16 + k) (km_z1 (km_w w k (16 + k - 2)) + km_w w k (16 + k - 7) + km_z0 (km_w w k (16 + k - 15)) + km_w w k (16 + k - 16)) j = km_w w (k + 1) j := by
  rw [show 16 + k - 2 = 14 + k by omega, show 16 + k - 7 = 9 + k by omega, show 16 + k - 15 = 1 + k by omega, show 16 + k - 16 = k by omega]
  rfl
theorem km_cpy0 (f g : Nat → Int32) {n j : Nat} (h : j < n) : va_cpy f g 0 0 n j = f j := by
  rw [pk_cpy_in (by omega) (by omega)]
  congr 1
  omega
/-- the shifts 56, 48 .. 0, -8 -/
def km_sh (i : Nat) : Int32 := 56 - nI (8 * i)
theorem km_sh_lt : ∀ i, i < 9 → (km_sh i < 0 ↔ i = 8) := by decide +kernel
theorem km_sh_at : ∀ i, i < 8 → km_sh i = nI (56 - 8 * i) := by decide +kernel
theorem km_sh_next : ∀ i, i < 8 → km_sh i + Int32.ofInt (-8) = km_sh (i + 1) := by decide +kernel

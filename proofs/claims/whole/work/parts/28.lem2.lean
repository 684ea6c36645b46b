/-! the key's block, as it is laid -/
theorem km_kb_long (p : Nat → Int32) {np : Nat} (h : 64 < np) (j : Nat) : km_sum p np (fun _ => 0) j = km_kb p np j := by
  unfold km_kb
  rw [if_pos h]
  by_cases z : j < 32
  · rw [km_sum_lo _ _ _ z, if_pos z]
  · rw [km_sum_hi _ _ _ (by omega), if_neg z]
theorem km_kb_short (p : Nat → Int32) {np : Nat} (h : np ≤ 64) (j : Nat) : va_cpy p (fun _ => 0) 0 0 np j = km_kb p np j := by
  unfold km_kb
  rw [if_neg (by omega)]
  by_cases z : j < np
  · rw [km_cpy0 _ _ z, if_pos z]
  · rw [pk_cpy_out (by omega), if_neg z]

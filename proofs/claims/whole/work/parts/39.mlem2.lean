/-! the key's block, by cases -/
theorem kb_1 {p : Nat → Int32} {np j : Nat} (h : 64 < np) (hj : j < 32) : km_kb p np j = km_s p np j := by
  unfold km_kb
  rw [if_pos h, if_pos hj]
theorem kb_2 {p : Nat → Int32} {np j : Nat} (h : 64 < np) (hj : ¬ j < 32) : km_kb p np j = 0 := by
  unfold km_kb
  rw [if_pos h, if_neg hj]
theorem kb_3 {p : Nat → Int32} {np j : Nat} (h : np ≤ 64) (hj : j < np) : km_kb p np j = p j := by
  unfold km_kb
  rw [if_neg (by omega), if_pos hj]
theorem kb_4 {p : Nat → Int32} {np j : Nat} (h : np ≤ 64) (hj : ¬ j < np) : km_kb p np j = 0 := by
  unfold km_kb
  rw [if_neg (by omega), if_neg hj]

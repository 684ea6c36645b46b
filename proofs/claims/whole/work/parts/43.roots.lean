/-! the roots, reckoned -/
set_option maxRecDepth 100000 in
theorem km_root_h : ∀ p, p < 20 → 2 ≤ p → km_nd p p = true → nI (km_ro (nI p) 0 36) = kH (km_np p) := by decide +kernel
set_option maxRecDepth 100000 in
theorem km_root_a : ∀ p, p < 312 → 2 ≤ p → km_nd p p = true → nI (km_ro (nI p) 1 36) = kK (km_np p) := by decide +kernel
theorem km_np_le : ∀ p, p < 313 → km_np p ≤ 64 := by decide +kernel
theorem km_np_8 : ∀ p, p < 313 → km_np p < 8 → p < 20 := by decide +kernel
theorem km_nd_f {p k : Nat} (h : km_nd p k = false) : km_nd p (k + 1) = false := by
  show (km_nd p k && _) = false
  rw [h]; rfl
theorem km_nd_g {p k : Nat} (h : p % k = 0) (hk : 2 ≤ k) : km_nd p (k + 1) = false := by
  show (km_nd p k && (decide (k < 2) || decide (p % k ≠ 0))) = false
  rw [decide_eq_false (by omega), decide_eq_false (fun z => z h)]
  simp
theorem km_nd_t {p k : Nat} (h : km_nd p k = true) (h2 : ¬ p % k = 0) : km_nd p (k + 1) = true := by
  show (km_nd p k && (decide (k < 2) || decide (p % k ≠ 0))) = true
  rw [h, decide_eq_true (show p % k ≠ 0 from h2)]
  simp

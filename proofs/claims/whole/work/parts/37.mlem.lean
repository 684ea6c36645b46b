/-! small rows for the reference's walks -/
theorem kl_le : ∀ k, k < 37 → (lN (2 ^ (36 - k)) ≤ 1 ↔ k = 36) := by decide +kernel
theorem kl_sub (a D : Nat) : lN (a + D) - lN a = lN D := by
  rw [lN_sub (Nat.le_add_right a D), Nat.add_sub_cancel_left]
theorem kl_mid {a k : Nat} (hk : k < 36) (ha : a + 2 ^ (36 - k) ≤ 2 ^ 36) : (lN a + lN (a + 2 ^ (36 - k))) / 2 = lN (a + 2 ^ (35 - k)) := by
  have e : 2 ^ (36 - k) = 2 * 2 ^ (35 - k) := by
    rw [show 36 - k = (35 - k) + 1 by omega, Nat.pow_succ]
    omega
  rw [lN_add]
  have h := pk_lDiv (a := a + (a + 2 ^ (36 - k))) (b := 2) (by omega) (by omega) (by omega)
  refine h.trans (congrArg lN ?_)
  rw [e]
  omega
theorem km_ro_0 {p cb : Int32} {k : Nat} (h : km_am (lN (km_ro p cb k + 2 ^ (35 - k))) p cb = 0) : km_ro p cb (k + 1) = km_ro p cb k := if_pos h
theorem km_ro_1 {p cb : Int32} {k : Nat} (h : ¬ km_am (lN (km_ro p cb k + 2 ^ (35 - k))) p cb = 0) : km_ro p cb (k + 1) = km_ro p cb k + 2 ^ (35 - k) := if_neg h
theorem kl_hi {k : Nat} (hk : k < 36) (a : Nat) : a + 2 ^ (36 - k) = a + 2 ^ (35 - k) + 2 ^ (36 - (k + 1)) := by
  rw [show 36 - (k + 1) = 35 - k by omega, show 36 - k = (35 - k) + 1 by omega, Nat.pow_succ]
  omega
theorem kn_dec {k : Nat} (h : 1 ≤ k) : nI k + Int32.ofInt (-1) = nI (k - 1) := by
  obtain ⟨j, rfl⟩ : ∃ j, k = j + 1 := ⟨k - 1, by omega⟩
  exact pk_m1 j
def km_dn (i : Nat) : Int32 := 7 - nI i
theorem km_dn_lt : ∀ i, i < 9 → (km_dn i < 0 ↔ i = 8) := by decide +kernel
theorem km_dn_at : ∀ i, i < 8 → km_dn i = nI (7 - i) := by decide +kernel
theorem km_dn_next : ∀ i, i < 8 → km_dn i + Int32.ofInt (-1) = km_dn (i + 1) := by decide +kernel
theorem km_len_lo (n : Nat) {i : Nat} (h : i < 6) : km_len n i = 0 := if_pos h
/-- one byte more in the row -/
theorem kl_row {g u M : Nat → Int32} {c : Nat} {b : Int32} (h : ∀ j, j < c → g j &&& 255 = M j) (hu : (∀ j, j < c → u j = g j) ∧ u c &&& 255 = b &&& 255) (hb : b &&& 255 = M c) : ∀ j, j < c + 1 → u j &&& 255 = M j := by
  intro j hj
  by_cases e : j = c
  · subst e; rw [hu.2, hb]
  · rw [hu.1 j (by omega)]; exact h j (by omega)
theorem km_b_W {m v : Nat → Int32} {q t : Nat} (ht : t < 16) (hv : ∀ j, j < t → v j = km_W (km_b m q) j) (h : v t = km_p m (64 * q + 4 * t) 4) : ∀ j, j < t + 1 → v j = km_W (km_b m q) j := by
  intro j hj
  by_cases e : j = t
  · subst e; rw [h, km_W_lo _ ht]; rfl
  · exact hv j (by omega)
theorem km_W_step {m v : Nat → Int32} {q t : Nat} (h1 : 16 ≤ t) (h2 : t < 64) (hv : ∀ j, j < t → v j = km_W (km_b m q) j) : ∀ j, j < t + 1 → upd v t (km_z1 (v (t - 2)) + v (t - 7) + km_z0 (v (t - 15)) + v (t - 16)) j = km_W (km_b m q) j := by
  intro j hj
  by_cases e : j = t
  · subst e
    rw [pk_us, km_W_hi _ h1 h2, hv (j - 2) (by omega), hv (j - 7) (by omega), hv (j - 15) (by omega), hv (j - 16) (by omega)]
  · rw [pk_un e]; exact hv j (by omega)
theorem km_h_next {m v f : Nat → Int32} {q : Nat} (hv : ∀ j, j < 64 → v j = km_W (km_b m q) j) (hf : ∀ j, j < 8 → f j = km_h m q j + km_r v (km_h m q) 64 j) : ∀ j, j < 8 → f j = km_h m (q + 1) j := by
  intro j hj
  rw [hf j hj, km_r_congr (km_h m q) 64 hv]
  rfl
theorem kl_start (p cb : Int32) : (68719476736 : Int64) = lN (km_ro p cb 0 + 2 ^ (36 - 0)) := by
  have e : km_ro p cb 0 = 0 := rfl
  rw [e]
  decide +kernel
theorem am_1 {x : Int64} {p cb : Int32} (hc : cb = 0) (h1 : am_s x < am_p p 28) : 1 = km_am x p cb := by
  unfold km_am
  rw [if_pos hc, if_pos h1]
theorem am_2 {x : Int64} {p cb : Int32} (hc : cb = 0) (h1 : ¬ am_s x < am_p p 28) (h2 : ¬ am_s x = am_p p 28) : 0 = km_am x p cb := by
  unfold km_am
  rw [if_pos hc, if_neg h1, if_neg h2]
theorem am_3 {x : Int64} {p cb : Int32} (hc : cb = 0) (h1 : ¬ am_s x < am_p p 28) (h2 : am_s x = am_p p 28) (h3 : am_tu x = 0) : 1 = km_am x p cb := by
  unfold km_am
  rw [if_pos hc, if_neg h1, if_pos h2, if_pos h3]
theorem am_4 {x : Int64} {p cb : Int32} (hc : cb = 0) (h1 : ¬ am_s x < am_p p 28) (h2 : am_s x = am_p p 28) (h3 : ¬ am_tu x = 0) : 0 = km_am x p cb := by
  unfold km_am
  rw [if_pos hc, if_neg h1, if_pos h2, if_neg h3]
theorem am_5 {x : Int64} {p cb : Int32} (hc : ¬ cb = 0) (h1 : am_d3 x < am_p p 42) : 1 = km_am x p cb := by
  unfold km_am
  rw [if_neg hc, if_pos h1]
theorem am_6 {x : Int64} {p cb : Int32} (hc : ¬ cb = 0) (h1 : ¬ am_d3 x < am_p p 42) (h2 : ¬ am_d3 x = am_p p 42) : 0 = km_am x p cb := by
  unfold km_am
  rw [if_neg hc, if_neg h1, if_neg h2]
theorem am_7 {x : Int64} {p cb : Int32} (hc : ¬ cb = 0) (h1 : ¬ am_d3 x < am_p p 42) (h2 : am_d3 x = am_p p 42) (h3 : am_lo x = 0) : 1 = km_am x p cb := by
  unfold km_am
  rw [if_neg hc, if_neg h1, if_pos h2, if_pos h3]
theorem am_8 {x : Int64} {p cb : Int32} (hc : ¬ cb = 0) (h1 : ¬ am_d3 x < am_p p 42) (h2 : am_d3 x = am_p p 42) (h3 : ¬ am_lo x = 0) : 0 = km_am x p cb := by
  unfold km_am
  rw [if_neg hc, if_neg h1, if_pos h2, if_neg h3]

/-! turns counted by parts; the reference's bytes -/
theorem kt_next {c d : Nat} (hc : 0 < c) (h : d % c + 1 = c) : (d + 1) / c = d / c + 1 ∧ (d + 1) % c = 0 := by
  have e := Nat.div_add_mod d c
  generalize d / c = q at e ⊢
  generalize d % c = r at e h
  have e2 : d + 1 = c * (q + 1) := by rw [Nat.mul_add, Nat.mul_one]; omega
  rw [e2]
  exact ⟨Nat.mul_div_cancel_left _ hc, Nat.mul_mod_right _ _⟩
theorem kt_same {c d : Nat} (hc : 0 < c) (h : d % c + 1 < c) : (d + 1) / c = d / c ∧ (d + 1) % c = d % c + 1 := by
  have e := Nat.div_add_mod d c
  generalize d / c = q at e ⊢
  generalize d % c = r at e h ⊢
  have e2 : d + 1 = (r + 1) + c * q := by omega
  rw [e2]
  exact ⟨by rw [Nat.add_mul_div_left _ _ hc, Nat.div_eq_of_lt h, Nat.zero_add], by rw [Nat.add_mul_mod_self_left, Nat.mod_eq_of_lt h]⟩
theorem kt_div {c w d : Nat} (h0 : c = 0 → d = 0) (h : d ≤ kt_all c w) : d / c ≤ (w + 32 - 1) / 32 := by
  unfold kt_all at h
  rcases Nat.eq_zero_or_pos c with z | z
  · rw [h0 z]; simp
  · exact Nat.div_le_of_le_mul (by rw [Nat.mul_comm]; exact h)
theorem kt_mod {c w d : Nat} (h0 : c = 0 → d = 0) (h : d ≤ kt_all c w) : d % c ≤ ((w + 32 - 1) / 32 - d / c) * c := by
  unfold kt_all at h
  have e := Nat.div_add_mod d c
  rw [show w + 32 - 1 = w + 31 by omega, Nat.sub_mul, Nat.mul_comm (d / c) c]
  omega
theorem kt_left {c w d : Nat} : ((w + 32 - 1) / 32 - d / c) * c - d % c = kt_all c w - d := by
  unfold kt_all
  have e := Nat.div_add_mod d c
  rw [show w + 32 - 1 = w + 31 by omega, Nat.sub_mul, Nat.mul_comm (d / c) c]
  omega
theorem kt_part {c w d : Nat} (h : d < kt_all c w) : d / c < (w + 31) / 32 := by
  unfold kt_all at h
  exact Nat.div_lt_of_lt_mul (by rw [Nat.mul_comm]; exact h)
theorem km_salt_eq {f s : Nat → Int32} {ns : Nat} (x : Int32) (h : ∀ j, j < ns → f j = s j) : ∀ j, j < ns + 4 → km_put f ns x j = km_cat s ns (km_by x) j := by
  intro j hj
  unfold km_cat
  rcases Nat.lt_or_ge j ns with z | z
  · rw [if_pos z, km_put_out (by omega), h j z]
  · rw [if_neg (by omega)]
    unfold km_put
    rw [if_pos (by omega)]
theorem bp_b2 (x : Int32) : x.toInt8.toInt32.toInt8.toInt32 &&& 255 = x &&& 255 := by rw [bp_b, bp_b]
theorem km_lenm : ∀ n, n < 256 → ∀ k, k < 4 → (nI (8 * n) >>> (nI (8 * k) &&& 31)) &&& 255 = km_len n (7 - k) := by decide +kernel
theorem km_shift {s f : Nat → Int32} (k w : Int32) (h0 : f 0 = s 0) (h : ∀ j, 1 ≤ j → j < 8 → f j = s (j - 1)) : ∀ j, j < 8 → upd (upd f 4 (f 4 + km_u k w s)) 0 (km_u k w s + km_v s) j = km_rd k w s j := by
  intro j hj
  have hc : j = 0 ∨ j = 1 ∨ j = 2 ∨ j = 3 ∨ j = 4 ∨ j = 5 ∨ j = 6 ∨ j = 7 := by omega
  rcases hc with rfl | rfl | rfl | rfl | rfl | rfl | rfl | rfl
  · rw [pk_us]; rfl
  · rw [pk_un (by omega), pk_un (by omega), h 1 (by omega) (by omega)]; rfl
  · rw [pk_un (by omega), pk_un (by omega), h 2 (by omega) (by omega)]; rfl
  · rw [pk_un (by omega), pk_un (by omega), h 3 (by omega) (by omega)]; rfl
  · rw [pk_un (by omega), pk_us, h 4 (by omega) (by omega)]; rfl
  · rw [pk_un (by omega), pk_un (by omega), h 5 (by omega) (by omega)]; rfl
  · rw [pk_un (by omega), pk_un (by omega), h 6 (by omega) (by omega)]; rfl
  · rw [pk_un (by omega), pk_un (by omega), h 7 (by omega) (by omega)]; rfl
theorem km_add8 (f g : Nat → Int32) : ∀ j, j < 8 → upd (upd (upd (upd (upd (upd (upd (upd f 0 (f 0 + g 0)) 1 (f 1 + g 1)) 2 (f 2 + g 2)) 3 (f 3 + g 3)) 4 (f 4 + g 4)) 5 (f 5 + g 5)) 6 (f 6 + g 6)) 7 (f 7 + g 7) j = f j + g j := by
  intro j hj
  have hc : j = 0 ∨ j = 1 ∨ j = 2 ∨ j = 3 ∨ j = 4 ∨ j = 5 ∨ j = 6 ∨ j = 7 := by omega
  rcases hc with rfl | rfl | rfl | rfl | rfl | rfl | rfl | rfl <;> rfl

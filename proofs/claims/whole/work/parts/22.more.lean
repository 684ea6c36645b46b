/-! what the walks want of the functions -/
/-- a word's four bytes from a on -/
def km_put (f : Nat → Int32) (a : Nat) (x : Int32) : Nat → Int32 := fun j => if a ≤ j ∧ j < a + 4 then km_by x (j - a) else f j
theorem km_put_in {f : Nat → Int32} {a : Nat} {x : Int32} {i : Nat} (h : i < 4) : km_put f a x (a + i) = km_by x i := by
  unfold km_put
  rw [if_pos (by omega), Nat.add_sub_cancel_left]
theorem km_put_out {f : Nat → Int32} {a : Nat} {x : Int32} {j : Nat} (h : j < a ∨ a + 4 ≤ j) : km_put f a x j = f j := by
  unfold km_put
  rw [if_neg (by omega)]
theorem km_put_eq (f : Nat → Int32) (a : Nat) (x : Int32) (j : Nat) : upd (upd (upd (upd f a (xu x 24)) (a + 1) (xu x 16 &&& 255)) (a + 2) (xu x 8 &&& 255)) (a + 3) (x &&& 255) j = km_put f a x j := by
  by_cases h3 : j = a + 3
  · subst h3; rw [pk_us, km_put_in (by omega)]; rfl
  · rw [pk_un h3]
    by_cases h2 : j = a + 2
    · subst h2; rw [pk_us, km_put_in (by omega)]; rfl
    · rw [pk_un h2]
      by_cases h1 : j = a + 1
      · subst h1; rw [pk_us, km_put_in (by omega)]; rfl
      · rw [pk_un h1]
        by_cases h0 : j = a
        · subst h0; rw [pk_us]; exact (km_put_in (i := 0) (by omega)).symm
        · rw [pk_un h0, km_put_out (by omega)]
/-- n words laid into g, four bytes each -/
def km_fin (st g : Nat → Int32) (n : Nat) : Nat → Int32 := fun j => if j < 4 * n then km_by (st (j / 4)) (j % 4) else g j
theorem km_fin_0 (st g : Nat → Int32) (j : Nat) : g j = km_fin st g 0 j := by
  unfold km_fin
  rw [if_neg (by omega)]
theorem km_fin_next (st g : Nat → Int32) (n j : Nat) : km_put (km_fin st g n) (n * 4) (st n) j = km_fin st g (n + 1) j := by
  unfold km_put km_fin
  by_cases h : n * 4 ≤ j ∧ j < n * 4 + 4
  · rw [if_pos h, if_pos (by omega), show j / 4 = n by omega, show j % 4 = j - n * 4 by omega]
  · rw [if_neg h]
    by_cases h2 : j < 4 * n
    · rw [if_pos h2, if_pos (by omega)]
    · rw [if_neg h2, if_neg (by omega)]
/-- a row with the sum of b in its first 32 places -/
def km_sum (b : Nat → Int32) (n : Nat) (g : Nat → Int32) : Nat → Int32 := km_fin (km_h (km_pad b n) (km_q n)) g 8
theorem km_sum_lo (b : Nat → Int32) (n : Nat) (g : Nat → Int32) {j : Nat} (h : j < 32) : km_sum b n g j = km_s b n j := if_pos (by omega)
theorem km_sum_hi (b : Nat → Int32) (n : Nat) (g : Nat → Int32) {j : Nat} (h : 32 ≤ j) : km_sum b n g j = g j := if_neg (by omega)
theorem km_q_lt (n : Nat) : n + 9 ≤ 64 * km_q n := by unfold km_q; omega
theorem km_q_le (n : Nat) : 64 * km_q n ≤ n + 72 := by unfold km_q; omega
theorem km_pad_in (b : Nat → Int32) {n j : Nat} (h : j < n) : km_pad b n j = b j := if_pos h
theorem km_pad_at (b : Nat → Int32) (n : Nat) : km_pad b n n = 128 := by
  unfold km_pad
  rw [if_neg (by omega), if_pos rfl]
theorem km_pad_z (b : Nat → Int32) {n j : Nat} (h1 : n < j) (h2 : j + 8 < 64 * km_q n) : km_pad b n j = 0 := by
  unfold km_pad
  rw [if_neg (by omega), if_neg (by omega), if_pos h2]
theorem km_pad_l (b : Nat → Int32) (n : Nat) {j i : Nat} (h : j + 8 = 64 * km_q n + i) : km_pad b n j = km_len n i := by
  have := km_q_lt n
  unfold km_pad
  rw [if_neg (by omega), if_neg (by omega), if_neg (by omega), show j + 8 - 64 * km_q n = i by omega]
theorem km_zeros : ∀ n, n < 256 → ((55 : Int32) - nI n) &&& 63 = nI (64 * km_q n - 9 - n) := by decide +kernel
theorem km_bits : ∀ n, n < 256 → ∀ i, i < 8 → ((((8 : Int64) * (nI n).toInt64).toUInt64 >>> ((nI (56 - 8 * i)).toInt64.toUInt64 &&& Int64.toUInt64 63)).toInt64.toInt32 &&& 255) = km_len n i := by decide +kernel
/-- states behind one block of a message that begins with a -/
theorem km_h_cat (a b : Nat → Int32) (n : Nat) : km_h (km_pad (km_cat a 64 b) (64 + n)) 1 = km_h a 1 := by
  apply km_h_congr
  intro j hj
  rw [km_pad_in _ (by omega), km_cat_lo (by omega)]
theorem km_cat_kr {a b : Nat → Int32} {k n : Nat} (ha : ∀ j, j < k → kr (a j)) (hb : ∀ j, j < n → kr (b j)) : ∀ j, j < k + n → kr (km_cat a k b j) := by
  intro j hj
  unfold km_cat
  split
  · exact ha j (by omega)
  · exact hb _ (by omega)
theorem km_kx_kr {p : Nat → Int32} {np : Nat} (h : ∀ j, j < np → kr (p j)) {c : Int32} (hc : kr c) (j : Nat) : kr (km_kx p np c j) := kr_xor (km_kb_kr h j) hc
theorem kr_54 : kr 54 := by unfold kr; decide
theorem kr_92 : kr 92 := by unfold kr; decide

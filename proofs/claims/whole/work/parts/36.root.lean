/-! the fixed words, by their roots -/
def am_x (r : Int64) : Int64 := r >>> ((18 : Int32).toInt64 &&& 63)
def am_y (r : Int64) : Int64 := r &&& 262143
def am_u0 (r : Int64) : Int64 := am_y r * am_y r
def am_t0 (r : Int64) : Int64 := 2 * am_x r * am_y r + am_u0 r >>> ((18 : Int32).toInt64 &&& 63)
def am_u (r : Int64) : Int64 := am_u0 r &&& 262143
def am_s (r : Int64) : Int64 := am_x r * am_x r + am_t0 r >>> ((18 : Int32).toInt64 &&& 63)
def am_t (r : Int64) : Int64 := am_t0 r &&& 262143
def am_d0 (r : Int64) : Int64 := am_u r * am_y r
def am_d1 (r : Int64) : Int64 := am_u r * am_x r + am_t r * am_y r + am_d0 r >>> ((18 : Int32).toInt64 &&& 63)
def am_d2 (r : Int64) : Int64 := am_t r * am_x r + am_s r * am_y r + am_d1 r >>> ((18 : Int32).toInt64 &&& 63)
def am_d3 (r : Int64) : Int64 := am_s r * am_x r + am_d2 r >>> ((18 : Int32).toInt64 &&& 63)
def am_lo (r : Int64) : Int64 := (am_d0 r &&& 262143) + (am_d1 r &&& 262143) + (am_d2 r &&& 262143)
def am_p (p : Int32) (k : Int32) : Int64 := p.toInt64 <<< (k.toInt64 &&& 63)
def am_tu (r : Int64) : Int64 := am_t r + am_u r
def km_am (r : Int64) (p cube : Int32) : Int32 :=
  if cube = 0 then (if am_s r < am_p p 28 then 1 else if am_s r = am_p p 28 then (if am_tu r = 0 then 1 else 0) else 0)
  else (if am_d3 r < am_p p 42 then 1 else if am_d3 r = am_p p 42 then (if am_lo r = 0 then 1 else 0) else 0)
def km_st (p cube : Int32) (k a : Nat) : Nat := if km_am (lN (a + 2 ^ (35 - k))) p cube = 0 then a else a + 2 ^ (35 - k)
/-- k halvings -/
def km_ro (p cube : Int32) : Nat → Nat
  | 0 => 0
  | k + 1 => km_st p cube k (km_ro p cube k)
theorem km_st_le (p cube : Int32) (k a : Nat) : km_st p cube k a ≤ a + 2 ^ (35 - k) := by
  unfold km_st
  split
  · exact Nat.le_add_right _ _
  · exact Nat.le_refl _
theorem km_ro_le (p cube : Int32) : ∀ k, k ≤ 36 → km_ro p cube k + 2 ^ (36 - k) ≤ 2 ^ 36 := by
  intro k
  induction k with
  | zero =>
    intro _
    have e : km_ro p cube 0 = 0 := rfl
    rw [e]
    omega
  | succ k ih =>
    intro h
    have h1 := ih (by omega)
    have h2 := km_st_le p cube k (km_ro p cube k)
    have e : 2 ^ (36 - k) = 2 ^ (35 - k) + 2 ^ (35 - k) := by
      rw [show 36 - k = (35 - k) + 1 by omega, Nat.pow_succ]
      omega
    show km_st p cube k (km_ro p cube k) + 2 ^ (36 - (k + 1)) ≤ 2 ^ 36
    rw [show 36 - (k + 1) = 35 - k by omega]
    omega
/-- no divisor below k -/
def km_nd (p : Nat) : Nat → Bool
  | 0 => true
  | k + 1 => km_nd p k && (decide (k < 2) || decide (p % k ≠ 0))
/-- primes below p -/
def km_np (p : Nat) : Nat := ([0, 0, 0, 1, 2, 2, 3, 3, 4, 4, 4, 4, 5, 5, 6, 6, 6, 6, 7, 7, 8, 8, 8, 8, 9, 9, 9, 9, 9, 9, 10, 10, 11, 11, 11, 11, 11, 11, 12, 12, 12, 12, 13, 13, 14, 14, 14, 14, 15, 15, 15, 15, 15, 15, 16, 16, 16, 16, 16, 16, 17, 17, 18, 18, 18, 18, 18, 18, 19, 19, 19, 19, 20, 20, 21, 21, 21, 21, 21, 21, 22, 22, 22, 22, 23, 23, 23, 23, 23, 23, 24, 24, 24, 24, 24, 24, 24, 24, 25, 25, 25, 25, 26, 26, 27, 27, 27, 27, 28, 28, 29, 29, 29, 29, 30, 30, 30, 30, 30, 30, 30, 30, 30, 30, 30, 30, 30, 30, 31, 31, 31, 31, 32, 32, 32, 32, 32, 32, 33, 33, 34, 34, 34, 34, 34, 34, 34, 34, 34, 34, 35, 35, 36, 36, 36, 36, 36, 36, 37, 37, 37, 37, 37, 37, 38, 38, 38, 38, 39, 39, 39, 39, 39, 39, 40, 40, 40, 40, 40, 40, 41, 41, 42, 42, 42, 42, 42, 42, 42, 42, 42, 42, 43, 43, 44, 44, 44, 44, 45, 45, 46, 46, 46, 46, 46, 46, 46, 46, 46, 46, 46, 46, 47, 47, 47, 47, 47, 47, 47, 47, 47, 47, 47, 47, 48, 48, 48, 48, 49, 49, 50, 50, 50, 50, 51, 51, 51, 51, 51, 51, 52, 52, 53, 53, 53, 53, 53, 53, 53, 53, 53, 53, 54, 54, 54, 54, 54, 54, 55, 55, 55, 55, 55, 55, 56, 56, 56, 56, 56, 56, 57, 57, 58, 58, 58, 58, 58, 58, 59, 59, 59, 59, 60, 60, 61, 61, 61, 61, 61, 61, 61, 61, 61, 61, 62, 62, 62, 62, 62, 62, 62, 62, 62, 62, 62, 62, 62, 62, 63, 63, 63, 63, 64] : List Nat).getD p 64
theorem km_np_next : ∀ p, p < 312 → 2 ≤ p → km_np (p + 1) = km_np p + (if km_nd p p = true then 1 else 0) := by decide +kernel
theorem km_np_lt : ∀ p, p < 313 → (km_np p < 64 ↔ p < 312) := by decide +kernel
def km_b1 (b : Bool) : Int32 := if b = true then 1 else 0
theorem km_b1_0 {b : Bool} (h : km_b1 b = 0) : b = false := by
  cases b with
  | false => rfl
  | true => exact absurd h (by decide)
theorem km_b1_1 {b : Bool} (h : ¬ km_b1 b = 0) : b = true := by
  cases b with
  | true => rfl
  | false => exact absurd rfl h

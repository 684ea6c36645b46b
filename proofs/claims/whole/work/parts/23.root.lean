/-! the fixed words, by their roots -/
def km_am (r : Int64) (p cube : Int32) : Bool :=
  let x := r >>> ((18 : Int32).toInt64 &&& 63)
  let y := r &&& 262143
  let u0 := y * y
  let t0 := 2 * x * y + u0 >>> ((18 : Int32).toInt64 &&& 63)
  let u := u0 &&& 262143
  let s := x * x + t0 >>> ((18 : Int32).toInt64 &&& 63)
  let t := t0 &&& 262143
  if cube = 0 then
    decide (s < p.toInt64 <<< ((28 : Int32).toInt64 &&& 63)) || (decide (s = p.toInt64 <<< ((28 : Int32).toInt64 &&& 63)) && decide (t + u = 0))
  else
    let d0 := u * y
    let d1 := u * x + t * y + d0 >>> ((18 : Int32).toInt64 &&& 63)
    let d2 := t * x + s * y + d1 >>> ((18 : Int32).toInt64 &&& 63)
    let d3 := s * x + d2 >>> ((18 : Int32).toInt64 &&& 63)
    let low := (d0 &&& 262143) + (d1 &&& 262143) + (d2 &&& 262143)
    decide (d3 < p.toInt64 <<< ((42 : Int32).toInt64 &&& 63)) || (decide (d3 = p.toInt64 <<< ((42 : Int32).toInt64 &&& 63)) && decide (low = 0))
/-- k halvings -/
def km_ro (p cube : Int32) : Nat → Nat
  | 0 => 0
  | k + 1 => if km_am (lN (km_ro p cube k + 2 ^ (35 - k))) p cube = true then km_ro p cube k + 2 ^ (35 - k) else km_ro p cube k
/-- no divisor below k -/
def km_nd (p : Nat) : Nat → Bool
  | 0 => true
  | k + 1 => km_nd p k && (decide (k < 2) || decide (p % k ≠ 0))
/-- primes below p -/
def km_np : Nat → Nat
  | 0 => 0
  | p + 1 => km_np p + (if 2 ≤ p ∧ km_nd p p = true then 1 else 0)

/-! ===== Int32 by its bits: bt x i ===== -/
def bt (x : Int32) (i : Nat) : Bool := x.toBitVec.getLsbD i
theorem b_ext {x y : Int32} (h : ∀ i, i < 32 → bt x i = bt y i) : x = y := Int32.toBitVec_inj.mp (BitVec.eq_of_getLsbD_eq (fun i hi => h i hi))
theorem b_or (x y : Int32) (i : Nat) : bt (x ||| y) i = (bt x i || bt y i) := by unfold bt; rw [Int32.toBitVec_or, BitVec.getLsbD_or]
theorem b_and (x y : Int32) (i : Nat) : bt (x &&& y) i = (bt x i && bt y i) := by unfold bt; rw [Int32.toBitVec_and, BitVec.getLsbD_and]
theorem b_xor (x y : Int32) (i : Nat) : bt (x ^^^ y) i = (bt x i ^^ bt y i) := by unfold bt; rw [Int32.toBitVec_xor, BitVec.getLsbD_xor]
theorem b_big {x : Int32} {i : Nat} (h : 32 ≤ i) : bt x i = false := BitVec.getLsbD_of_ge _ _ h
theorem b_255 (i : Nat) : bt 255 i = decide (i < 8) := by
  rcases Nat.lt_or_ge i 32 with h | h
  · exact (by decide +kernel : ∀ i, i < 32 → bt 255 i = decide (i < 8)) i h
  · rw [b_big h, decide_eq_false (by omega)]
theorem b_65535 (i : Nat) : bt 65535 i = decide (i < 16) := by
  rcases Nat.lt_or_ge i 32 with h | h
  · exact (by decide +kernel : ∀ i, i < 32 → bt 65535 i = decide (i < 16)) i h
  · rw [b_big h, decide_eq_false (by omega)]
theorem b_m1 : ∀ i, i < 32 → bt (-1) i = true := by decide +kernel
theorem b_0 (i : Nat) : bt 0 i = false := BitVec.getLsbD_zero
theorem s_l : ∀ n, n < 32 → ((nI n &&& 31).toBitVec.smod 32).toNat = n := by decide +kernel
theorem s_u : ∀ n, n < 32 → (((nI n).toUInt32 &&& Int32.toUInt32 31).toBitVec % 32).toNat = n := by decide +kernel
theorem b_shl (n : Nat) (hn : n < 32) (x : Int32) {i : Nat} (hi : i < 32) : bt (x <<< (nI n &&& 31)) i = (decide (n ≤ i) && bt x (i - n)) := by
  unfold bt
  rw [Int32.toBitVec_shiftLeft]
  show (x.toBitVec <<< ((nI n &&& 31).toBitVec.smod 32).toNat).getLsbD i = _
  rw [s_l n hn, BitVec.getLsbD_shiftLeft]
  rcases Nat.lt_or_ge i n with h | h
  · simp [h, Nat.not_le.mpr h]
  · simp [hi, h, Nat.not_lt.mpr h]
theorem b_ushr (n : Nat) (hn : n < 32) (x : Int32) (i : Nat) : bt ((x.toUInt32 >>> ((nI n).toUInt32 &&& Int32.toUInt32 31)).toInt32) i = bt x (n + i) := by
  show (x.toUInt32 >>> ((nI n).toUInt32 &&& Int32.toUInt32 31)).toBitVec.getLsbD i = x.toUInt32.toBitVec.getLsbD (n + i)
  rw [UInt32.toBitVec_shiftRight]
  show (x.toUInt32.toBitVec >>> (((nI n).toUInt32 &&& Int32.toUInt32 31).toBitVec % 32).toNat).getLsbD i = _
  rw [s_u n hn, BitVec.getLsbD_ushiftRight]
theorem b_sshr (n : Nat) (hn : n < 32) (x : Int32) {i : Nat} (hi : i < 32) : bt (x >>> (nI n &&& 31)) i = if n + i < 32 then bt x (n + i) else bt x 31 := by
  unfold bt
  rw [Int32.toBitVec_shiftRight]
  show (x.toBitVec.sshiftRight ((nI n &&& 31).toBitVec.smod 32).toNat).getLsbD i = _
  rw [s_l n hn, BitVec.getLsbD_sshiftRight, BitVec.msb_eq_getLsbD_last]
  simp [hi]
theorem b_shl8 (x : Int32) {i : Nat} (hi : i < 32) : bt (x <<< ((8 : Int32) &&& 31)) i = (decide (8 ≤ i) && bt x (i - 8)) := b_shl 8 (by omega) x hi
theorem b_shl16 (x : Int32) {i : Nat} (hi : i < 32) : bt (x <<< ((16 : Int32) &&& 31)) i = (decide (16 ≤ i) && bt x (i - 16)) := b_shl 16 (by omega) x hi
theorem b_shl24 (x : Int32) {i : Nat} (hi : i < 32) : bt (x <<< ((24 : Int32) &&& 31)) i = (decide (24 ≤ i) && bt x (i - 24)) := b_shl 24 (by omega) x hi
theorem b_sshr8 (x : Int32) {i : Nat} (hi : i < 32) : bt (x >>> ((8 : Int32) &&& 31)) i = if 8 + i < 32 then bt x (8 + i) else bt x 31 := b_sshr 8 (by omega) x hi
/-! ===== a byte read unsigned ===== -/
theorem bp_b (x : Int32) : x.toInt8.toInt32 &&& 255 = x &&& 255 := by
  apply Int32.toBitVec_inj.mp
  rw [Int32.toBitVec_and, Int32.toBitVec_and, Int8.toBitVec_toInt32, Int32.toBitVec_toInt8]
  apply BitVec.eq_of_getLsbD_eq
  intro i hi
  rw [BitVec.getLsbD_and, BitVec.getLsbD_and]
  have hm : ∀ i < 32, 8 ≤ i → (255 : Int32).toBitVec.getLsbD i = false := by decide
  rcases Nat.lt_or_ge i 8 with z | z
  · rw [BitVec.getLsbD_signExtend, BitVec.getLsbD_signExtend, if_pos z, if_pos hi]
    simp only [z, hi, decide_true, Bool.true_and]
  · rw [hm i hi z]; simp
/-- x >>> n -/
def xu (x n : Int32) : Int32 := (x.toUInt32 >>> (n.toUInt32 &&& Int32.toUInt32 31)).toInt32
/-- x turned n places down -/
def xr (x n : Int32) : Int32 := xu x n ||| (x <<< (-n &&& 31))
theorem xu_bt (n : Nat) (hn : n < 32) (x : Int32) (i : Nat) : bt (xu x (nI n)) i = bt x (n + i) := b_ushr n hn x i
/-- a byte: 0 .. 255 -/
def kr (x : Int32) : Prop := x &&& 255 = x
theorem kr_bt {x : Int32} (h : kr x) {i : Nat} (hi : 8 ≤ i) : bt x i = false := by
  have h' : x &&& 255 = x := h
  have e : bt (x &&& 255) i = bt x i := by rw [h']
  rw [b_and, b_255, decide_eq_false (by omega), Bool.and_false] at e
  exact e.symm
theorem kr_of {x : Int32} (h : ∀ i, 8 ≤ i → i < 32 → bt x i = false) : kr x := by
  apply b_ext
  intro i hi
  rw [b_and, b_255]
  rcases Nat.lt_or_ge i 8 with z | z
  · rw [decide_eq_true z, Bool.and_true]
  · rw [h i z hi, Bool.false_and]
theorem kr_and (x : Int32) : kr (x &&& 255) := kr_of fun i h _ => by rw [b_and, b_255, decide_eq_false (by omega), Bool.and_false]
theorem kr_xor {x y : Int32} (hx : kr x) (hy : kr y) : kr (x ^^^ y) := kr_of fun i h _ => by rw [b_xor, kr_bt hx h, kr_bt hy h]; rfl
theorem kr_xor_and (x y : Int32) : (x ^^^ y) &&& 255 = (x &&& 255) ^^^ (y &&& 255) := by
  apply b_ext
  intro i _
  simp only [b_and, b_xor]
  cases bt x i <;> cases bt y i <;> cases bt 255 i <;> rfl
theorem kr_nI : ∀ k, k < 256 → nI k &&& 255 = nI k := by decide +kernel
theorem kr_small {x : Int32} (h1 : ¬ x < 0) (h2 : ¬ 255 < x) : kr x := by
  obtain ⟨j, hj, rfl⟩ := nI_of2 (M := 255) (n := 255) (by decide) h1 (Int32.not_lt.mp h2)
  exact kr_nI j (by omega)
theorem kr_zero : kr 0 := by unfold kr; decide
theorem kr_128 : kr 128 := by unfold kr; decide
theorem km_push (x b : Int32) (h : kr b) : x <<< ((8 : Int32) &&& 31) ||| b = x * 256 + b := by
  apply Int32.toBitVec_inj.mp
  rw [Int32.toBitVec_or, Int32.toBitVec_add, Int32.toBitVec_mul]
  have e1 : (x <<< ((8 : Int32) &&& 31)).toBitVec = x.toBitVec <<< 8 := by
    rw [Int32.toBitVec_shiftLeft]
    show x.toBitVec <<< (((8 : Int32) &&& 31).toBitVec.smod 32).toNat = _
    rw [show (((8 : Int32) &&& 31).toBitVec.smod 32).toNat = 8 by decide +kernel]
  have e2 : x.toBitVec * (256 : Int32).toBitVec = x.toBitVec <<< 8 := by
    rw [show (256 : Int32).toBitVec = BitVec.twoPow 32 8 by decide +kernel, BitVec.mul_twoPow_eq_shiftLeft]
  rw [e1, e2]
  symm
  apply BitVec.add_eq_or_of_and_eq_zero
  apply BitVec.eq_of_getLsbD_eq
  intro i hi
  rw [BitVec.getLsbD_and, BitVec.getLsbD_shiftLeft, BitVec.getLsbD_zero]
  rcases Nat.lt_or_ge i 8 with z | z
  · simp [z]
  · rw [show b.toBitVec.getLsbD i = false from kr_bt h z, Bool.and_false]
/-- byte i of a word, the highest first -/
def km_by (x : Int32) : Nat → Int32
  | 0 => xu x 24
  | 1 => xu x 16 &&& 255
  | 2 => xu x 8 &&& 255
  | _ => x &&& 255
theorem km_by_kr (x : Int32) (i : Nat) : kr (km_by x i) := by
  unfold km_by
  split
  · exact kr_of fun i h _ => by
      show bt (xu x (nI 24)) i = false
      rw [xu_bt 24 (by omega)]
      exact b_big (by omega)
  · exact kr_and _
  · exact kr_and _
  · exact kr_and _
theorem km_by_nar (x : Int32) (i : Nat) (hi : i < 4) : (x >>> (nI (24 - 8 * i) &&& 31)).toInt8.toInt32 &&& 255 = km_by x i := by
  rw [bp_b]
  apply b_ext
  intro j hj
  rw [b_and, b_255, b_sshr _ (by omega) x hj]
  have hc : i = 0 ∨ i = 1 ∨ i = 2 ∨ i = 3 := by omega
  rcases hc with rfl | rfl | rfl | rfl
  · show _ = bt (xu x (nI 24)) j
    rw [xu_bt 24 (by omega)]
    rcases Nat.lt_or_ge j 8 with z | z
    · rw [if_pos (by omega), decide_eq_true z, Bool.and_true]
    · rw [decide_eq_false (by omega), Bool.and_false, b_big (by omega)]
  · show _ = bt (xu x (nI 16) &&& 255) j
    rw [b_and, xu_bt 16 (by omega), b_255]
    rcases Nat.lt_or_ge j 8 with z | z
    · rw [if_pos (by omega)]
    · rw [decide_eq_false (by omega), Bool.and_false, Bool.and_false]
  · show _ = bt (xu x (nI 8) &&& 255) j
    rw [b_and, xu_bt 8 (by omega), b_255]
    rcases Nat.lt_or_ge j 8 with z | z
    · rw [if_pos (by omega)]
    · rw [decide_eq_false (by omega), Bool.and_false, Bool.and_false]
  · show _ = bt (x &&& 255) j
    rw [b_and, b_255]
    rcases Nat.lt_or_ge j 8 with z | z
    · rw [if_pos (by omega)]
      show (bt x (0 + j) && _) = _
      rw [Nat.zero_add]
    · rw [decide_eq_false (by omega), Bool.and_false, Bool.and_false]

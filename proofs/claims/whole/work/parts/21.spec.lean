/-! the sum, the mark and the key's turns, as functions -/
def kK : Nat → Int32 := fun i => ([1116352408, 1899447441, -1245643825, -373957723, 961987163, 1508970993, -1841331548, -1424204075, -670586216, 310598401, 607225278, 1426881987, 1925078388, -2132889090, -1680079193, -1046744716, -459576895, -272742522, 264347078, 604807628, 770255983, 1249150122, 1555081692, 1996064986, -1740746414, -1473132947, -1341970488, -1084653625, -958395405, -710438585, 113926993, 338241895, 666307205, 773529912, 1294757372, 1396182291, 1695183700, 1986661051, -2117940946, -1838011259, -1564481375, -1474664885, -1035236496, -949202525, -778901479, -694614492, -200395387, 275423344, 430227734, 506948616, 659060556, 883997877, 958139571, 1322822218, 1537002063, 1747873779, 1955562222, 2024104815, -2067236844, -1933114872, -1866530822, -1538233109, -1090935817, -965641998] : List Int32).getD i 0
def kH : Nat → Int32 := fun i => ([1779033703, -1150833019, 1013904242, -1521486534, 1359893119, -1694144372, 528734635, 1541459225] : List Int32).getD i 0
def km_z0 (x : Int32) : Int32 := xr x 7 ^^^ xr x 18 ^^^ xu x 3
def km_z1 (x : Int32) : Int32 := xr x 17 ^^^ xr x 19 ^^^ xu x 10
def km_y0 (x : Int32) : Int32 := xr x 2 ^^^ xr x 13 ^^^ xr x 22
def km_y1 (x : Int32) : Int32 := xr x 6 ^^^ xr x 11 ^^^ xr x 25
/-- the words of a block, k of the 48 further ones laid -/
def km_w (b : Nat → Int32) : Nat → Nat → Int32
  | 0 => b
  | k + 1 => upd (km_w b k) (16 + k) (km_z1 (km_w b k (14 + k)) + km_w b k (9 + k) + km_z0 (km_w b k (1 + k)) + km_w b k k)
def km_W (b : Nat → Int32) : Nat → Int32 := km_w b 48
theorem km_w_stay (b : Nat → Int32) (k d j : Nat) (h : j < 16 + k) : km_w b (k + d) j = km_w b k j := by
  induction d with
  | zero => rfl
  | succ d ih =>
    rw [← ih]
    show upd (km_w b (k + d)) (16 + (k + d)) _ j = _
    exact pk_un (by omega)
theorem km_W_at (b : Nat → Int32) {k j : Nat} (h : j < 16 + k) (hk : k ≤ 48) : km_W b j = km_w b k j := by
  have e := km_w_stay b k (48 - k) j h
  rw [Nat.add_sub_cancel' hk] at e
  exact e
theorem km_W_lo (b : Nat → Int32) {j : Nat} (h : j < 16) : km_W b j = b j := km_W_at (k := 0) b (by omega) (by omega)
theorem km_W_hi (b : Nat → Int32) {t : Nat} (h1 : 16 ≤ t) (h2 : t < 64) : km_W b t = km_z1 (km_W b (t - 2)) + km_W b (t - 7) + km_z0 (km_W b (t - 15)) + km_W b (t - 16) := by
  obtain ⟨k, rfl⟩ : ∃ k, t = 16 + k := ⟨t - 16, by omega⟩
  rw [show 16 + k - 2 = 14 + k by omega, show 16 + k - 7 = 9 + k by omega, show 16 + k - 15 = 1 + k by omega, show 16 + k - 16 = k by omega]
  rw [km_W_at (k := k + 1) (j := 16 + k) b (by omega) (by omega), km_W_at (k := k) (j := 14 + k) b (by omega) (by omega), km_W_at (k := k) (j := 9 + k) b (by omega) (by omega), km_W_at (k := k) (j := 1 + k) b (by omega) (by omega), km_W_at (k := k) (j := k) b (by omega) (by omega)]
  show upd _ (16 + k) _ (16 + k) = _
  exact pk_us
theorem km_W_congr {b b' : Nat → Int32} (h : ∀ j, j < 16 → b j = b' j) : ∀ t, t < 64 → km_W b t = km_W b' t := by
  intro t
  induction t using Nat.strongRecOn with
  | _ t ih =>
    intro ht
    rcases Nat.lt_or_ge t 16 with z | z
    · rw [km_W_lo b z, km_W_lo b' z, h t z]
    · rw [km_W_hi b z ht, km_W_hi b' z ht, ih (t - 2) (by omega) (by omega), ih (t - 7) (by omega) (by omega), ih (t - 15) (by omega) (by omega), ih (t - 16) (by omega) (by omega)]
/-- a round: the eight words a .. h are s 0 .. s 7 -/
def km_u (k w : Int32) (s : Nat → Int32) : Int32 := s 7 + km_y1 (s 4) + (s 4 &&& s 5 ^^^ (s 4 ^^^ (-1)) &&& s 6) + k + w
def km_v (s : Nat → Int32) : Int32 := km_y0 (s 0) + (s 0 &&& s 1 ^^^ s 0 &&& s 2 ^^^ s 1 &&& s 2)
def km_rd (k w : Int32) (s : Nat → Int32) : Nat → Int32
  | 0 => km_u k w s + km_v s
  | 1 => s 0
  | 2 => s 1
  | 3 => s 2
  | 4 => s 3 + km_u k w s
  | 5 => s 4
  | 6 => s 5
  | _ => s 6
def km_r (w s : Nat → Int32) : Nat → Nat → Int32
  | 0 => s
  | t + 1 => km_rd (kK t) (w t) (km_r w s t)
theorem km_r_congr {w w' : Nat → Int32} (s : Nat → Int32) : ∀ n, (∀ t, t < n → w t = w' t) → km_r w s n = km_r w' s n := by
  intro n
  induction n with
  | zero => intro _; rfl
  | succ n ih =>
    intro h
    show km_rd (kK n) (w n) (km_r w s n) = km_rd (kK n) (w' n) (km_r w' s n)
    rw [ih (fun t ht => h t (by omega)), h n (by omega)]
theorem km_rd_congr {s s' : Nat → Int32} (k w : Int32) (h : ∀ j, j < 8 → s j = s' j) : km_rd k w s = km_rd k w s' := by
  have h0 := h 0 (by omega)
  have h1 := h 1 (by omega)
  have h2 := h 2 (by omega)
  have h3 := h 3 (by omega)
  have h4 := h 4 (by omega)
  have h5 := h 5 (by omega)
  have h6 := h 6 (by omega)
  have h7 := h 7 (by omega)
  have eu : km_u k w s = km_u k w s' := by unfold km_u; rw [h4, h5, h6, h7]
  have ev : km_v s = km_v s' := by unfold km_v; rw [h0, h1, h2]
  funext j
  unfold km_rd
  split
  · rw [eu, ev]
  · exact h0
  · exact h1
  · exact h2
  · rw [eu, h3]
  · exact h4
  · exact h5
  · exact h6
theorem km_r_congr8 {s s' : Nat → Int32} (w : Nat → Int32) (h : ∀ j, j < 8 → s j = s' j) : ∀ n j, j < 8 → km_r w s n j = km_r w s' n j := by
  intro n
  induction n with
  | zero => exact h
  | succ n ih =>
    intro j hj
    show km_rd (kK n) (w n) (km_r w s n) j = km_rd (kK n) (w n) (km_r w s' n) j
    rw [km_rd_congr (kK n) (w n) ih]
/-- the eight words behind a block of sixteen words b -/
def km_c (b s : Nat → Int32) : Nat → Int32 := fun j => s j + km_r (km_W b) s 64 j
theorem km_c_congr {b b' : Nat → Int32} (s : Nat → Int32) (h : ∀ j, j < 16 → b j = b' j) : km_c b s = km_c b' s := by
  unfold km_c
  rw [km_r_congr s 64 (km_W_congr h)]
theorem km_c_congr8 {s s' : Nat → Int32} (b : Nat → Int32) (h : ∀ j, j < 8 → s j = s' j) : ∀ j, j < 8 → km_c b s j = km_c b s' j := by
  intro j hj
  show s j + _ = s' j + _
  rw [h j hj, km_r_congr8 (km_W b) h 64 j hj]
/-- i bytes from a on, as a number, the highest first -/
def km_p (m : Nat → Int32) (a : Nat) : Nat → Int32
  | 0 => 0
  | i + 1 => km_p m a i * 256 + m (a + i)
theorem km_p_congr {m m' : Nat → Int32} {a : Nat} : ∀ i, (∀ j, j < i → m (a + j) = m' (a + j)) → km_p m a i = km_p m' a i := by
  intro i
  induction i with
  | zero => intro _; rfl
  | succ i ih =>
    intro h
    show km_p m a i * 256 + m (a + i) = km_p m' a i * 256 + m' (a + i)
    rw [ih (fun j hj => h j (by omega)), h i (by omega)]
/-- the words of block q -/
def km_b (m : Nat → Int32) (q : Nat) : Nat → Int32 := fun j => km_p m (64 * q + 4 * j) 4
/-- the eight words behind q blocks of the bytes m -/
def km_h (m : Nat → Int32) : Nat → Nat → Int32
  | 0 => kH
  | q + 1 => km_c (km_b m q) (km_h m q)
theorem km_h_congr {m m' : Nat → Int32} : ∀ q, (∀ j, j < 64 * q → m j = m' j) → km_h m q = km_h m' q := by
  intro q
  induction q with
  | zero => intro _; rfl
  | succ q ih =>
    intro h
    show km_c (km_b m q) (km_h m q) = km_c (km_b m' q) (km_h m' q)
    rw [ih (fun j hj => h j (by omega))]
    exact km_c_congr _ (fun j hj => km_p_congr 4 (fun i hi => h _ (by omega)))
/-- how many blocks n bytes make -/
def km_q (n : Nat) : Nat := (n + 72) / 64
def km_len (n : Nat) : Nat → Int32 := fun i => if i < 6 then 0 else if i = 6 then nI (8 * n / 256) else nI (8 * n % 256)
/-- the row b of n bytes, and what comes behind it -/
def km_pad (b : Nat → Int32) (n : Nat) : Nat → Int32 := fun j => if j < n then b j else if j = n then 128 else if j + 8 < 64 * km_q n then 0 else km_len n (j + 8 - 64 * km_q n)
theorem km_pad_congr {b b' : Nat → Int32} {n : Nat} (h : ∀ j, j < n → b j = b' j) : km_pad b n = km_pad b' n := by
  funext j
  unfold km_pad
  rcases Nat.lt_or_ge j n with z | z
  · rw [if_pos z, if_pos z, h j z]
  · rw [if_neg (show ¬ j < n by omega), if_neg (show ¬ j < n by omega)]
theorem km_len_kr {n : Nat} (h : n < 8192) (i : Nat) : kr (km_len n i) := by
  unfold km_len
  split
  · exact kr_zero
  · split
    · exact kr_nI _ (by omega)
    · exact kr_nI _ (by omega)
theorem km_pad_kr {b : Nat → Int32} {n : Nat} (hn : n < 8192) (h : ∀ j, j < n → kr (b j)) (j : Nat) : kr (km_pad b n j) := by
  unfold km_pad
  split
  · exact h j (by omega)
  · split
    · exact kr_128
    · split
      · exact kr_zero
      · exact km_len_kr hn _
/-- the sum of the row b of n bytes -/
def km_s (b : Nat → Int32) (n : Nat) : Nat → Int32 := fun j => km_by (km_h (km_pad b n) (km_q n) (j / 4)) (j % 4)
theorem km_s_congr {b b' : Nat → Int32} {n : Nat} (h : ∀ j, j < n → b j = b' j) : km_s b n = km_s b' n := by
  unfold km_s
  rw [km_pad_congr h]
theorem km_s_kr (b : Nat → Int32) (n j : Nat) : kr (km_s b n j) := km_by_kr _ _
/-- the key's block -/
def km_kb (p : Nat → Int32) (np : Nat) : Nat → Int32 := fun j => if 64 < np then (if j < 32 then km_s p np j else 0) else if j < np then p j else 0
theorem km_kb_congr {p p' : Nat → Int32} {np : Nat} (h : ∀ j, j < np → p j = p' j) : km_kb p np = km_kb p' np := by
  funext j
  unfold km_kb
  rw [km_s_congr h]
  rcases Nat.lt_or_ge j np with z | z
  · rw [h j z]
  · rw [if_neg (by omega : ¬ j < np)]
    rw [if_neg (by omega : ¬ j < np)]
theorem km_kb_kr {p : Nat → Int32} {np : Nat} (h : ∀ j, j < np → kr (p j)) (j : Nat) : kr (km_kb p np j) := by
  unfold km_kb
  split
  · split
    · exact km_s_kr _ _ _
    · exact kr_zero
  · split
    · exact h j (by omega)
    · exact kr_zero
def km_kx (p : Nat → Int32) (np : Nat) (c : Int32) : Nat → Int32 := fun j => km_kb p np j ^^^ c
def km_cat (a : Nat → Int32) (k : Nat) (b : Nat → Int32) : Nat → Int32 := fun j => if j < k then a j else b (j - k)
theorem km_cat_congr {a b b' : Nat → Int32} {k n : Nat} (h : ∀ j, j < n → b j = b' j) : ∀ j, j < k + n → km_cat a k b j = km_cat a k b' j := by
  intro j hj
  unfold km_cat
  rcases Nat.lt_or_ge j k with z | z
  · rw [if_pos z, if_pos z]
  · rw [if_neg (by omega), if_neg (by omega), h (j - k) (by omega)]
theorem km_cat_lo {a b : Nat → Int32} {k j : Nat} (h : j < k) : km_cat a k b j = a j := if_pos h
theorem km_cat_hi {a b : Nat → Int32} {k : Nat} (j : Nat) : km_cat a k b (k + j) = b j := by
  unfold km_cat
  rw [if_neg (by omega), Nat.add_sub_cancel_left]
/-- the inner sum, and the mark, of the row x of nx bytes under the key p of np bytes -/
def km_in (p : Nat → Int32) (np : Nat) (x : Nat → Int32) (nx : Nat) : Nat → Int32 := km_s (km_cat (km_kx p np 54) 64 x) (64 + nx)
def km_mk (p : Nat → Int32) (np : Nat) (x : Nat → Int32) (nx : Nat) : Nat → Int32 := km_s (km_cat (km_kx p np 92) 64 (km_in p np x nx)) 96
theorem km_mk_congr {p p' x x' : Nat → Int32} {np nx : Nat} (hp : ∀ j, j < np → p j = p' j) (hx : ∀ j, j < nx → x j = x' j) : km_mk p np x nx = km_mk p' np x' nx := by
  unfold km_mk km_in km_kx
  rw [km_kb_congr hp, km_s_congr (km_cat_congr (k := 64) hx)]
theorem km_mk_kr (p : Nat → Int32) (np : Nat) (x : Nat → Int32) (nx j : Nat) : kr (km_mk p np x nx j) := km_s_kr _ _ _
/-- U of turn d + 1 of all turns (d counts from 0; c turns a part) -/
def km_U (p : Nat → Int32) (np : Nat) (s : Nat → Int32) (ns c : Nat) : Nat → Nat → Int32
  | 0 => fun _ => 0
  | d + 1 => if d % c = 0 then km_mk p np (km_cat s ns (km_by (nI (d / c + 1)))) (ns + 4) else km_mk p np (km_U p np s ns c d) 32
/-- the parts behind d turns -/
def km_K (p : Nat → Int32) (np : Nat) (s : Nat → Int32) (ns c : Nat) : Nat → Nat → Int32
  | 0 => fun _ => 0
  | d + 1 => fun j => if j / 32 = d / c then km_K p np s ns c d j ^^^ km_U p np s ns c (d + 1) (j % 32) else km_K p np s ns c d j
theorem km_U_kr (p : Nat → Int32) (np : Nat) (s : Nat → Int32) (ns c d j : Nat) : kr (km_U p np s ns c d j) := by
  cases d with
  | zero => exact kr_zero
  | succ d =>
    unfold km_U
    split
    · exact km_mk_kr _ _ _ _ _
    · exact km_mk_kr _ _ _ _ _
theorem km_K_kr (p : Nat → Int32) (np : Nat) (s : Nat → Int32) (ns c d j : Nat) : kr (km_K p np s ns c d j) := by
  induction d with
  | zero => exact kr_zero
  | succ d ih =>
    show kr (if j / 32 = d / c then km_K p np s ns c d j ^^^ km_U p np s ns c (d + 1) (j % 32) else km_K p np s ns c d j)
    split
    · exact kr_xor ih (km_U_kr _ _ _ _ _ _ _)
    · exact ih
/-! a sum under way: n bytes of the message m are taken -/
def km_2 : Nat → Int32
  | 0 => 1
  | i + 1 => km_2 i * 256
def km_ok (m : Nat → Int32) (n : Nat) (w : Nat → Int32) : Prop := ∀ j, j < 16 → 4 * j ≤ n % 64 → ∃ x : Int32, w j = x * km_2 (min 4 (n % 64 - 4 * j)) + km_p m (64 * (n / 64) + 4 * j) (min 4 (n % 64 - 4 * j))
theorem km_ok_start (m : Nat → Int32) {n : Nat} (w : Nat → Int32) (h : n % 64 = 0) : km_ok m n w := by
  intro j _ h2
  rw [h] at h2 ⊢
  refine ⟨w j, ?_⟩
  rw [show min 4 (0 - 4 * j) = 0 by omega]
  show w j = w j * 1 + 0
  rw [Int32.mul_one, Int32.add_zero]
/-- the word under way, with one byte more -/
theorem km_ok_push {m : Nat → Int32} {n : Nat} {w : Nat → Int32} (h : km_ok m n w) (hm : kr (m n)) : ∀ j, j < 16 → 4 * j ≤ n % 64 + 1 → ∃ x : Int32, upd w (n % 64 / 4) (w (n % 64 / 4) <<< ((8 : Int32) &&& 31) ||| m n) j = x * km_2 (min 4 (n % 64 + 1 - 4 * j)) + km_p m (64 * (n / 64) + 4 * j) (min 4 (n % 64 + 1 - 4 * j)) := by
  intro j hj h4
  by_cases hc : j = n % 64 / 4
  · subst hc
    rw [pk_us, km_push _ _ hm]
    obtain ⟨x, hx⟩ := h (n % 64 / 4) hj (by omega)
    refine ⟨x, ?_⟩
    have e1 : min 4 (n % 64 - 4 * (n % 64 / 4)) = n % 64 % 4 := by omega
    have e2 : min 4 (n % 64 + 1 - 4 * (n % 64 / 4)) = n % 64 % 4 + 1 := by omega
    rw [e1] at hx
    rw [e2, hx]
    show _ = x * (km_2 (n % 64 % 4) * 256) + (km_p m (64 * (n / 64) + 4 * (n % 64 / 4)) (n % 64 % 4) * 256 + m (64 * (n / 64) + 4 * (n % 64 / 4) + n % 64 % 4))
    rw [show 64 * (n / 64) + 4 * (n % 64 / 4) + n % 64 % 4 = n by omega]
    generalize km_p m _ _ = a
    generalize km_2 _ = b
    rw [Int32.add_mul, Int32.mul_assoc, Int32.add_assoc]
  · rw [pk_un hc]
    rcases Nat.lt_or_ge (n % 64) (4 * j) with z | z
    · refine ⟨w j, ?_⟩
      rw [show min 4 (n % 64 + 1 - 4 * j) = 0 by omega]
      show w j = w j * 1 + 0
      rw [Int32.mul_one, Int32.add_zero]
    · obtain ⟨x, hx⟩ := h j hj z
      refine ⟨x, ?_⟩
      rw [show min 4 (n % 64 + 1 - 4 * j) = 4 by omega]
      rw [show min 4 (n % 64 - 4 * j) = 4 by omega] at hx
      exact hx
theorem km_ok_next {m : Nat → Int32} {n : Nat} {w : Nat → Int32} (h : km_ok m n w) (hm : kr (m n)) (hn : n % 64 < 63) : km_ok m (n + 1) (upd w (n % 64 / 4) (w (n % 64 / 4) <<< ((8 : Int32) &&& 31) ||| m n)) := by
  intro j hj h4
  have e1 : (n + 1) % 64 = n % 64 + 1 := by omega
  have e2 : (n + 1) / 64 = n / 64 := by omega
  rw [e1] at h4
  rw [e1, e2]
  exact km_ok_push h hm j hj h4
theorem km_ok_full {m : Nat → Int32} {n : Nat} {w : Nat → Int32} (h : km_ok m n w) (hm : kr (m n)) (hn : n % 64 = 63) : ∀ j, j < 16 → upd w (n % 64 / 4) (w (n % 64 / 4) <<< ((8 : Int32) &&& 31) ||| m n) j = km_b m (n / 64) j := by
  intro j hj
  obtain ⟨x, hx⟩ := km_ok_push h hm j hj (by omega)
  rw [show min 4 (n % 64 + 1 - 4 * j) = 4 by omega, show km_2 4 = 0 by decide, Int32.mul_zero, Int32.zero_add] at hx
  exact hx
/-- a block is full: the eight words behind it -/
theorem km_ok_block {m : Nat → Int32} {n : Nat} {w : Nat → Int32} (h : km_ok m n w) (hm : kr (m n)) (hn : n % 64 = 63) : (fun j => km_h m (n / 64) j + km_r (km_W (upd w (n % 64 / 4) (w (n % 64 / 4) <<< ((8 : Int32) &&& 31) ||| m n))) (km_h m (n / 64)) 64 j) = km_h m ((n + 1) / 64) := by
  have e : (n + 1) / 64 = n / 64 + 1 := by omega
  rw [e]
  exact km_c_congr _ (km_ok_full h hm hn)

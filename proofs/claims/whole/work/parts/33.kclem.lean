/-! the class's rows and turns, purely -/
def km_fo (k lm : Nat → Int32) (pd i : Nat) : Nat → Int32 := fun j => if pd * 32 ≤ j ∧ j < pd * 32 + i then k j ^^^ lm (j - pd * 32) else k j
theorem km_fo_0 (k lm : Nat → Int32) (pd j : Nat) : k j = km_fo k lm pd 0 j := by
  unfold km_fo
  rw [if_neg (by omega)]
theorem km_fo_next (k lm : Nat → Int32) (pd i j : Nat) : upd (km_fo k lm pd i) (pd * 32 + i) (km_fo k lm pd i (pd * 32 + i) ^^^ lm i) j = km_fo k lm pd (i + 1) j := by
  by_cases e : j = pd * 32 + i
  · subst e
    rw [pk_us]
    unfold km_fo
    rw [if_neg (by omega), if_pos (by omega), show pd * 32 + i - pd * 32 = i by omega]
  · rw [pk_un e]
    unfold km_fo
    by_cases h : pd * 32 ≤ j ∧ j < pd * 32 + i
    · rw [if_pos h, if_pos (by omega)]
    · rw [if_neg h, if_neg (by omega)]
theorem km_K_next (p : Nat → Int32) (np : Nat) (s : Nat → Int32) (ns c d j : Nat) : km_fo (km_K p np s ns c d) (km_U p np s ns c (d + 1)) (d / c) 32 j = km_K p np s ns c (d + 1) j := by
  show _ = (if j / 32 = d / c then km_K p np s ns c d j ^^^ km_U p np s ns c (d + 1) (j % 32) else km_K p np s ns c d j)
  unfold km_fo
  generalize d / c = e
  by_cases h : e * 32 ≤ j ∧ j < e * 32 + 32
  · rw [if_pos h, if_pos (by omega), show j - e * 32 = j % 32 by omega]
  · rw [if_neg h, if_neg (by omega)]
theorem km_U_a {p s f : Nat → Int32} {np ns c d : Nat} (h0 : d % c = 0) (h : ∀ j, j < ns → f j = s j) (j : Nat) : km_mk p np (km_put f ns (nI (d / c + 1))) (ns + 4) j = km_U p np s ns c (d + 1) j := by
  have e : km_U p np s ns c (d + 1) = km_mk p np (km_cat s ns (km_by (nI (d / c + 1)))) (ns + 4) := if_pos h0
  rw [e, km_mk_congr (fun _ _ => rfl) (km_salt_eq _ h)]
theorem km_U_b {p s f : Nat → Int32} {np ns c d : Nat} (h0 : ¬ d % c = 0) (h : ∀ j, j < 32 → f j = km_U p np s ns c d j) (j : Nat) : km_mk p np f 32 j = km_U p np s ns c (d + 1) j := by
  have e : km_U p np s ns c (d + 1) = km_mk p np (km_U p np s ns c d) 32 := if_neg h0
  rw [e, km_mk_congr (fun _ _ => rfl) h]
theorem km_put_kr {f : Nat → Int32} {n : Nat} (x : Int32) (h : ∀ j, j < n → kr (f j)) : ∀ j, j < n + 4 → kr (km_put f n x j) := by
  intro j hj
  unfold km_put
  split
  · exact km_by_kr _ _
  · exact h j (by omega)
theorem kr_eq {f g : Nat → Int32} {n : Nat} (h : ∀ j, j < n → f j = g j) (hg : ∀ j, j < n → kr (g j)) : ∀ j, j < n → kr (f j) := fun j hj => by rw [h j hj]; exact hg j hj
theorem km_min {k n : Nat} (hk : k < 2 ^ 31) (hn : n < 2 ^ 31) : (if nI n < nI k then nI n else nI k) = nI (min k n) := by
  by_cases h : n < k
  · rw [if_pos ((nI_ltI hn hk).mpr h), show min k n = n by omega]
  · rw [if_neg (fun z => h ((nI_ltI hn hk).mp z)), show min k n = k by omega]
section KC
variable {p s : Nat → Int32} {np ns c w d : Nat} {F F' : Nat → Nat → Int32}
theorem kC_same (h : kC (p, np, s, ns, c, w, d) F) (e0 : F' 0 = F 0) (e1 : F' 1 = F 1) (e2 : F' 2 = F 2) (e3 : F' 3 = F 3) (e12 : F' 12 = F 12) (e13 : F' 13 = F 13) : kC (p, np, s, ns, c, w, d) F' := by
  unfold kC at h ⊢
  rw [e0, e1, e2, e3, e12, e13]
  exact h
theorem kC_password (h : kC (p, np, s, ns, c, w, d) F) (b : Int32) (hw : w = 0) (e0 : F' 0 = upd (F 0) np b) (e1 : F' 1 = F 1) : kC (upd p np b, np + 1, s, ns, c, w, d) F' := by
  obtain ⟨h1, h2, h3⟩ := h
  refine ⟨fun j hj => ?_, by rw [e1]; exact h2, fun z => by omega⟩
  rw [e0]
  by_cases e : j = np
  · subst e; rw [pk_us, pk_us]
  · rw [pk_un e, pk_un e]; exact h1 j (by omega)
theorem kC_four (h : kC (p, np, s, ns, c, w, d) F) (x : Int32) (hw : w = 0) (e0 : F' 0 = km_put (F 0) np x) (e1 : F' 1 = F 1) : kC (km_put p np x, np + 4, s, ns, c, w, d) F' := by
  obtain ⟨h1, h2, h3⟩ := h
  refine ⟨fun j hj => ?_, by rw [e1]; exact h2, fun z => by omega⟩
  rw [e0]
  unfold km_put
  split
  · rfl
  · exact h1 j (by omega)
theorem kC_salt (h : kC (p, np, s, ns, c, w, d) F) (b : Int32) (hw : w = 0) (e0 : F' 0 = F 0) (e1 : F' 1 = upd (F 1) ns b) : kC (p, np, upd s ns b, ns + 1, c, w, d) F' := by
  obtain ⟨h1, h2, h3⟩ := h
  refine ⟨by rw [e0]; exact h1, fun j hj => ?_, fun z => by omega⟩
  rw [e1]
  by_cases e : j = ns
  · subst e; rw [pk_us, pk_us]
  · rw [pk_un e, pk_un e]; exact h2 j (by omega)
theorem kx_eq {p p' : Nat → Int32} {np : Nat} (h : ∀ j, j < np → p j = p' j) (x : Int32) : km_kx p np x = km_kx p' np x := by
  unfold km_kx
  rw [km_kb_congr h]
theorem kC_start (h : kC (p, np, s, ns, c, w, d) F) (t b : Nat) (e0 : F' 0 = F 0) (e1 : F' 1 = F 1) (e2 : F' 2 = fun _ => 0) (e12 : F' 12 = km_h (km_kx (F 0) np 54) 1) (e13 : F' 13 = km_h (km_kx (F 0) np 92) 1) : kC (p, np, s, ns, t, b, 0) F' := by
  obtain ⟨h1, h2, h3⟩ := h
  refine ⟨by rw [e0]; exact h1, by rw [e1]; exact h2, fun _ => ⟨fun j _ => by rw [e2]; rfl, fun z => by omega, fun j _ => ?_, fun j _ => ?_⟩⟩
  · rw [e12, kx_eq h1]
  · rw [e13, kx_eq h1]
theorem kC_mark (h : kC (p, np, s, ns, c, w, d) F) (e0 : F' 0 = F 0) (e1 : F' 1 = F 1) (e2 : F' 2 = F 2) (e3 : F' 3 = F 3) (e12 : F' 12 = km_h (km_kx (F 0) np 54) 1) (e13 : F' 13 = km_h (km_kx (F 0) np 92) 1) : kC (p, np, s, ns, c, w, d) F' := by
  obtain ⟨h1, h2, h3⟩ := h
  refine ⟨by rw [e0]; exact h1, by rw [e1]; exact h2, fun z => ⟨by rw [e2]; exact (h3 z).1, by rw [e3]; exact (h3 z).2.1, fun j _ => ?_, fun j _ => ?_⟩⟩
  · rw [e12, kx_eq h1]
  · rw [e13, kx_eq h1]
/-- behind turns: d' are done -/
theorem kC_turns {d' : Nat} (h : kC (p, np, s, ns, c, w, d) F) (e0 : F' 0 = F 0) (h1 : ∀ j, j < ns → F' 1 j = s j) (e2 : ∀ j, j < 128 → F' 2 j = km_K p np s ns c d' j) (e3 : 0 < d' → ∀ j, j < 32 → F' 3 j = km_U p np s ns c d' j) (e12 : ∀ j, j < 8 → F' 12 j = km_h (km_kx p np 54) 1 j) (e13 : ∀ j, j < 8 → F' 13 j = km_h (km_kx p np 92) 1 j) : kC (p, np, s, ns, c, w, d') F' :=
  ⟨by rw [e0]; exact h.1, h1, fun _ => ⟨e2, e3, e12, e13⟩⟩
theorem kC_reset (h : kC (p, np, s, ns, c, w, d) F) : kC (p, 0, s, 0, 0, 0, 0) F := ⟨fun j hj => by omega, fun j hj => by omega, fun z => by omega⟩
end KC
theorem kt_key {i c d : Nat} (hc : 0 < c) : (i < d / c * 32) ↔ (i / 32 + 1) * c ≤ d := by
  rw [← Nat.le_div_iff_mul_le hc]
  omega
theorem kt_pos {c d : Nat} (h : ¬ d % c = 0) : 0 < d := Nat.pos_of_ne_zero (fun z => h (by rw [z]; exact Nat.zero_mod c))
theorem kA_c0 {p s : Nat → Int32} {np ns c w d : Nat} (h : kA_ok (p, np, s, ns, c, w, d)) : c = 0 → d = 0 := by
  intro z
  obtain ⟨h1, h2, h3, h4, h5, h6, h7, h8, h9⟩ := h
  rcases Nat.eq_zero_or_pos w with y | y
  · exact (h7 y).2
  · have := h8 y; omega
theorem kA_d {p s : Nat → Int32} {np ns c w d d' : Nat} (h : kA_ok (p, np, s, ns, c, w, d)) (hw : 0 < w) (hd : d' ≤ kt_all c w) : kA_ok (p, np, s, ns, c, w, d') := by
  obtain ⟨h1, h2, h3, h4, h5, h6, h7, h8, h9⟩ := h
  exact ⟨h1, h2, h3, h4, h5, h6, fun z => by omega, h8, hd⟩
theorem kC_zero (p s : Nat → Int32) (F : Nat → Nat → Int32) : kC (p, 0, s, 0, 0, 0, 0) F := ⟨fun j hj => by omega, fun j hj => by omega, fun z => by omega⟩
theorem kn_1 {x M : Int32} {n : Nat} (hM : M.toInt = n) (h1 : ¬ x < 1) (h2 : ¬ M < x) : ∃ k : Nat, 1 ≤ k ∧ k ≤ n ∧ x = nI k := by
  have h0 : ¬ x < 0 := by
    intro z
    rw [Int32.lt_iff_toInt_lt] at h1 z
    have e1 : (1 : Int32).toInt = 1 := by decide
    have e0 : (0 : Int32).toInt = 0 := by decide
    omega
  obtain ⟨k, hk, rfl⟩ := nI_of2 hM h0 (Int32.not_lt.mp h2)
  have hkb : k < 2 ^ 31 := by
    have := M.toInt_lt
    omega
  refine ⟨k, ?_, hk, rfl⟩
  rcases Nat.eq_zero_or_pos k with z | z
  · subst z; exact absurd (by decide) h1
  · exact z
theorem kn_lt {x : Int32} {n : Nat} (hn : n < 2 ^ 31) (h1 : ¬ x < 0) (h2 : ¬ nI n ≤ x) : ∃ k : Nat, k < n ∧ x = nI k := by
  rcases pk_ix x hn with z | z | z
  · exact absurd z h1
  · exact absurd z h2
  · exact z
theorem kn_ge {x : Int32} {n : Nat} (hn : n < 2 ^ 31) (h : nI n ≤ x) : ¬ x.toNatClampNeg < n := by
  intro z
  have h0 : ¬ x < 0 := by
    intro y
    rw [Int32.lt_iff_toInt_lt, Int32.toInt_zero] at y
    rw [Int32.le_iff_toInt_le, nI_toInt hn] at h
    omega
  obtain ⟨j, hj, rfl⟩ := nI_of h0
  rw [nI_clamp hj] at z
  have := (nI_leI hn hj).mp h
  omega
theorem kn_3 {x : Int32} (h0 : ¬ x = 0) (h1 : ¬ x = 1) (h2 : ¬ x = 2) : x.toInt < 0 ∨ 2 < x.toInt := by
  rw [← Int32.toInt_inj] at h0 h1 h2
  have e0 : (0 : Int32).toInt = 0 := by decide
  have e1 : (1 : Int32).toInt = 1 := by decide
  have e2 : (2 : Int32).toInt = 2 := by decide
  omega
section KAE
variable {p s : Nat → Int32} {np ns c w d : Nat}
theorem ka_start_pos {t b : Nat} (hw : w = 0) (h1 : ¬ nI t < 1) (h2 : ¬ 1000 < nI t) (h3 : ¬ nI b < 1) (h4 : ¬ 100 < nI b) (ht : t < 2 ^ 31) (hb : b < 2 ^ 31) : ka_start (nI t) (nI b) (p, np, s, ns, c, w, d) = (nI (kt_all t b), (p, np, s, ns, t, b, 0)) := by
  unfold ka_start
  dsimp only
  rw [if_pos ⟨hw, h1, h2, h3, h4⟩, nI_clamp ht, nI_clamp hb]
theorem ka_run_pos {k : Nat} (hw : 0 < w) (hk : k < 2 ^ 31) : ka_run (nI k) (p, np, s, ns, c, w, d) = (nI (min k (kt_all c w - d)), (p, np, s, ns, c, w, d + min k (kt_all c w - d))) := by
  unfold ka_run
  dsimp only
  rw [if_pos ⟨hw, nI_pos hk⟩, nI_clamp hk]
theorem ka_key_pos {j : Nat} (hj : j < 2 ^ 31) (h1 : j < w) (h2 : (j / 32 + 1) * c ≤ d) : ka_key (nI j) (p, np, s, ns, c, w, d) = (km_K p np s ns c d j, (p, np, s, ns, c, w, d)) := by
  unfold ka_key
  dsimp only
  rw [nI_clamp hj, if_pos ⟨nI_pos hj, h1, h2⟩]
theorem ka_key_neg {i : Int32} (h : ¬ (¬ i < 0 ∧ i.toNatClampNeg < w ∧ (i.toNatClampNeg / 32 + 1) * c ≤ d)) : ka_key i (p, np, s, ns, c, w, d) = (-1, (p, np, s, ns, c, w, d)) := by
  unfold ka_key
  dsimp only
  rw [if_neg h]
theorem ka_sum_pos {k : Nat} (hk : k < 32) : ka_sum (nI k) (p, np, s, ns, c, w, d) = (km_s p np k, (p, np, s, ns, c, w, d)) := by
  unfold ka_sum
  dsimp only
  rw [nI_clamp (by omega), if_pos ⟨nI_pos (by omega), hk⟩]
theorem ka_sum_neg {i : Int32} (h : i < 0 ∨ 32 ≤ i) : ka_sum i (p, np, s, ns, c, w, d) = (-1, (p, np, s, ns, c, w, d)) := by
  unfold ka_sum
  dsimp only
  rw [if_neg (fun z => h.elim z.1 (fun y => kn_ge (n := 32) (by decide) y z.2))]
theorem ka_mark_pos {k : Nat} (hk : k < 32) : ka_mark (nI k) (p, np, s, ns, c, w, d) = (km_mk p np s ns k, (p, np, s, ns, c, w, d)) := by
  unfold ka_mark
  dsimp only
  rw [nI_clamp (by omega), if_pos ⟨nI_pos (by omega), hk⟩]
theorem ka_mark_neg {i : Int32} (h : i < 0 ∨ 32 ≤ i) : ka_mark i (p, np, s, ns, c, w, d) = (-1, (p, np, s, ns, c, w, d)) := by
  unfold ka_mark
  dsimp only
  rw [if_neg (fun z => h.elim z.1 (fun y => kn_ge (n := 32) (by decide) y z.2))]
theorem ka_left_pos (hw : 0 < w) : ka_left (p, np, s, ns, c, w, d) = (nI (kt_all c w - d), (p, np, s, ns, c, w, d)) := by
  unfold ka_left
  dsimp only
  rw [if_pos hw]
theorem ka_left_neg (hw : w = 0) : ka_left (p, np, s, ns, c, w, d) = (-1, (p, np, s, ns, c, w, d)) := by
  unfold ka_left
  dsimp only
  rw [if_neg (by omega)]
end KAE

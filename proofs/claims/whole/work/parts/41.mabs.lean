/-! the reference's rows, purely -/
def kMy (a : kA) (Y : Nat → Int32) : Prop := match a with
  | (_, _, _, _, c, w, d) => (w = 0 ∧ Y 0 = 0) ∨ (0 < w ∧ Y 0 = 1 ∧ Y 1 = nI c ∧ Y 2 = nI w ∧ Y 3 = nI d)
theorem kr_nar {b : Int32} (h1 : ¬ b < 0) (h2 : ¬ 255 < b) : b.toInt8.toInt32.toInt8.toInt32 &&& 255 = b := by
  rw [bp_b2]
  exact kr_small h1 h2
section KM
variable {p s : Nat → Int32} {np ns c w d : Nat} {fs fg fl fp fs' fg' fl' fp' : Nat → Int32}
theorem kM_password (h : kM (p, np, s, ns, c, w, d) fs fg fl fp) {b : Int32} (h1 : ¬ b < 0) (h2 : ¬ 255 < b) (hw : w = 0) : kM (upd p np b, np + 1, s, ns, c, w, d) (upd fs np b.toInt8.toInt32.toInt8.toInt32) fg fl fp := by
  obtain ⟨g1, g2, g3⟩ := h
  refine ⟨fun j hj => ?_, g2, fun z => by omega⟩
  by_cases e : j = np
  · subst e; rw [pk_us, pk_us]; exact kr_nar h1 h2
  · rw [pk_un e, pk_un e]; exact g1 j (by omega)
theorem kM_salt (h : kM (p, np, s, ns, c, w, d) fs fg fl fp) {b : Int32} (h1 : ¬ b < 0) (h2 : ¬ 255 < b) (hw : w = 0) : kM (p, np, upd s ns b, ns + 1, c, w, d) fs (upd fg ns b.toInt8.toInt32.toInt8.toInt32) fl fp := by
  obtain ⟨g1, g2, g3⟩ := h
  refine ⟨g1, fun j hj => ?_, fun z => by omega⟩
  by_cases e : j = ns
  · subst e; rw [pk_us, pk_us]; exact kr_nar h1 h2
  · rw [pk_un e, pk_un e]; exact g2 j (by omega)
theorem kM_four (h : kM (p, np, s, ns, c, w, d) fs fg fl fp) {x : Int32} (h1 : ∀ j, j < np → fs' j = fs j) (h2 : ∀ j, j < 4 → fs' (np + j) &&& 255 = km_by x j) (hw : w = 0) : kM (km_put p np x, np + 4, s, ns, c, w, d) fs' fg fl fp := by
  obtain ⟨g1, g2, g3⟩ := h
  refine ⟨fun j hj => ?_, g2, fun z => by omega⟩
  by_cases e : j < np
  · rw [h1 j e, km_put_out (by omega)]; exact g1 j e
  · obtain ⟨i, rfl⟩ : ∃ i, j = np + i := ⟨j - np, by omega⟩
    rw [h2 i (by omega), km_put_in (by omega)]
theorem kM_start (h : kM (p, np, s, ns, c, w, d) fs fg fl fp) (t b : Nat) (h1 : ∀ j, j < 128 → fp' j = 0) : kM (p, np, s, ns, t, b, 0) fs fg fl fp' := by
  obtain ⟨g1, g2, g3⟩ := h
  exact ⟨g1, g2, fun _ => ⟨fun j hj => by rw [h1 j hj]; rfl, fun z => by omega⟩⟩
theorem kM_turn {d' : Nat} (h : kM (p, np, s, ns, c, w, d) fs fg fl fp) (h1 : ∀ j, j < ns → fg' j &&& 255 = s j) (h2 : ∀ j, j < 32 → fl' j &&& 255 = km_U p np s ns c d' j) (h3 : ∀ j, j < 128 → fp' j &&& 255 = km_K p np s ns c d' j) : kM (p, np, s, ns, c, w, d') fs fg' fl' fp' :=
  ⟨h.1, h1, fun _ => ⟨h3, fun _ => h2⟩⟩
theorem kM_zero (p s fs fg fl fp : Nat → Int32) : kM (p, 0, s, 0, 0, 0, 0) fs fg fl fp := ⟨fun j hj => by omega, fun j hj => by omega, fun z => by omega⟩
theorem kg_cat {x : Int32} (h1 : ∀ j, j < ns → fg' j &&& 255 = s j) (h2 : ∀ j, j < 4 → fg' (ns + j) &&& 255 = km_by x j) : ∀ j, j < ns + 4 → fg' j &&& 255 = km_cat s ns (km_by x) j := by
  intro j hj
  by_cases e : j < ns
  · rw [km_cat_lo e]; exact h1 j e
  · obtain ⟨i, rfl⟩ : ∃ i, j = ns + i := ⟨j - ns, by omega⟩
    rw [km_cat_hi]; exact h2 i (by omega)
theorem kg_U {res : Nat → Int32} (h0 : d % c = 0) (h : ∀ j, j < 32 → res j &&& 255 = km_mk p np (km_cat s ns (km_by (nI (d / c + 1)))) (ns + 4) j) : ∀ j, j < 32 → res j &&& 255 = km_U p np s ns c (d + 1) j := by
  intro j hj
  have e : km_U p np s ns c (d + 1) = km_mk p np (km_cat s ns (km_by (nI (d / c + 1)))) (ns + 4) := if_pos h0
  rw [e]
  exact h j hj
theorem kg_V {res : Nat → Int32} (h0 : ¬ d % c = 0) (h : ∀ j, j < 32 → res j &&& 255 = km_mk p np (km_U p np s ns c d) 32 j) : ∀ j, j < 32 → res j &&& 255 = km_U p np s ns c (d + 1) j := by
  intro j hj
  have e : km_U p np s ns c (d + 1) = km_mk p np (km_U p np s ns c d) 32 := if_neg h0
  rw [e]
  exact h j hj
end KM
theorem kf_step {k U fp : Nat → Int32} {e i : Nat} {r : Int32} (he : e < 4) (hi : i < 32) (h : ∀ j, j < 128 → fp j &&& 255 = km_fo k U e i j) (hr : r &&& 255 = U i) : ∀ j, j < 128 → upd fp (32 * e + i) (fp (32 * e + i) ^^^ r).toInt8.toInt32.toInt8.toInt32 j &&& 255 = km_fo k U e (i + 1) j := by
  intro j hj
  rw [← km_fo_next k U e i j, Nat.mul_comm 32 e]
  by_cases x : j = e * 32 + i
  · subst x
    rw [pk_us, pk_us, bp_b2, kr_xor_and, h _ hj, hr]
  · rw [pk_un x, pk_un x]; exact h j hj
theorem kf_end {p s fp : Nat → Int32} {np ns c d : Nat} (h : ∀ j, j < 128 → fp j &&& 255 = km_fo (km_K p np s ns c d) (km_U p np s ns c (d + 1)) (d / c) 32 j) : ∀ j, j < 128 → fp j &&& 255 = km_K p np s ns c (d + 1) j := fun j hj => by rw [h j hj, km_K_next]
def km_d3 (i : Nat) : Int32 := 3 - nI i
theorem km_d3_lt : ∀ i, i < 5 → (km_d3 i < 0 ↔ i = 4) := by decide +kernel
theorem km_d3_at : ∀ i, i < 4 → km_d3 i = nI (3 - i) := by decide +kernel
theorem km_d3_next : ∀ i, i < 4 → km_d3 i + Int32.ofInt (-1) = km_d3 (i + 1) := by decide +kernel
theorem km_by_nar3 (x : Int32) (i : Nat) (hi : i < 4) : (x >>> (nI (8 * (3 - i)) &&& 31)).toInt8.toInt32.toInt8.toInt32 &&& 255 = km_by x i := by
  rw [bp_b, show 8 * (3 - i) = 24 - 8 * i by omega]
  exact km_by_nar x i hi
theorem km_by_nar2 (x : Int32) (i : Nat) (hi : i < 4) : (x >>> (nI (24 - 8 * i) &&& 31)).toInt8.toInt32.toInt8.toInt32 &&& 255 = km_by x i := by
  rw [bp_b]
  exact km_by_nar x i hi
theorem kt_all_eq (c w : Nat) : (w + 32 - 1) / 32 * c = kt_all c w := by
  unfold kt_all
  rw [show w + 32 - 1 = w + 31 by omega]
